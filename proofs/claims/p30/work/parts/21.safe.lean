abbrev Rm_cX10_makeOf_1671e : Room := { frames := 3, cells := 0, slots := 0, locals := 81 }
abbrev B_cX10_makeOf_1671e (D : va_G) (k : Nat → ClassId) (h0 h1 h12 h14 h2 h3 h4 h5 h6 h7 h8 h9 h10 h11 h13 : Nat) (x1 : Int32) (x2 : Int32) (x3 : Int32) (h0f2 : Int32) (h0f6 : Int32) (h0f8 : Int32) (h0f11 : Int32) (h1f0 : Int32) (h1f1 : Int32) (h1f2 : Int32) (A : Nat → Prop) (H : Heap) : Prop := TP D A [(h0, ob 7 [.ref h1, .ref h2, .int h0f2, .ref h3, .ref h4, .ref h5, .int h0f6, .ref h6, .int h0f8, .ref h7, .ref h8, .int h0f11, .ref h9, .ref h10, .ref h11, .ref h12, .ref h13]), (h1, ob 4 [.int h1f0, .int h1f1, .int h1f2, .ref h14]), (h12, aJ (k 1) 9 anJ), (h14, aJ (k 1) 36 anJ)] H
set_option maxHeartbeats 4000000 in
set_option maxRecDepth 100000 in
theorem cX10_makeOf_1671e (l : Launch) (D : va_G) (k : Nat → ClassId) (sz : Nat) (h0 h1 h12 h14 h2 h3 h4 h5 h6 h7 h8 h9 h10 h11 h13 : Nat) (x1 : Int32) (x2 : Int32) (x3 : Int32) (h0f2 : Int32) (h0f6 : Int32) (h0f8 : Int32) (h0f11 : Int32) (h1f0 : Int32) (h1f1 : Int32) (h1f2 : Int32) (b_x1 : 1 ≤ x1.toInt ∧ x1.toInt ≤ 3) (b_x2 : 0 ≤ x2.toInt ∧ x2.toInt ≤ 2) (b_h0f2 : 0 ≤ h0f2.toInt ∧ h0f2.toInt ≤ 1) (b_h0f6 : 0 ≤ h0f6.toInt ∧ h0f6.toInt ≤ 1) (b_h0f8 : 0 ≤ h0f8.toInt ∧ h0f8.toInt ≤ 1) (b_h0f11 : 0 ≤ h0f11.toInt ∧ h0f11.toInt ≤ 200) (b_h1f0 : 1 ≤ h1f0.toInt ∧ h1f0.toInt ≤ 3) (b_h1f1 : 1 ≤ h1f1.toInt ∧ h1f1.toInt ≤ 3) : Met l yX10_makeOf (Cond.code yX10_makeOf cX10_makeOf 5 none :: uw) Rm_cX10_makeOf_1671e (pT D k sz [.ref h0, .int x1, .int x2, .int x3] [(h0, ob 7 [.ref h1, .ref h2, .int h0f2, .ref h3, .ref h4, .ref h5, .int h0f6, .ref h6, .int h0f8, .ref h7, .ref h8, .int h0f11, .ref h9, .ref h10, .ref h11, .ref h12, .ref h13]), (h1, ob 4 [.int h1f0, .int h1f1, .int h1f2, .ref h14]), (h12, aJ (k 1) 9 anJ), (h14, aJ (k 1) 36 anJ)]) (qV (B_cX10_makeOf_1671e D k h0 h1 h12 h14 h2 h3 h4 h5 h6 h7 h8 h9 h10 h11 h13 x1 x2 x3 h0f2 h0f6 h0f8 h0f11 h1f0 h1f1 h1f2 (zA [h0, h1, h12, h14] sz)) (zA [h0, h1, h12, h14] sz)) 0 0 (zA [h0, h1, h12, h14] sz) := by
  refine tz_begin (as := [h0, h1, h12, h14]) (Qc := fun A => qV (B_cX10_makeOf_1671e D k h0 h1 h12 h14 h2 h3 h4 h5 h6 h7 h8 h9 h10 h11 h13 x1 x2 x3 h0f2 h0f6 h0f8 h0f11 h1f0 h1f1 h1f2 A) A) (by decide +kernel) rfl (Nat.le_of_ble_eq_true rfl) ?_
  intro p e s m args below meth c ls A Q hx hb hr hml hown hlocks hin hU hK hT hS hA hl hQ
  have hl : lv_has ls 5 [(0, .ref h0), (1, .int x1), (2, .int x2), (3, .int x3)] := hl
  have hT : TP D A [(h0, ob 7 [.ref h1, .ref h2, .int h0f2, .ref h3, .ref h4, .ref h5, .int h0f6, .ref h6, .int h0f8, .ref h7, .ref h8, .int h0f11, .ref h9, .ref h10, .ref h11, .ref h12, .ref h13]), (h1, ob 4 [.int h1f0, .int h1f1, .int h1f2, .ref h14]), (h12, aJ (k 1) 9 anJ), (h14, aJ (k 1) 36 anJ)] s.heap := hT
  refine lv_iload_n hx hb dX10_makeOf_0 rfl (lv_at hl 2 rfl) ?_
  refine lv_bipush (v := 9) hx hb dX10_makeOf_1 (by decide) ?_
  refine lv_imul hx hb dX10_makeOf_3 (lv_topi (fun v1 e_v1 => ?_))
  have e_v1 := ai_mul e_v1 rfl li_9 (by omega)
  refine lv_istore (lv' := [(4, .int v1), (0, .ref h0), (1, .int x1), (2, .int x2), (3, .int x3)]) hx hb dX10_makeOf_4 hl (by decide) rfl (fun ls hl => ?_)
  refine lv_iload_n hx hb dX10_makeOf_6 rfl (lv_at hl 2 rfl) ?_
  refine lv_if_ne (tgt := 47) hx hb dX10_makeOf_7 (by decide) (fun c_2 => ?_) (fun c_2 => ?_)
  · skip
    have c_2 := ni_ne c_2 rfl li_0
    refine lv_iload_n hx hb dX10_makeOf_47 rfl (lv_at hl 2 rfl) ?_
    refine lv_iconst (v := 1) hx hb dX10_makeOf_48 (by decide) ?_
    refine lv_icmp_ne (tgt := 78) hx hb dX10_makeOf_49 (by decide) (fun c_3 => ?_) (fun c_3 => ?_)
    · skip
      have c_3 := ni_ne c_3 rfl li_1
      refine lv_iload_n hx hb dX10_makeOf_78 rfl (lv_at hl 2 rfl) ?_
      refine lv_iconst (v := 2) hx hb dX10_makeOf_79 (by decide) ?_
      refine lv_icmp_ne (tgt := 109) hx hb dX10_makeOf_80 (by decide) (fun c_4 => ?_) (fun c_4 => ?_)
      · skip
        have c_4 := ni_ne c_4 rfl li_2
        refine lv_aload_n hx hb dX10_makeOf_109 rfl (lv_at hl 1 rfl) ?_
        refine tz_get (ci := 7) (v := .ref h1) (C := RX10) (F := TX10) (N := 17) hx hb hU iX10 hown hK hT 0 rfl rfl 0 (by decide) w249 (fun _ h9 => h9) rfl dX10_makeOf_110 ?_
        refine tz_get (ci := 4) (v := .ref h14) (C := RX5) (F := TX5) (N := 4) hx hb hU iX5 hown hK hT 1 rfl rfl 3 (by decide) w103 (fun _ h9 => h9) rfl dX10_makeOf_113 ?_
        refine lv_iload hx hb dX10_makeOf_116 (lv_at hl 0 rfl) ?_
        refine lv_aload_n hx hb dX10_makeOf_118 rfl (lv_at hl 1 rfl) ?_
        refine tz_get (ci := 7) (v := .ref h12) (C := RX10) (F := TX10) (N := 17) hx hb hU iX10 hown hK hT 0 rfl rfl 15 (by decide) w264 (fun _ h9 => h9) rfl dX10_makeOf_119 ?_
        refine lv_aload_n hx hb dX10_makeOf_122 rfl (lv_at hl 1 rfl) ?_
        refine tz_get (ci := 7) (v := .ref h1) (C := RX10) (F := TX10) (N := 17) hx hb hU iX10 hown hK hT 0 rfl rfl 0 (by decide) w249 (fun _ h9 => h9) rfl dX10_makeOf_123 ?_
        refine tz_get (ci := 4) (v := .int h1f0) (C := RX5) (F := TX5) (N := 4) hx hb hU iX5 hown hK hT 1 rfl rfl 0 (by decide) w93 (fun _ h9 => h9) rfl dX10_makeOf_126 ?_
        refine tcV (Tc := [(h14, aJ (k 1) 36 anJ), (h12, aJ (k 1) 9 anJ)]) (Tr := [(h0, ob 7 [.ref h1, .ref h2, .int h0f2, .ref h3, .ref h4, .ref h5, .int h0f6, .ref h6, .int h0f8, .ref h7, .ref h8, .int h0f11, .ref h9, .ref h10, .ref h11, .ref h12, .ref h13]), (h1, ob 4 [.int h1f0, .int h1f1, .int h1f2, .ref h14])]) (as := [h14, h12]) (zcS (As := [.ref h14, .int v1, .ref h12, .int h1f0]) (rest := []) (Tc := [(h14, aJ (k 1) 36 anJ), (h12, aJ (k 1) 9 anJ)]) hx hb hml hown hU hK hT [3, 2] rfl (by decide) (cX7_negate_f53fc l D k _ h14 h12 v1 h1f0 (by omega) (by omega)) w381 w379 w380 w74 hdX7_negate ⟨rfl, rfl⟩ ⟨Nat.le_of_ble_eq_true rfl, Nat.le_of_ble_eq_true rfl⟩ rfl hl.1 (Nat.le_of_ble_eq_true rfl) dX10_makeOf_129 ⟨Nat.le_of_ble_eq_true rfl, Nat.le_of_ble_eq_true rfl⟩) hT hS hA [3, 2] [0, 1] rfl rfl rfl (by decide) (by decide) (fun H locs hB J hS => ?_)
        have hT1 := hB
        have hT := J _ hT1
        have hT : TP D A [(h0, ob 7 [.ref h1, .ref h2, .int h0f2, .ref h3, .ref h4, .ref h5, .int h0f6, .ref h6, .int h0f8, .ref h7, .ref h8, .int h0f11, .ref h9, .ref h10, .ref h11, .ref h12, .ref h13]), (h1, ob 4 [.int h1f0, .int h1f1, .int h1f2, .ref h14]), (h14, aJ (k 1) 36 anJ), (h12, aJ (k 1) 9 anJ)] _ := hT
        exact tz_retV (B := B_cX10_makeOf_1671e D k h0 h1 h12 h14 h2 h3 h4 h5 h6 h7 h8 h9 h10 h11 h13 x1 x2 x3 h0f2 h0f6 h0f8 h0f11 h1f0 h1f1 h1f2) hQ hx hb hr hlocks hS (Nat.le_of_ble_eq_true rfl) (Nat.le_of_ble_eq_true rfl) dX10_makeOf_132 ((hT.sub [0, 1, 3, 2] (by decide) rfl))
      · skip
        have c_4 := ni_eq c_4 rfl li_2
        refine lv_aload_n hx hb dX10_makeOf_83 rfl (lv_at hl 1 rfl) ?_
        refine tz_get (ci := 7) (v := .ref h1) (C := RX10) (F := TX10) (N := 17) hx hb hU iX10 hown hK hT 0 rfl rfl 0 (by decide) w249 (fun _ h9 => h9) rfl dX10_makeOf_84 ?_
        refine tz_get (ci := 4) (v := .ref h14) (C := RX5) (F := TX5) (N := 4) hx hb hU iX5 hown hK hT 1 rfl rfl 3 (by decide) w103 (fun _ h9 => h9) rfl dX10_makeOf_87 ?_
        refine lv_iload hx hb dX10_makeOf_90 (lv_at hl 0 rfl) ?_
        refine lv_aload_n hx hb dX10_makeOf_92 rfl (lv_at hl 1 rfl) ?_
        refine tz_get (ci := 7) (v := .ref h12) (C := RX10) (F := TX10) (N := 17) hx hb hU iX10 hown hK hT 0 rfl rfl 15 (by decide) w264 (fun _ h9 => h9) rfl dX10_makeOf_93 ?_
        refine lv_aload_n hx hb dX10_makeOf_96 rfl (lv_at hl 1 rfl) ?_
        refine tz_get (ci := 7) (v := .ref h1) (C := RX10) (F := TX10) (N := 17) hx hb hU iX10 hown hK hT 0 rfl rfl 0 (by decide) w249 (fun _ h9 => h9) rfl dX10_makeOf_97 ?_
        refine tz_get (ci := 4) (v := .int h1f0) (C := RX5) (F := TX5) (N := 4) hx hb hU iX5 hown hK hT 1 rfl rfl 0 (by decide) w93 (fun _ h9 => h9) rfl dX10_makeOf_100 ?_
        refine tcV (Tc := [(h14, aJ (k 1) 36 anJ), (h12, aJ (k 1) 9 anJ)]) (Tr := [(h0, ob 7 [.ref h1, .ref h2, .int h0f2, .ref h3, .ref h4, .ref h5, .int h0f6, .ref h6, .int h0f8, .ref h7, .ref h8, .int h0f11, .ref h9, .ref h10, .ref h11, .ref h12, .ref h13]), (h1, ob 4 [.int h1f0, .int h1f1, .int h1f2, .ref h14])]) (as := [h14, h12]) (zcS (As := [.ref h14, .int v1, .ref h12, .int h1f0]) (rest := []) (Tc := [(h14, aJ (k 1) 36 anJ), (h12, aJ (k 1) 9 anJ)]) hx hb hml hown hU hK hT [3, 2] rfl (by decide) (cX7_turn_1605a l D k _ h14 h12 v1 h1f0 (by omega) (by omega)) w378 w376 w377 w74 hdX7_turn ⟨rfl, rfl⟩ ⟨Nat.le_of_ble_eq_true rfl, Nat.le_of_ble_eq_true rfl⟩ rfl hl.1 (Nat.le_of_ble_eq_true rfl) dX10_makeOf_103 ⟨Nat.le_of_ble_eq_true rfl, Nat.le_of_ble_eq_true rfl⟩) hT hS hA [3, 2] [0, 1] rfl rfl rfl (by decide) (by decide) (fun H locs hB J hS => ?_)
        have hT1 := hB
        have hT := J _ hT1
        have hT : TP D A [(h0, ob 7 [.ref h1, .ref h2, .int h0f2, .ref h3, .ref h4, .ref h5, .int h0f6, .ref h6, .int h0f8, .ref h7, .ref h8, .int h0f11, .ref h9, .ref h10, .ref h11, .ref h12, .ref h13]), (h1, ob 4 [.int h1f0, .int h1f1, .int h1f2, .ref h14]), (h14, aJ (k 1) 36 anJ), (h12, aJ (k 1) 9 anJ)] _ := hT
        refine lv_goto (tgt := 132) hx hb dX10_makeOf_106 (by decide) ?_
        exact tz_retV (B := B_cX10_makeOf_1671e D k h0 h1 h12 h14 h2 h3 h4 h5 h6 h7 h8 h9 h10 h11 h13 x1 x2 x3 h0f2 h0f6 h0f8 h0f11 h1f0 h1f1 h1f2) hQ hx hb hr hlocks hS (Nat.le_of_ble_eq_true rfl) (Nat.le_of_ble_eq_true rfl) dX10_makeOf_132 ((hT.sub [0, 1, 3, 2] (by decide) rfl))
    · skip
      have c_3 := ni_eq c_3 rfl li_1
      refine lv_aload_n hx hb dX10_makeOf_52 rfl (lv_at hl 1 rfl) ?_
      refine tz_get (ci := 7) (v := .ref h1) (C := RX10) (F := TX10) (N := 17) hx hb hU iX10 hown hK hT 0 rfl rfl 0 (by decide) w249 (fun _ h9 => h9) rfl dX10_makeOf_53 ?_
      refine tz_get (ci := 4) (v := .ref h14) (C := RX5) (F := TX5) (N := 4) hx hb hU iX5 hown hK hT 1 rfl rfl 3 (by decide) w103 (fun _ h9 => h9) rfl dX10_makeOf_56 ?_
      refine lv_iload hx hb dX10_makeOf_59 (lv_at hl 0 rfl) ?_
      refine lv_aload_n hx hb dX10_makeOf_61 rfl (lv_at hl 1 rfl) ?_
      refine tz_get (ci := 7) (v := .ref h12) (C := RX10) (F := TX10) (N := 17) hx hb hU iX10 hown hK hT 0 rfl rfl 15 (by decide) w264 (fun _ h9 => h9) rfl dX10_makeOf_62 ?_
      refine lv_aload_n hx hb dX10_makeOf_65 rfl (lv_at hl 1 rfl) ?_
      refine tz_get (ci := 7) (v := .ref h1) (C := RX10) (F := TX10) (N := 17) hx hb hU iX10 hown hK hT 0 rfl rfl 0 (by decide) w249 (fun _ h9 => h9) rfl dX10_makeOf_66 ?_
      refine tz_get (ci := 4) (v := .int h1f0) (C := RX5) (F := TX5) (N := 4) hx hb hU iX5 hown hK hT 1 rfl rfl 0 (by decide) w93 (fun _ h9 => h9) rfl dX10_makeOf_69 ?_
      refine tcV (Tc := [(h14, aJ (k 1) 36 anJ), (h12, aJ (k 1) 9 anJ)]) (Tr := [(h0, ob 7 [.ref h1, .ref h2, .int h0f2, .ref h3, .ref h4, .ref h5, .int h0f6, .ref h6, .int h0f8, .ref h7, .ref h8, .int h0f11, .ref h9, .ref h10, .ref h11, .ref h12, .ref h13]), (h1, ob 4 [.int h1f0, .int h1f1, .int h1f2, .ref h14])]) (as := [h14, h12]) (zcS (As := [.ref h14, .int v1, .ref h12, .int h1f0]) (rest := []) (Tc := [(h14, aJ (k 1) 36 anJ), (h12, aJ (k 1) 9 anJ)]) hx hb hml hown hU hK hT [3, 2] rfl (by decide) (cX7_invert_5336c l D k _ h14 h12 v1 h1f0 (by omega) (by omega)) w369 w367 w368 w74 hdX7_invert ⟨rfl, rfl⟩ ⟨Nat.le_of_ble_eq_true rfl, Nat.le_of_ble_eq_true rfl⟩ rfl hl.1 (Nat.le_of_ble_eq_true rfl) dX10_makeOf_72 ⟨Nat.le_of_ble_eq_true rfl, Nat.le_of_ble_eq_true rfl⟩) hT hS hA [3, 2] [0, 1] rfl rfl rfl (by decide) (by decide) (fun H locs hB J hS => ?_)
      have hT1 := hB
      have hT := J _ hT1
      have hT : TP D A [(h0, ob 7 [.ref h1, .ref h2, .int h0f2, .ref h3, .ref h4, .ref h5, .int h0f6, .ref h6, .int h0f8, .ref h7, .ref h8, .int h0f11, .ref h9, .ref h10, .ref h11, .ref h12, .ref h13]), (h1, ob 4 [.int h1f0, .int h1f1, .int h1f2, .ref h14]), (h14, aJ (k 1) 36 anJ), (h12, aJ (k 1) 9 anJ)] _ := hT
      refine lv_goto (tgt := 132) hx hb dX10_makeOf_75 (by decide) ?_
      exact tz_retV (B := B_cX10_makeOf_1671e D k h0 h1 h12 h14 h2 h3 h4 h5 h6 h7 h8 h9 h10 h11 h13 x1 x2 x3 h0f2 h0f6 h0f8 h0f11 h1f0 h1f1 h1f2) hQ hx hb hr hlocks hS (Nat.le_of_ble_eq_true rfl) (Nat.le_of_ble_eq_true rfl) dX10_makeOf_132 ((hT.sub [0, 1, 3, 2] (by decide) rfl))
  · skip
    have c_2 := ni_eq c_2 rfl li_0
    exfalso; omega
abbrev Rm_cX10_makeOf_f7798 : Room := { frames := 2, cells := 0, slots := 0, locals := 56 }
abbrev B_cX10_makeOf_f7798 (D : va_G) (k : Nat → ClassId) (h0 h1 h12 h14 h2 h3 h4 h5 h6 h7 h8 h9 h10 h11 h13 : Nat) (x1 : Int32) (x2 : Int32) (x3 : Int32) (h0f2 : Int32) (h0f6 : Int32) (h0f8 : Int32) (h0f11 : Int32) (h1f0 : Int32) (h1f1 : Int32) (h1f2 : Int32) (A : Nat → Prop) (H : Heap) : Prop := TP D A [(h0, ob 7 [.ref h1, .ref h2, .int h0f2, .ref h3, .ref h4, .ref h5, .int h0f6, .ref h6, .int h0f8, .ref h7, .ref h8, .int h0f11, .ref h9, .ref h10, .ref h11, .ref h12, .ref h13]), (h1, ob 4 [.int h1f0, .int h1f1, .int h1f2, .ref h14]), (h12, aJ (k 1) 9 anJ), (h14, aJ (k 1) 36 anJ)] H
set_option maxHeartbeats 4000000 in
set_option maxRecDepth 100000 in
theorem cX10_makeOf_f7798 (l : Launch) (D : va_G) (k : Nat → ClassId) (sz : Nat) (h0 h1 h12 h14 h2 h3 h4 h5 h6 h7 h8 h9 h10 h11 h13 : Nat) (x1 : Int32) (x2 : Int32) (x3 : Int32) (h0f2 : Int32) (h0f6 : Int32) (h0f8 : Int32) (h0f11 : Int32) (h1f0 : Int32) (h1f1 : Int32) (h1f2 : Int32) (b_x1 : 0 ≤ x1.toInt ∧ x1.toInt ≤ 0) (b_x2 : 0 ≤ x2.toInt ∧ x2.toInt ≤ 2) (b_x3 : 0 ≤ x3.toInt ∧ x3.toInt ≤ 2) (b_h0f2 : 0 ≤ h0f2.toInt ∧ h0f2.toInt ≤ 1) (b_h0f6 : 0 ≤ h0f6.toInt ∧ h0f6.toInt ≤ 1) (b_h0f8 : 0 ≤ h0f8.toInt ∧ h0f8.toInt ≤ 1) (b_h0f11 : 0 ≤ h0f11.toInt ∧ h0f11.toInt ≤ 200) (b_h1f0 : 1 ≤ h1f0.toInt ∧ h1f0.toInt ≤ 3) (b_h1f1 : 1 ≤ h1f1.toInt ∧ h1f1.toInt ≤ 3) : Met l yX10_makeOf (Cond.code yX10_makeOf cX10_makeOf 5 none :: uw) Rm_cX10_makeOf_f7798 (pT D k sz [.ref h0, .int x1, .int x2, .int x3] [(h0, ob 7 [.ref h1, .ref h2, .int h0f2, .ref h3, .ref h4, .ref h5, .int h0f6, .ref h6, .int h0f8, .ref h7, .ref h8, .int h0f11, .ref h9, .ref h10, .ref h11, .ref h12, .ref h13]), (h1, ob 4 [.int h1f0, .int h1f1, .int h1f2, .ref h14]), (h12, aJ (k 1) 9 anJ), (h14, aJ (k 1) 36 anJ)]) (qV (B_cX10_makeOf_f7798 D k h0 h1 h12 h14 h2 h3 h4 h5 h6 h7 h8 h9 h10 h11 h13 x1 x2 x3 h0f2 h0f6 h0f8 h0f11 h1f0 h1f1 h1f2 (zA [h0, h1, h12, h14] sz)) (zA [h0, h1, h12, h14] sz)) 0 0 (zA [h0, h1, h12, h14] sz) := by
  refine tz_begin (as := [h0, h1, h12, h14]) (Qc := fun A => qV (B_cX10_makeOf_f7798 D k h0 h1 h12 h14 h2 h3 h4 h5 h6 h7 h8 h9 h10 h11 h13 x1 x2 x3 h0f2 h0f6 h0f8 h0f11 h1f0 h1f1 h1f2 A) A) (by decide +kernel) rfl (Nat.le_of_ble_eq_true rfl) ?_
  intro p e s m args below meth c ls A Q hx hb hr hml hown hlocks hin hU hK hT hS hA hl hQ
  have hl : lv_has ls 5 [(0, .ref h0), (1, .int x1), (2, .int x2), (3, .int x3)] := hl
  have hT : TP D A [(h0, ob 7 [.ref h1, .ref h2, .int h0f2, .ref h3, .ref h4, .ref h5, .int h0f6, .ref h6, .int h0f8, .ref h7, .ref h8, .int h0f11, .ref h9, .ref h10, .ref h11, .ref h12, .ref h13]), (h1, ob 4 [.int h1f0, .int h1f1, .int h1f2, .ref h14]), (h12, aJ (k 1) 9 anJ), (h14, aJ (k 1) 36 anJ)] s.heap := hT
  refine lv_iload_n hx hb dX10_makeOf_0 rfl (lv_at hl 2 rfl) ?_
  refine lv_bipush (v := 9) hx hb dX10_makeOf_1 (by decide) ?_
  refine lv_imul hx hb dX10_makeOf_3 (lv_topi (fun v1 e_v1 => ?_))
  have e_v1 := ai_mul e_v1 rfl li_9 (by omega)
  refine lv_istore (lv' := [(4, .int v1), (0, .ref h0), (1, .int x1), (2, .int x2), (3, .int x3)]) hx hb dX10_makeOf_4 hl (by decide) rfl (fun ls hl => ?_)
  refine lv_iload_n hx hb dX10_makeOf_6 rfl (lv_at hl 2 rfl) ?_
  refine lv_if_ne (tgt := 47) hx hb dX10_makeOf_7 (by decide) (fun c_2 => ?_) (fun c_2 => ?_)
  · skip
    have c_2 := ni_ne c_2 rfl li_0
    exfalso; omega
  · skip
    have c_2 := ni_eq c_2 rfl li_0
    refine lv_aload_n hx hb dX10_makeOf_10 rfl (lv_at hl 1 rfl) ?_
    refine tz_get (ci := 7) (v := .ref h1) (C := RX10) (F := TX10) (N := 17) hx hb hU iX10 hown hK hT 0 rfl rfl 0 (by decide) w249 (fun _ h9 => h9) rfl dX10_makeOf_11 ?_
    refine tz_get (ci := 4) (v := .ref h14) (C := RX5) (F := TX5) (N := 4) hx hb hU iX5 hown hK hT 1 rfl rfl 3 (by decide) w103 (fun _ h9 => h9) rfl dX10_makeOf_14 ?_
    refine lv_iload hx hb dX10_makeOf_17 (lv_at hl 0 rfl) ?_
    refine lv_aload_n hx hb dX10_makeOf_19 rfl (lv_at hl 1 rfl) ?_
    refine tz_get (ci := 7) (v := .ref h1) (C := RX10) (F := TX10) (N := 17) hx hb hU iX10 hown hK hT 0 rfl rfl 0 (by decide) w249 (fun _ h9 => h9) rfl dX10_makeOf_20 ?_
    refine tz_get (ci := 4) (v := .ref h14) (C := RX5) (F := TX5) (N := 4) hx hb hU iX5 hown hK hT 1 rfl rfl 3 (by decide) w103 (fun _ h9 => h9) rfl dX10_makeOf_23 ?_
    refine lv_iload_n hx hb dX10_makeOf_26 rfl (lv_at hl 4 rfl) ?_
    refine lv_bipush (v := 9) hx hb dX10_makeOf_27 (by decide) ?_
    refine lv_imul hx hb dX10_makeOf_29 (lv_topi (fun v3 e_v3 => ?_))
    have e_v3 := ai_mul e_v3 rfl li_9 (by omega)
    refine lv_aload_n hx hb dX10_makeOf_30 rfl (lv_at hl 1 rfl) ?_
    refine tz_get (ci := 7) (v := .ref h12) (C := RX10) (F := TX10) (N := 17) hx hb hU iX10 hown hK hT 0 rfl rfl 15 (by decide) w264 (fun _ h9 => h9) rfl dX10_makeOf_31 ?_
    refine lv_aload_n hx hb dX10_makeOf_34 rfl (lv_at hl 1 rfl) ?_
    refine tz_get (ci := 7) (v := .ref h1) (C := RX10) (F := TX10) (N := 17) hx hb hU iX10 hown hK hT 0 rfl rfl 0 (by decide) w249 (fun _ h9 => h9) rfl dX10_makeOf_35 ?_
    refine tz_get (ci := 4) (v := .int h1f0) (C := RX5) (F := TX5) (N := 4) hx hb hU iX5 hown hK hT 1 rfl rfl 0 (by decide) w93 (fun _ h9 => h9) rfl dX10_makeOf_38 ?_
    refine tcV (Tc := [(h14, aJ (k 1) 36 anJ), (h12, aJ (k 1) 9 anJ)]) (Tr := [(h0, ob 7 [.ref h1, .ref h2, .int h0f2, .ref h3, .ref h4, .ref h5, .int h0f6, .ref h6, .int h0f8, .ref h7, .ref h8, .int h0f11, .ref h9, .ref h10, .ref h11, .ref h12, .ref h13]), (h1, ob 4 [.int h1f0, .int h1f1, .int h1f2, .ref h14])]) (as := [h14, h12]) (zcS (As := [.ref h14, .int v1, .ref h14, .int v3, .ref h12, .int h1f0]) (rest := []) (Tc := [(h14, aJ (k 1) 36 anJ), (h12, aJ (k 1) 9 anJ)]) hx hb hml hown hU hK hT [3, 2] rfl (by decide) (cX7_multiply_00e06 l D k _ h14 h12 v1 v3 h1f0 (by omega) (by omega) (by omega)) w363 w361 w362 w74 hdX7_multiply ⟨rfl, rfl⟩ ⟨Nat.le_of_ble_eq_true rfl, Nat.le_of_ble_eq_true rfl⟩ rfl hl.1 (Nat.le_of_ble_eq_true rfl) dX10_makeOf_41 ⟨Nat.le_of_ble_eq_true rfl, Nat.le_of_ble_eq_true rfl⟩) hT hS hA [3, 2] [0, 1] rfl rfl rfl (by decide) (by decide) (fun H locs hB J hS => ?_)
    have hT1 := hB
    have hT := J _ hT1
    have hT : TP D A [(h0, ob 7 [.ref h1, .ref h2, .int h0f2, .ref h3, .ref h4, .ref h5, .int h0f6, .ref h6, .int h0f8, .ref h7, .ref h8, .int h0f11, .ref h9, .ref h10, .ref h11, .ref h12, .ref h13]), (h1, ob 4 [.int h1f0, .int h1f1, .int h1f2, .ref h14]), (h14, aJ (k 1) 36 anJ), (h12, aJ (k 1) 9 anJ)] _ := hT
    refine lv_goto (tgt := 132) hx hb dX10_makeOf_44 (by decide) ?_
    exact tz_retV (B := B_cX10_makeOf_f7798 D k h0 h1 h12 h14 h2 h3 h4 h5 h6 h7 h8 h9 h10 h11 h13 x1 x2 x3 h0f2 h0f6 h0f8 h0f11 h1f0 h1f1 h1f2) hQ hx hb hr hlocks hS (Nat.le_of_ble_eq_true rfl) (Nat.le_of_ble_eq_true rfl) dX10_makeOf_132 ((hT.sub [0, 1, 3, 2] (by decide) rfl))
abbrev Rm_cX10_made_5f0fd : Room := { frames := 4, cells := 0, slots := 0, locals := 105 }
abbrev B_cX10_made_5f0fd (D : va_G) (k : Nat → ClassId) (h0 h1 h8 h12 h14 h2 h3 h4 h5 h6 h7 h9 h10 h11 h13 : Nat) (x1 : Int32) (x2 : Int32) (x3 : Int32) (h0f2 : Int32) (h0f6 : Int32) (h0f8 : Int32) (h0f11 : Int32) (h1f0 : Int32) (h1f1 : Int32) (h1f2 : Int32) (A : Nat → Prop) (r : Int32) (H : Heap) : Prop := ∃ o0 : Int32, ∃ o1 : Int32, ∃ o2 : Int32, (0 ≤ o0.toInt ∧ o0.toInt ≤ 1) ∧ (0 ≤ o1.toInt ∧ o1.toInt ≤ 1) ∧ (0 ≤ o2.toInt ∧ o2.toInt ≤ 4) ∧ ((-16) ≤ r.toInt ∧ r.toInt ≤ 3) ∧ TP D A [(h0, ob 7 [.ref h1, .ref h2, .int h0f2, .ref h3, .ref h4, .ref h5, .int o0, .ref h6, .int o1, .ref h7, .ref h8, .int h0f11, .ref h9, .ref h10, .ref h11, .ref h12, .ref h13]), (h1, ob 4 [.int h1f0, .int o2, .int h1f2, .ref h14]), (h8, aI (k 0) 8 anI), (h12, aJ (k 1) 9 anJ), (h14, aJ (k 1) 36 anJ)] H
set_option maxHeartbeats 4000000 in
set_option maxRecDepth 100000 in
theorem cX10_made_5f0fd (l : Launch) (D : va_G) (k : Nat → ClassId) (sz : Nat) (h0 h1 h8 h12 h14 h2 h3 h4 h5 h6 h7 h9 h10 h11 h13 : Nat) (x1 : Int32) (x2 : Int32) (x3 : Int32) (h0f2 : Int32) (h0f6 : Int32) (h0f8 : Int32) (h0f11 : Int32) (h1f0 : Int32) (h1f1 : Int32) (h1f2 : Int32) (b_h0f2 : 0 ≤ h0f2.toInt ∧ h0f2.toInt ≤ 1) (b_h0f6 : 0 ≤ h0f6.toInt ∧ h0f6.toInt ≤ 1) (b_h0f8 : 0 ≤ h0f8.toInt ∧ h0f8.toInt ≤ 1) (b_h0f11 : 0 ≤ h0f11.toInt ∧ h0f11.toInt ≤ 200) (b_h1f0 : 1 ≤ h1f0.toInt ∧ h1f0.toInt ≤ 3) (b_h1f1 : 0 ≤ h1f1.toInt ∧ h1f1.toInt ≤ 4) : Met l yX10_made (Cond.code yX10_made cX10_made 4 (some .int) :: uw) Rm_cX10_made_5f0fd (pT D k sz [.ref h0, .int x1, .int x2, .int x3] [(h0, ob 7 [.ref h1, .ref h2, .int h0f2, .ref h3, .ref h4, .ref h5, .int h0f6, .ref h6, .int h0f8, .ref h7, .ref h8, .int h0f11, .ref h9, .ref h10, .ref h11, .ref h12, .ref h13]), (h1, ob 4 [.int h1f0, .int h1f1, .int h1f2, .ref h14]), (h8, aI (k 0) 8 anI), (h12, aJ (k 1) 9 anJ), (h14, aJ (k 1) 36 anJ)]) (qI (B_cX10_made_5f0fd D k h0 h1 h8 h12 h14 h2 h3 h4 h5 h6 h7 h9 h10 h11 h13 x1 x2 x3 h0f2 h0f6 h0f8 h0f11 h1f0 h1f1 h1f2 (zA [h0, h1, h8, h12, h14] sz)) (zA [h0, h1, h8, h12, h14] sz)) 0 0 (zA [h0, h1, h8, h12, h14] sz) := by
  refine tz_begin (as := [h0, h1, h8, h12, h14]) (Qc := fun A => qI (B_cX10_made_5f0fd D k h0 h1 h8 h12 h14 h2 h3 h4 h5 h6 h7 h9 h10 h11 h13 x1 x2 x3 h0f2 h0f6 h0f8 h0f11 h1f0 h1f1 h1f2 A) A) (by decide +kernel) rfl (Nat.le_of_ble_eq_true rfl) ?_
  intro p e s m args below meth c ls A Q hx hb hr hml hown hlocks hin hU hK hT hS hA hl hQ
  have hl : lv_has ls 4 [(0, .ref h0), (1, .int x1), (2, .int x2), (3, .int x3)] := hl
  have hT : TP D A [(h0, ob 7 [.ref h1, .ref h2, .int h0f2, .ref h3, .ref h4, .ref h5, .int h0f6, .ref h6, .int h0f8, .ref h7, .ref h8, .int h0f11, .ref h9, .ref h10, .ref h11, .ref h12, .ref h13]), (h1, ob 4 [.int h1f0, .int h1f1, .int h1f2, .ref h14]), (h8, aI (k 0) 8 anI), (h12, aJ (k 1) 9 anJ), (h14, aJ (k 1) 36 anJ)] s.heap := hT
  refine lv_iload_n hx hb dX10_made_0 rfl (lv_at hl 1 rfl) ?_
  refine lv_if_lt (tgt := 35) hx hb dX10_made_1 (by decide) (fun c_1 => ?_) (fun c_1 => ?_)
  · skip
    have c_1 := ni_lt c_1 rfl li_0
    refine lv_iconst (v := (-1)) hx hb dX10_made_35 (by decide) ?_
    exact tz_retI (B := B_cX10_made_5f0fd D k h0 h1 h8 h12 h14 h2 h3 h4 h5 h6 h7 h9 h10 h11 h13 x1 x2 x3 h0f2 h0f6 h0f8 h0f11 h1f0 h1f1 h1f2) (v := (-1)) hQ hx hb hr hlocks hS (Nat.le_of_ble_eq_true rfl) (Nat.le_of_ble_eq_true rfl) dX10_made_36 (⟨h0f6, h0f8, h1f1, (by have := li_m1; omega), (by have := li_m1; omega), (by have := li_m1; omega), (by have := li_m1; omega), hT⟩)
  · skip
    have c_1 := ni_nlt c_1 rfl li_0
    refine lv_iload_n hx hb dX10_made_4 rfl (lv_at hl 1 rfl) ?_
    refine lv_iconst (v := 3) hx hb dX10_made_5 (by decide) ?_
    refine lv_icmp_gt (tgt := 35) hx hb dX10_made_6 (by decide) (fun c_2 => ?_) (fun c_2 => ?_)
    · skip
      have c_2 := ni_lt c_2 li_3 rfl
      refine lv_iconst (v := (-1)) hx hb dX10_made_35 (by decide) ?_
      exact tz_retI (B := B_cX10_made_5f0fd D k h0 h1 h8 h12 h14 h2 h3 h4 h5 h6 h7 h9 h10 h11 h13 x1 x2 x3 h0f2 h0f6 h0f8 h0f11 h1f0 h1f1 h1f2) (v := (-1)) hQ hx hb hr hlocks hS (Nat.le_of_ble_eq_true rfl) (Nat.le_of_ble_eq_true rfl) dX10_made_36 (⟨h0f6, h0f8, h1f1, (by have := li_m1; omega), (by have := li_m1; omega), (by have := li_m1; omega), (by have := li_m1; omega), hT⟩)
    · skip
      have c_2 := ni_nlt c_2 li_3 rfl
      refine lv_aload_n hx hb dX10_made_9 rfl (lv_at hl 0 rfl) ?_
      refine tz_get (ci := 7) (v := .ref h1) (C := RX10) (F := TX10) (N := 17) hx hb hU iX10 hown hK hT 0 rfl rfl 0 (by decide) w249 (fun _ h9 => h9) rfl dX10_made_10 ?_
      refine lv_iload_n hx hb dX10_made_13 rfl (lv_at hl 2 rfl) ?_
      refine tcI (Tc := [(h1, ob 4 [.int h1f0, .int h1f1, .int h1f2, .ref h14])]) (Tr := [(h0, ob 7 [.ref h1, .ref h2, .int h0f2, .ref h3, .ref h4, .ref h5, .int h0f6, .ref h6, .int h0f8, .ref h7, .ref h8, .int h0f11, .ref h9, .ref h10, .ref h11, .ref h12, .ref h13]), (h8, aI (k 0) 8 anI), (h12, aJ (k 1) 9 anJ), (h14, aJ (k 1) 36 anJ)]) (as := [h1]) (zcV (q0 := 1) (ci := 4) (As := [.int x2]) (rest := []) (Tc := [(h1, ob 4 [.int h1f0, .int h1f1, .int h1f2, .ref h14])]) hx hb hml hown hU hK hT rfl rfl [1] rfl (by decide) (cX5_has_64567 l D k _ h1 h14 x2 h1f0 h1f1 h1f2 (by omega) (by omega)) w356 w353 w354 w355 w64 hdX5_has ⟨rfl, rfl⟩ ⟨Nat.le_of_ble_eq_true rfl, Nat.le_of_ble_eq_true rfl⟩ rfl hl.1 (Nat.le_of_ble_eq_true rfl) dX10_made_14 ⟨Nat.le_of_ble_eq_true rfl, Nat.le_of_ble_eq_true rfl⟩) hT hS hA [1] [0, 2, 3, 4] rfl rfl rfl (by decide) (by decide) (fun r3 H locs hB J hS => ?_)
      rcases hB with ⟨rfl, hT1⟩ | ⟨c_4, c_5, rfl, hT1⟩
      · skip
        have hT := J _ hT1
        have hT : TP D A [(h0, ob 7 [.ref h1, .ref h2, .int h0f2, .ref h3, .ref h4, .ref h5, .int h0f6, .ref h6, .int h0f8, .ref h7, .ref h8, .int h0f11, .ref h9, .ref h10, .ref h11, .ref h12, .ref h13]), (h8, aI (k 0) 8 anI), (h12, aJ (k 1) 9 anJ), (h14, aJ (k 1) 36 anJ), (h1, ob 4 [.int h1f0, .int h1f1, .int h1f2, .ref h14])] _ := hT
        refine lv_if_eq (tgt := 35) hx hb dX10_made_17 (by decide) (fun _ => ?_) (fun cc => absurd (by decide +kernel) cc)
        refine lv_iconst (v := (-1)) hx hb dX10_made_35 (by decide) ?_
        exact tz_retI (B := B_cX10_made_5f0fd D k h0 h1 h8 h12 h14 h2 h3 h4 h5 h6 h7 h9 h10 h11 h13 x1 x2 x3 h0f2 h0f6 h0f8 h0f11 h1f0 h1f1 h1f2) (v := (-1)) hQ hx hb hr hlocks hS (Nat.le_of_ble_eq_true rfl) (Nat.le_of_ble_eq_true rfl) dX10_made_36 (⟨h0f6, h0f8, h1f1, (by have := li_m1; omega), (by have := li_m1; omega), (by have := li_m1; omega), (by have := li_m1; omega), (hT.sub [0, 4, 1, 2, 3] (by decide) rfl)⟩)
      · skip
        have hT := J _ hT1
        have hT : TP D A [(h0, ob 7 [.ref h1, .ref h2, .int h0f2, .ref h3, .ref h4, .ref h5, .int h0f6, .ref h6, .int h0f8, .ref h7, .ref h8, .int h0f11, .ref h9, .ref h10, .ref h11, .ref h12, .ref h13]), (h8, aI (k 0) 8 anI), (h12, aJ (k 1) 9 anJ), (h14, aJ (k 1) 36 anJ), (h1, ob 4 [.int h1f0, .int h1f1, .int h1f2, .ref h14])] _ := hT
        refine lv_if_eq (tgt := 35) hx hb dX10_made_17 (by decide) (fun cc => absurd cc (by decide +kernel)) (fun _ => ?_)
        refine lv_iload_n hx hb dX10_made_20 rfl (lv_at hl 1 rfl) ?_
        refine lv_if_ne (tgt := 37) hx hb dX10_made_21 (by decide) (fun c_6 => ?_) (fun c_6 => ?_)
        · skip
          have c_6 := ni_ne c_6 rfl li_0
          refine lv_aload_n hx hb dX10_made_37 rfl (lv_at hl 0 rfl) ?_
          refine tz_get (ci := 7) (v := .ref h1) (C := RX10) (F := TX10) (N := 17) hx hb hU iX10 hown hK hT 0 rfl rfl 0 (by decide) w249 (fun _ h9 => h9) rfl dX10_made_38 ?_
          refine tcI (Tc := [(h1, ob 4 [.int h1f0, .int h1f1, .int h1f2, .ref h14])]) (Tr := [(h0, ob 7 [.ref h1, .ref h2, .int h0f2, .ref h3, .ref h4, .ref h5, .int h0f6, .ref h6, .int h0f8, .ref h7, .ref h8, .int h0f11, .ref h9, .ref h10, .ref h11, .ref h12, .ref h13]), (h8, aI (k 0) 8 anI), (h12, aJ (k 1) 9 anJ), (h14, aJ (k 1) 36 anJ)]) (as := [h1]) (zcV (q0 := 4) (ci := 4) (As := []) (rest := []) (Tc := [(h1, ob 4 [.int h1f0, .int h1f1, .int h1f2, .ref h14])]) hx hb hml hown hU hK hT rfl rfl [4] rfl (by decide) (cX5_isFull_cc49c l D k _ h1 h14 h1f0 h1f1 h1f2 (by omega) (by omega)) w326 w323 w324 w325 w64 hdX5_isFull ⟨rfl, rfl⟩ ⟨Nat.le_of_ble_eq_true rfl, Nat.le_of_ble_eq_true rfl⟩ rfl hl.1 (Nat.le_of_ble_eq_true rfl) dX10_made_41 ⟨Nat.le_of_ble_eq_true rfl, Nat.le_of_ble_eq_true rfl⟩) hT hS hA [4] [0, 1, 2, 3] rfl rfl rfl (by decide) (by decide) (fun r7 H locs hB J hS => ?_)
          rcases hB with ⟨c_8, rfl, hT1⟩ | ⟨rfl, hT1⟩
          · skip
            have hT := J _ hT1
            have hT : TP D A [(h0, ob 7 [.ref h1, .ref h2, .int h0f2, .ref h3, .ref h4, .ref h5, .int h0f6, .ref h6, .int h0f8, .ref h7, .ref h8, .int h0f11, .ref h9, .ref h10, .ref h11, .ref h12, .ref h13]), (h8, aI (k 0) 8 anI), (h12, aJ (k 1) 9 anJ), (h14, aJ (k 1) 36 anJ), (h1, ob 4 [.int h1f0, .int h1f1, .int h1f2, .ref h14])] _ := hT
            refine lv_if_eq (tgt := 50) hx hb dX10_made_44 (by decide) (fun _ => ?_) (fun cc => absurd (by decide +kernel) cc)
            refine lv_aload_n hx hb dX10_made_50 rfl (lv_at hl 0 rfl) ?_
            refine lv_iload_n hx hb dX10_made_51 rfl (lv_at hl 1 rfl) ?_
            refine lv_iload_n hx hb dX10_made_52 rfl (lv_at hl 2 rfl) ?_
            refine lv_iload_n hx hb dX10_made_53 rfl (lv_at hl 3 rfl) ?_
            refine tcV (Tc := [(h0, ob 7 [.ref h1, .ref h2, .int h0f2, .ref h3, .ref h4, .ref h5, .int h0f6, .ref h6, .int h0f8, .ref h7, .ref h8, .int h0f11, .ref h9, .ref h10, .ref h11, .ref h12, .ref h13]), (h1, ob 4 [.int h1f0, .int h1f1, .int h1f2, .ref h14]), (h12, aJ (k 1) 9 anJ), (h14, aJ (k 1) 36 anJ)]) (Tr := [(h8, aI (k 0) 8 anI)]) (as := [h0, h1, h12, h14]) (zcV (q0 := 0) (ci := 7) (As := [.int x1, .int x2, .int x3]) (rest := []) (Tc := [(h0, ob 7 [.ref h1, .ref h2, .int h0f2, .ref h3, .ref h4, .ref h5, .int h0f6, .ref h6, .int h0f8, .ref h7, .ref h8, .int h0f11, .ref h9, .ref h10, .ref h11, .ref h12, .ref h13]), (h1, ob 4 [.int h1f0, .int h1f1, .int h1f2, .ref h14]), (h12, aJ (k 1) 9 anJ), (h14, aJ (k 1) 36 anJ)]) hx hb hml hown hU hK hT rfl rfl [0, 4, 2, 3] rfl (by decide) (cX10_makeOf_1671e l D k _ h0 h1 h12 h14 h2 h3 h4 h5 h6 h7 h8 h9 h10 h11 h13 x1 x2 x3 h0f2 h0f6 h0f8 h0f11 h1f0 h1f1 h1f2 (by omega) (by omega) (by omega) (by omega) (by omega) (by omega) (by omega) (by omega)) w360 w357 w359 w3 w63 hdX10_makeOf ⟨rfl, rfl⟩ ⟨Nat.le_of_ble_eq_true rfl, Nat.le_of_ble_eq_true rfl⟩ rfl hl.1 (Nat.le_of_ble_eq_true rfl) dX10_made_54 ⟨Nat.le_of_ble_eq_true rfl, Nat.le_of_ble_eq_true rfl⟩) hT hS hA [0, 4, 2, 3] [1] rfl rfl rfl (by decide) (by decide) (fun H locs hB J hS => ?_)
            have hT1 := hB
            have hT := J _ hT1
            have hT : TP D A [(h8, aI (k 0) 8 anI), (h0, ob 7 [.ref h1, .ref h2, .int h0f2, .ref h3, .ref h4, .ref h5, .int h0f6, .ref h6, .int h0f8, .ref h7, .ref h8, .int h0f11, .ref h9, .ref h10, .ref h11, .ref h12, .ref h13]), (h1, ob 4 [.int h1f0, .int h1f1, .int h1f2, .ref h14]), (h12, aJ (k 1) 9 anJ), (h14, aJ (k 1) 36 anJ)] _ := hT
            refine lv_aload_n hx hb dX10_made_57 rfl (lv_at hl 0 rfl) ?_
            refine tz_get (ci := 7) (v := .ref h12) (C := RX10) (F := TX10) (N := 17) hx hb hU iX10 hown hK hT 1 rfl rfl 15 (by decide) w264 (fun _ h9 => h9) rfl dX10_made_58 ?_
            refine lv_aload_n hx hb dX10_made_61 rfl (lv_at hl 0 rfl) ?_
            refine tz_get (ci := 7) (v := .ref h1) (C := RX10) (F := TX10) (N := 17) hx hb hU iX10 hown hK hT 1 rfl rfl 0 (by decide) w249 (fun _ h9 => h9) rfl dX10_made_62 ?_
            refine tcI (Tc := [(h1, ob 4 [.int h1f0, .int h1f1, .int h1f2, .ref h14])]) (Tr := [(h8, aI (k 0) 8 anI), (h0, ob 7 [.ref h1, .ref h2, .int h0f2, .ref h3, .ref h4, .ref h5, .int h0f6, .ref h6, .int h0f8, .ref h7, .ref h8, .int h0f11, .ref h9, .ref h10, .ref h11, .ref h12, .ref h13]), (h12, aJ (k 1) 9 anJ), (h14, aJ (k 1) 36 anJ)]) (as := [h1]) (zcV (q0 := 2) (ci := 4) (As := []) (rest := [.ref h12]) (Tc := [(h1, ob 4 [.int h1f0, .int h1f1, .int h1f2, .ref h14])]) hx hb hml hown hU hK hT rfl rfl [2] rfl (by decide) (cX5_cellCount_642c9 l D k _ h1 h14 h1f0 h1f1 h1f2 (by omega) (by omega)) w385 w382 w383 w384 w64 hdX5_cellCount ⟨rfl, rfl⟩ ⟨Nat.le_of_ble_eq_true rfl, Nat.le_of_ble_eq_true rfl⟩ rfl hl.1 (Nat.le_of_ble_eq_true rfl) dX10_made_65 ⟨Nat.le_of_ble_eq_true rfl, Nat.le_of_ble_eq_true rfl⟩) hT hS hA [2] [0, 1, 3, 4] rfl rfl rfl (by decide) (by decide) (fun r10 H locs hB J hS => ?_)
            obtain ⟨b_r10, hT1⟩ := hB
            have hT := J _ hT1
            have hT : TP D A [(h8, aI (k 0) 8 anI), (h0, ob 7 [.ref h1, .ref h2, .int h0f2, .ref h3, .ref h4, .ref h5, .int h0f6, .ref h6, .int h0f8, .ref h7, .ref h8, .int h0f11, .ref h9, .ref h10, .ref h11, .ref h12, .ref h13]), (h12, aJ (k 1) 9 anJ), (h14, aJ (k 1) 36 anJ), (h1, ob 4 [.int h1f0, .int h1f1, .int h1f2, .ref h14])] _ := hT
            refine lv_ldc2 hx hb hown (hU _ w386) dX10_made_68 ?_
            have q_q12 := ll_99
            refine tcI (Tc := [(h12, aJ (k 1) 9 anJ)]) (Tr := [(h8, aI (k 0) 8 anI), (h0, ob 7 [.ref h1, .ref h2, .int h0f2, .ref h3, .ref h4, .ref h5, .int h0f6, .ref h6, .int h0f8, .ref h7, .ref h8, .int h0f11, .ref h9, .ref h10, .ref h11, .ref h12, .ref h13]), (h14, aJ (k 1) 36 anJ), (h1, ob 4 [.int h1f0, .int h1f1, .int h1f2, .ref h14])]) (as := [h12]) (zcS (As := [.ref h12, .int r10, .long 99]) (rest := []) (Tc := [(h12, aJ (k 1) 9 anJ)]) hx hb hml hown hU hK hT [2] rfl (by decide) (cX7_isWithin_443ab l D k _ h12 r10 (99) (by omega) (by have := ll_99; omega)) w389 w387 w388 w74 hdX7_isWithin ⟨rfl, rfl⟩ ⟨Nat.le_of_ble_eq_true rfl, Nat.le_of_ble_eq_true rfl⟩ rfl hl.1 (Nat.le_of_ble_eq_true rfl) dX10_made_71 ⟨Nat.le_of_ble_eq_true rfl, Nat.le_of_ble_eq_true rfl⟩) hT hS hA [2] [0, 1, 3, 4] rfl rfl rfl (by decide) (by decide) (fun r11 H locs hB J hS => ?_)
            obtain ⟨b_r11, hT1⟩ := hB
            have hT := J _ hT1
            have hT : TP D A [(h8, aI (k 0) 8 anI), (h0, ob 7 [.ref h1, .ref h2, .int h0f2, .ref h3, .ref h4, .ref h5, .int h0f6, .ref h6, .int h0f8, .ref h7, .ref h8, .int h0f11, .ref h9, .ref h10, .ref h11, .ref h12, .ref h13]), (h14, aJ (k 1) 36 anJ), (h1, ob 4 [.int h1f0, .int h1f1, .int h1f2, .ref h14]), (h12, aJ (k 1) 9 anJ)] _ := hT
            refine lv_if_ne (tgt := 80) hx hb dX10_made_74 (by decide) (fun c_13 => ?_) (fun c_13 => ?_)
            · skip
              have c_13 := ni_ne c_13 rfl li_0
              refine lv_aload_n hx hb dX10_made_80 rfl (lv_at hl 0 rfl) ?_
              refine tcI (Tc := [(h0, ob 7 [.ref h1, .ref h2, .int h0f2, .ref h3, .ref h4, .ref h5, .int h0f6, .ref h6, .int h0f8, .ref h7, .ref h8, .int h0f11, .ref h9, .ref h10, .ref h11, .ref h12, .ref h13]), (h1, ob 4 [.int h1f0, .int h1f1, .int h1f2, .ref h14]), (h8, aI (k 0) 8 anI), (h12, aJ (k 1) 9 anJ), (h14, aJ (k 1) 36 anJ)]) (Tr := []) (as := [h0, h1, h8, h12, h14]) (zcV (q0 := 1) (ci := 7) (As := []) (rest := []) (Tc := [(h0, ob 7 [.ref h1, .ref h2, .int h0f2, .ref h3, .ref h4, .ref h5, .int h0f6, .ref h6, .int h0f8, .ref h7, .ref h8, .int h0f11, .ref h9, .ref h10, .ref h11, .ref h12, .ref h13]), (h1, ob 4 [.int h1f0, .int h1f1, .int h1f2, .ref h14]), (h8, aI (k 0) 8 anI), (h12, aJ (k 1) 9 anJ), (h14, aJ (k 1) 36 anJ)]) hx hb hml hown hU hK hT rfl rfl [1, 3, 0, 4, 2] rfl (by decide) (cX10_addSquare_786bd l D k _ h0 h1 h8 h12 h14 h2 h3 h4 h5 h6 h7 h9 h10 h11 h13 h0f2 h0f6 h0f8 h0f11 h1f0 h1f1 h1f2 (by omega) (by omega) (by omega) (by omega) (by omega) (by omega)) w340 w337 w339 w2 w63 hdX10_addSquare ⟨rfl, rfl⟩ ⟨Nat.le_of_ble_eq_true rfl, Nat.le_of_ble_eq_true rfl⟩ rfl hl.1 (Nat.le_of_ble_eq_true rfl) dX10_made_81 ⟨Nat.le_of_ble_eq_true rfl, Nat.le_of_ble_eq_true rfl⟩) hT hS hA [1, 3, 0, 4, 2] [] rfl rfl rfl (by decide) (by decide) (fun r14 H locs hB J hS => ?_)
              obtain ⟨v15, b_v15, b_r14, hT1⟩ := hB
              have hT := J _ hT1
              have hT : TP D A [(h0, ob 7 [.ref h1, .ref h2, .int h0f2, .ref h3, .ref h4, .ref h5, .int 0, .ref h6, .int 0, .ref h7, .ref h8, .int h0f11, .ref h9, .ref h10, .ref h11, .ref h12, .ref h13]), (h1, ob 4 [.int h1f0, .int v15, .int h1f2, .ref h14]), (h8, aI (k 0) 8 anI), (h12, aJ (k 1) 9 anJ), (h14, aJ (k 1) 36 anJ)] _ := hT
              exact tz_retI (B := B_cX10_made_5f0fd D k h0 h1 h8 h12 h14 h2 h3 h4 h5 h6 h7 h9 h10 h11 h13 x1 x2 x3 h0f2 h0f6 h0f8 h0f11 h1f0 h1f1 h1f2) (v := r14) hQ hx hb hr hlocks hS (Nat.le_of_ble_eq_true rfl) (Nat.le_of_ble_eq_true rfl) dX10_made_84 (⟨0, 0, v15, (by have := li_0; omega), (by have := li_0; omega), (by have := li_0; omega), (by have := li_0; omega), hT⟩)
            · skip
              have c_13 := ni_eq c_13 rfl li_0
              refine lv_bipush (v := (-16)) hx hb dX10_made_77 (by decide) ?_
              exact tz_retI (B := B_cX10_made_5f0fd D k h0 h1 h8 h12 h14 h2 h3 h4 h5 h6 h7 h9 h10 h11 h13 x1 x2 x3 h0f2 h0f6 h0f8 h0f11 h1f0 h1f1 h1f2) (v := (-16)) hQ hx hb hr hlocks hS (Nat.le_of_ble_eq_true rfl) (Nat.le_of_ble_eq_true rfl) dX10_made_79 (⟨h0f6, h0f8, h1f1, (by have := li_m16; omega), (by have := li_m16; omega), (by have := li_m16; omega), (by have := li_m16; omega), (hT.sub [1, 3, 0, 4, 2] (by decide) rfl)⟩)
          · skip
            have hT := J _ hT1
            have hT : TP D A [(h0, ob 7 [.ref h1, .ref h2, .int h0f2, .ref h3, .ref h4, .ref h5, .int h0f6, .ref h6, .int h0f8, .ref h7, .ref h8, .int h0f11, .ref h9, .ref h10, .ref h11, .ref h12, .ref h13]), (h8, aI (k 0) 8 anI), (h12, aJ (k 1) 9 anJ), (h14, aJ (k 1) 36 anJ), (h1, ob 4 [.int h1f0, .int h1f1, .int h1f2, .ref h14])] _ := hT
            refine lv_if_eq (tgt := 50) hx hb dX10_made_44 (by decide) (fun cc => absurd cc (by decide +kernel)) (fun _ => ?_)
            refine lv_bipush (v := (-2)) hx hb dX10_made_47 (by decide) ?_
            exact tz_retI (B := B_cX10_made_5f0fd D k h0 h1 h8 h12 h14 h2 h3 h4 h5 h6 h7 h9 h10 h11 h13 x1 x2 x3 h0f2 h0f6 h0f8 h0f11 h1f0 h1f1 h1f2) (v := (-2)) hQ hx hb hr hlocks hS (Nat.le_of_ble_eq_true rfl) (Nat.le_of_ble_eq_true rfl) dX10_made_49 (⟨h0f6, h0f8, h1f1, (by have := li_m2; omega), (by have := li_m2; omega), (by have := li_m2; omega), (by have := li_m2; omega), (hT.sub [0, 4, 1, 2, 3] (by decide) rfl)⟩)
        · skip
          have c_6 := ni_eq c_6 rfl li_0
          refine lv_aload_n hx hb dX10_made_24 rfl (lv_at hl 0 rfl) ?_
          refine tz_get (ci := 7) (v := .ref h1) (C := RX10) (F := TX10) (N := 17) hx hb hU iX10 hown hK hT 0 rfl rfl 0 (by decide) w249 (fun _ h9 => h9) rfl dX10_made_25 ?_
          refine lv_iload_n hx hb dX10_made_28 rfl (lv_at hl 3 rfl) ?_
          refine tcI (Tc := [(h1, ob 4 [.int h1f0, .int h1f1, .int h1f2, .ref h14])]) (Tr := [(h0, ob 7 [.ref h1, .ref h2, .int h0f2, .ref h3, .ref h4, .ref h5, .int h0f6, .ref h6, .int h0f8, .ref h7, .ref h8, .int h0f11, .ref h9, .ref h10, .ref h11, .ref h12, .ref h13]), (h8, aI (k 0) 8 anI), (h12, aJ (k 1) 9 anJ), (h14, aJ (k 1) 36 anJ)]) (as := [h1]) (zcV (q0 := 4) (ci := 4) (As := [.int x3]) (rest := []) (Tc := [(h1, ob 4 [.int h1f0, .int h1f1, .int h1f2, .ref h14])]) hx hb hml hown hU hK hT rfl rfl [4] rfl (by decide) (cX5_has_64567 l D k _ h1 h14 x3 h1f0 h1f1 h1f2 (by omega) (by omega)) w356 w353 w354 w355 w64 hdX5_has ⟨rfl, rfl⟩ ⟨Nat.le_of_ble_eq_true rfl, Nat.le_of_ble_eq_true rfl⟩ rfl hl.1 (Nat.le_of_ble_eq_true rfl) dX10_made_29 ⟨Nat.le_of_ble_eq_true rfl, Nat.le_of_ble_eq_true rfl⟩) hT hS hA [4] [0, 1, 2, 3] rfl rfl rfl (by decide) (by decide) (fun r16 H locs hB J hS => ?_)
          rcases hB with ⟨rfl, hT1⟩ | ⟨c_17, c_18, rfl, hT1⟩
          · skip
            have hT := J _ hT1
            have hT : TP D A [(h0, ob 7 [.ref h1, .ref h2, .int h0f2, .ref h3, .ref h4, .ref h5, .int h0f6, .ref h6, .int h0f8, .ref h7, .ref h8, .int h0f11, .ref h9, .ref h10, .ref h11, .ref h12, .ref h13]), (h8, aI (k 0) 8 anI), (h12, aJ (k 1) 9 anJ), (h14, aJ (k 1) 36 anJ), (h1, ob 4 [.int h1f0, .int h1f1, .int h1f2, .ref h14])] _ := hT
            refine lv_if_ne (tgt := 37) hx hb dX10_made_32 (by decide) (fun cc => absurd (by decide +kernel) cc) (fun _ => ?_)
            refine lv_iconst (v := (-1)) hx hb dX10_made_35 (by decide) ?_
            exact tz_retI (B := B_cX10_made_5f0fd D k h0 h1 h8 h12 h14 h2 h3 h4 h5 h6 h7 h9 h10 h11 h13 x1 x2 x3 h0f2 h0f6 h0f8 h0f11 h1f0 h1f1 h1f2) (v := (-1)) hQ hx hb hr hlocks hS (Nat.le_of_ble_eq_true rfl) (Nat.le_of_ble_eq_true rfl) dX10_made_36 (⟨h0f6, h0f8, h1f1, (by have := li_m1; omega), (by have := li_m1; omega), (by have := li_m1; omega), (by have := li_m1; omega), (hT.sub [0, 4, 1, 2, 3] (by decide) rfl)⟩)
          · skip
            have hT := J _ hT1
            have hT : TP D A [(h0, ob 7 [.ref h1, .ref h2, .int h0f2, .ref h3, .ref h4, .ref h5, .int h0f6, .ref h6, .int h0f8, .ref h7, .ref h8, .int h0f11, .ref h9, .ref h10, .ref h11, .ref h12, .ref h13]), (h8, aI (k 0) 8 anI), (h12, aJ (k 1) 9 anJ), (h14, aJ (k 1) 36 anJ), (h1, ob 4 [.int h1f0, .int h1f1, .int h1f2, .ref h14])] _ := hT
            refine lv_if_ne (tgt := 37) hx hb dX10_made_32 (by decide) (fun _ => ?_) (fun cc => absurd cc (by decide +kernel))
            refine lv_aload_n hx hb dX10_made_37 rfl (lv_at hl 0 rfl) ?_
            refine tz_get (ci := 7) (v := .ref h1) (C := RX10) (F := TX10) (N := 17) hx hb hU iX10 hown hK hT 0 rfl rfl 0 (by decide) w249 (fun _ h9 => h9) rfl dX10_made_38 ?_
            refine tcI (Tc := [(h1, ob 4 [.int h1f0, .int h1f1, .int h1f2, .ref h14])]) (Tr := [(h0, ob 7 [.ref h1, .ref h2, .int h0f2, .ref h3, .ref h4, .ref h5, .int h0f6, .ref h6, .int h0f8, .ref h7, .ref h8, .int h0f11, .ref h9, .ref h10, .ref h11, .ref h12, .ref h13]), (h8, aI (k 0) 8 anI), (h12, aJ (k 1) 9 anJ), (h14, aJ (k 1) 36 anJ)]) (as := [h1]) (zcV (q0 := 4) (ci := 4) (As := []) (rest := []) (Tc := [(h1, ob 4 [.int h1f0, .int h1f1, .int h1f2, .ref h14])]) hx hb hml hown hU hK hT rfl rfl [4] rfl (by decide) (cX5_isFull_cc49c l D k _ h1 h14 h1f0 h1f1 h1f2 (by omega) (by omega)) w326 w323 w324 w325 w64 hdX5_isFull ⟨rfl, rfl⟩ ⟨Nat.le_of_ble_eq_true rfl, Nat.le_of_ble_eq_true rfl⟩ rfl hl.1 (Nat.le_of_ble_eq_true rfl) dX10_made_41 ⟨Nat.le_of_ble_eq_true rfl, Nat.le_of_ble_eq_true rfl⟩) hT hS hA [4] [0, 1, 2, 3] rfl rfl rfl (by decide) (by decide) (fun r19 H locs hB J hS => ?_)
            rcases hB with ⟨c_20, rfl, hT1⟩ | ⟨rfl, hT1⟩
            · skip
              have hT := J _ hT1
              have hT : TP D A [(h0, ob 7 [.ref h1, .ref h2, .int h0f2, .ref h3, .ref h4, .ref h5, .int h0f6, .ref h6, .int h0f8, .ref h7, .ref h8, .int h0f11, .ref h9, .ref h10, .ref h11, .ref h12, .ref h13]), (h8, aI (k 0) 8 anI), (h12, aJ (k 1) 9 anJ), (h14, aJ (k 1) 36 anJ), (h1, ob 4 [.int h1f0, .int h1f1, .int h1f2, .ref h14])] _ := hT
              refine lv_if_eq (tgt := 50) hx hb dX10_made_44 (by decide) (fun _ => ?_) (fun cc => absurd (by decide +kernel) cc)
              refine lv_aload_n hx hb dX10_made_50 rfl (lv_at hl 0 rfl) ?_
              refine lv_iload_n hx hb dX10_made_51 rfl (lv_at hl 1 rfl) ?_
              refine lv_iload_n hx hb dX10_made_52 rfl (lv_at hl 2 rfl) ?_
              refine lv_iload_n hx hb dX10_made_53 rfl (lv_at hl 3 rfl) ?_
              refine tcV (Tc := [(h0, ob 7 [.ref h1, .ref h2, .int h0f2, .ref h3, .ref h4, .ref h5, .int h0f6, .ref h6, .int h0f8, .ref h7, .ref h8, .int h0f11, .ref h9, .ref h10, .ref h11, .ref h12, .ref h13]), (h1, ob 4 [.int h1f0, .int h1f1, .int h1f2, .ref h14]), (h12, aJ (k 1) 9 anJ), (h14, aJ (k 1) 36 anJ)]) (Tr := [(h8, aI (k 0) 8 anI)]) (as := [h0, h1, h12, h14]) (zcV (q0 := 0) (ci := 7) (As := [.int x1, .int x2, .int x3]) (rest := []) (Tc := [(h0, ob 7 [.ref h1, .ref h2, .int h0f2, .ref h3, .ref h4, .ref h5, .int h0f6, .ref h6, .int h0f8, .ref h7, .ref h8, .int h0f11, .ref h9, .ref h10, .ref h11, .ref h12, .ref h13]), (h1, ob 4 [.int h1f0, .int h1f1, .int h1f2, .ref h14]), (h12, aJ (k 1) 9 anJ), (h14, aJ (k 1) 36 anJ)]) hx hb hml hown hU hK hT rfl rfl [0, 4, 2, 3] rfl (by decide) (cX10_makeOf_f7798 l D k _ h0 h1 h12 h14 h2 h3 h4 h5 h6 h7 h8 h9 h10 h11 h13 x1 x2 x3 h0f2 h0f6 h0f8 h0f11 h1f0 h1f1 h1f2 (by omega) (by omega) (by omega) (by omega) (by omega) (by omega) (by omega) (by omega) (by omega)) w360 w357 w359 w3 w63 hdX10_makeOf ⟨rfl, rfl⟩ ⟨Nat.le_of_ble_eq_true rfl, Nat.le_of_ble_eq_true rfl⟩ rfl hl.1 (Nat.le_of_ble_eq_true rfl) dX10_made_54 ⟨Nat.le_of_ble_eq_true rfl, Nat.le_of_ble_eq_true rfl⟩) hT hS hA [0, 4, 2, 3] [1] rfl rfl rfl (by decide) (by decide) (fun H locs hB J hS => ?_)
              have hT1 := hB
              have hT := J _ hT1
              have hT : TP D A [(h8, aI (k 0) 8 anI), (h0, ob 7 [.ref h1, .ref h2, .int h0f2, .ref h3, .ref h4, .ref h5, .int h0f6, .ref h6, .int h0f8, .ref h7, .ref h8, .int h0f11, .ref h9, .ref h10, .ref h11, .ref h12, .ref h13]), (h1, ob 4 [.int h1f0, .int h1f1, .int h1f2, .ref h14]), (h12, aJ (k 1) 9 anJ), (h14, aJ (k 1) 36 anJ)] _ := hT
              refine lv_aload_n hx hb dX10_made_57 rfl (lv_at hl 0 rfl) ?_
              refine tz_get (ci := 7) (v := .ref h12) (C := RX10) (F := TX10) (N := 17) hx hb hU iX10 hown hK hT 1 rfl rfl 15 (by decide) w264 (fun _ h9 => h9) rfl dX10_made_58 ?_
              refine lv_aload_n hx hb dX10_made_61 rfl (lv_at hl 0 rfl) ?_
              refine tz_get (ci := 7) (v := .ref h1) (C := RX10) (F := TX10) (N := 17) hx hb hU iX10 hown hK hT 1 rfl rfl 0 (by decide) w249 (fun _ h9 => h9) rfl dX10_made_62 ?_
              refine tcI (Tc := [(h1, ob 4 [.int h1f0, .int h1f1, .int h1f2, .ref h14])]) (Tr := [(h8, aI (k 0) 8 anI), (h0, ob 7 [.ref h1, .ref h2, .int h0f2, .ref h3, .ref h4, .ref h5, .int h0f6, .ref h6, .int h0f8, .ref h7, .ref h8, .int h0f11, .ref h9, .ref h10, .ref h11, .ref h12, .ref h13]), (h12, aJ (k 1) 9 anJ), (h14, aJ (k 1) 36 anJ)]) (as := [h1]) (zcV (q0 := 2) (ci := 4) (As := []) (rest := [.ref h12]) (Tc := [(h1, ob 4 [.int h1f0, .int h1f1, .int h1f2, .ref h14])]) hx hb hml hown hU hK hT rfl rfl [2] rfl (by decide) (cX5_cellCount_642c9 l D k _ h1 h14 h1f0 h1f1 h1f2 (by omega) (by omega)) w385 w382 w383 w384 w64 hdX5_cellCount ⟨rfl, rfl⟩ ⟨Nat.le_of_ble_eq_true rfl, Nat.le_of_ble_eq_true rfl⟩ rfl hl.1 (Nat.le_of_ble_eq_true rfl) dX10_made_65 ⟨Nat.le_of_ble_eq_true rfl, Nat.le_of_ble_eq_true rfl⟩) hT hS hA [2] [0, 1, 3, 4] rfl rfl rfl (by decide) (by decide) (fun r22 H locs hB J hS => ?_)
              obtain ⟨b_r22, hT1⟩ := hB
              have hT := J _ hT1
              have hT : TP D A [(h8, aI (k 0) 8 anI), (h0, ob 7 [.ref h1, .ref h2, .int h0f2, .ref h3, .ref h4, .ref h5, .int h0f6, .ref h6, .int h0f8, .ref h7, .ref h8, .int h0f11, .ref h9, .ref h10, .ref h11, .ref h12, .ref h13]), (h12, aJ (k 1) 9 anJ), (h14, aJ (k 1) 36 anJ), (h1, ob 4 [.int h1f0, .int h1f1, .int h1f2, .ref h14])] _ := hT
              refine lv_ldc2 hx hb hown (hU _ w386) dX10_made_68 ?_
              have q_q24 := ll_99
              refine tcI (Tc := [(h12, aJ (k 1) 9 anJ)]) (Tr := [(h8, aI (k 0) 8 anI), (h0, ob 7 [.ref h1, .ref h2, .int h0f2, .ref h3, .ref h4, .ref h5, .int h0f6, .ref h6, .int h0f8, .ref h7, .ref h8, .int h0f11, .ref h9, .ref h10, .ref h11, .ref h12, .ref h13]), (h14, aJ (k 1) 36 anJ), (h1, ob 4 [.int h1f0, .int h1f1, .int h1f2, .ref h14])]) (as := [h12]) (zcS (As := [.ref h12, .int r22, .long 99]) (rest := []) (Tc := [(h12, aJ (k 1) 9 anJ)]) hx hb hml hown hU hK hT [2] rfl (by decide) (cX7_isWithin_443ab l D k _ h12 r22 (99) (by omega) (by have := ll_99; omega)) w389 w387 w388 w74 hdX7_isWithin ⟨rfl, rfl⟩ ⟨Nat.le_of_ble_eq_true rfl, Nat.le_of_ble_eq_true rfl⟩ rfl hl.1 (Nat.le_of_ble_eq_true rfl) dX10_made_71 ⟨Nat.le_of_ble_eq_true rfl, Nat.le_of_ble_eq_true rfl⟩) hT hS hA [2] [0, 1, 3, 4] rfl rfl rfl (by decide) (by decide) (fun r23 H locs hB J hS => ?_)
              obtain ⟨b_r23, hT1⟩ := hB
              have hT := J _ hT1
              have hT : TP D A [(h8, aI (k 0) 8 anI), (h0, ob 7 [.ref h1, .ref h2, .int h0f2, .ref h3, .ref h4, .ref h5, .int h0f6, .ref h6, .int h0f8, .ref h7, .ref h8, .int h0f11, .ref h9, .ref h10, .ref h11, .ref h12, .ref h13]), (h14, aJ (k 1) 36 anJ), (h1, ob 4 [.int h1f0, .int h1f1, .int h1f2, .ref h14]), (h12, aJ (k 1) 9 anJ)] _ := hT
              refine lv_if_ne (tgt := 80) hx hb dX10_made_74 (by decide) (fun c_25 => ?_) (fun c_25 => ?_)
              · skip
                have c_25 := ni_ne c_25 rfl li_0
                refine lv_aload_n hx hb dX10_made_80 rfl (lv_at hl 0 rfl) ?_
                refine tcI (Tc := [(h0, ob 7 [.ref h1, .ref h2, .int h0f2, .ref h3, .ref h4, .ref h5, .int h0f6, .ref h6, .int h0f8, .ref h7, .ref h8, .int h0f11, .ref h9, .ref h10, .ref h11, .ref h12, .ref h13]), (h1, ob 4 [.int h1f0, .int h1f1, .int h1f2, .ref h14]), (h8, aI (k 0) 8 anI), (h12, aJ (k 1) 9 anJ), (h14, aJ (k 1) 36 anJ)]) (Tr := []) (as := [h0, h1, h8, h12, h14]) (zcV (q0 := 1) (ci := 7) (As := []) (rest := []) (Tc := [(h0, ob 7 [.ref h1, .ref h2, .int h0f2, .ref h3, .ref h4, .ref h5, .int h0f6, .ref h6, .int h0f8, .ref h7, .ref h8, .int h0f11, .ref h9, .ref h10, .ref h11, .ref h12, .ref h13]), (h1, ob 4 [.int h1f0, .int h1f1, .int h1f2, .ref h14]), (h8, aI (k 0) 8 anI), (h12, aJ (k 1) 9 anJ), (h14, aJ (k 1) 36 anJ)]) hx hb hml hown hU hK hT rfl rfl [1, 3, 0, 4, 2] rfl (by decide) (cX10_addSquare_786bd l D k _ h0 h1 h8 h12 h14 h2 h3 h4 h5 h6 h7 h9 h10 h11 h13 h0f2 h0f6 h0f8 h0f11 h1f0 h1f1 h1f2 (by omega) (by omega) (by omega) (by omega) (by omega) (by omega)) w340 w337 w339 w2 w63 hdX10_addSquare ⟨rfl, rfl⟩ ⟨Nat.le_of_ble_eq_true rfl, Nat.le_of_ble_eq_true rfl⟩ rfl hl.1 (Nat.le_of_ble_eq_true rfl) dX10_made_81 ⟨Nat.le_of_ble_eq_true rfl, Nat.le_of_ble_eq_true rfl⟩) hT hS hA [1, 3, 0, 4, 2] [] rfl rfl rfl (by decide) (by decide) (fun r26 H locs hB J hS => ?_)
                obtain ⟨v27, b_v27, b_r26, hT1⟩ := hB
                have hT := J _ hT1
                have hT : TP D A [(h0, ob 7 [.ref h1, .ref h2, .int h0f2, .ref h3, .ref h4, .ref h5, .int 0, .ref h6, .int 0, .ref h7, .ref h8, .int h0f11, .ref h9, .ref h10, .ref h11, .ref h12, .ref h13]), (h1, ob 4 [.int h1f0, .int v27, .int h1f2, .ref h14]), (h8, aI (k 0) 8 anI), (h12, aJ (k 1) 9 anJ), (h14, aJ (k 1) 36 anJ)] _ := hT
                exact tz_retI (B := B_cX10_made_5f0fd D k h0 h1 h8 h12 h14 h2 h3 h4 h5 h6 h7 h9 h10 h11 h13 x1 x2 x3 h0f2 h0f6 h0f8 h0f11 h1f0 h1f1 h1f2) (v := r26) hQ hx hb hr hlocks hS (Nat.le_of_ble_eq_true rfl) (Nat.le_of_ble_eq_true rfl) dX10_made_84 (⟨0, 0, v27, (by have := li_0; omega), (by have := li_0; omega), (by have := li_0; omega), (by have := li_0; omega), hT⟩)
              · skip
                have c_25 := ni_eq c_25 rfl li_0
                refine lv_bipush (v := (-16)) hx hb dX10_made_77 (by decide) ?_
                exact tz_retI (B := B_cX10_made_5f0fd D k h0 h1 h8 h12 h14 h2 h3 h4 h5 h6 h7 h9 h10 h11 h13 x1 x2 x3 h0f2 h0f6 h0f8 h0f11 h1f0 h1f1 h1f2) (v := (-16)) hQ hx hb hr hlocks hS (Nat.le_of_ble_eq_true rfl) (Nat.le_of_ble_eq_true rfl) dX10_made_79 (⟨h0f6, h0f8, h1f1, (by have := li_m16; omega), (by have := li_m16; omega), (by have := li_m16; omega), (by have := li_m16; omega), (hT.sub [1, 3, 0, 4, 2] (by decide) rfl)⟩)
            · skip
              have hT := J _ hT1
              have hT : TP D A [(h0, ob 7 [.ref h1, .ref h2, .int h0f2, .ref h3, .ref h4, .ref h5, .int h0f6, .ref h6, .int h0f8, .ref h7, .ref h8, .int h0f11, .ref h9, .ref h10, .ref h11, .ref h12, .ref h13]), (h8, aI (k 0) 8 anI), (h12, aJ (k 1) 9 anJ), (h14, aJ (k 1) 36 anJ), (h1, ob 4 [.int h1f0, .int h1f1, .int h1f2, .ref h14])] _ := hT
              refine lv_if_eq (tgt := 50) hx hb dX10_made_44 (by decide) (fun cc => absurd cc (by decide +kernel)) (fun _ => ?_)
              refine lv_bipush (v := (-2)) hx hb dX10_made_47 (by decide) ?_
              exact tz_retI (B := B_cX10_made_5f0fd D k h0 h1 h8 h12 h14 h2 h3 h4 h5 h6 h7 h9 h10 h11 h13 x1 x2 x3 h0f2 h0f6 h0f8 h0f11 h1f0 h1f1 h1f2) (v := (-2)) hQ hx hb hr hlocks hS (Nat.le_of_ble_eq_true rfl) (Nat.le_of_ble_eq_true rfl) dX10_made_49 (⟨h0f6, h0f8, h1f1, (by have := li_m2; omega), (by have := li_m2; omega), (by have := li_m2; omega), (by have := li_m2; omega), (hT.sub [0, 4, 1, 2, 3] (by decide) rfl)⟩)
abbrev Rm_cX11_isSmall_b4580 : Room := { frames := 1, cells := 0, slots := 0, locals := 25 }
abbrev B_cX11_isSmall_b4580 (D : va_G) (k : Nat → ClassId) (h0 h1 h2 h3 h4 h5 h6 h7 h8 h9 h10 h11 h12 h13 h14 h15 h16 h17 h18 h19 h20 h21 : Nat) (h0f0 : Int32) (h0f1 : Int32) (h0f2 : Int32) (h0f3 : Int32) (h0f4 : Int32) (h0f5 : Int32) (h0f8 : Int32) (h0f9 : Int32) (h0f17 : Int32) (h0f18 : Int32) (h0f19 : Int32) (h0f24 : Int32) (h0f25 : Int32) (h0f30 : Int32) (h0f31 : Int32) (A : Nat → Prop) (r : Int32) (H : Heap) : Prop := (0 ≤ r.toInt ∧ r.toInt ≤ 1) ∧ TP D A [(h0, ob 8 [.int h0f0, .int h0f1, .int h0f2, .int h0f3, .int h0f4, .int h0f5, .ref h2, .ref h3, .int h0f8, .int h0f9, .ref h1, .ref h4, .ref h5, .ref h6, .ref h7, .ref h8, .ref h9, .int h0f17, .int h0f18, .int h0f19, .ref h10, .ref h11, .ref h12, .ref h13, .int h0f24, .int h0f25, .ref h14, .ref h15, .ref h16, .ref h17, .int h0f30, .int h0f31, .ref h18, .ref h19, .ref h20, .ref h21]), (h1, aJ (k 1) 9 anJ)] H
set_option maxHeartbeats 4000000 in
set_option maxRecDepth 100000 in
theorem cX11_isSmall_b4580 (l : Launch) (D : va_G) (k : Nat → ClassId) (sz : Nat) (h0 h1 h2 h3 h4 h5 h6 h7 h8 h9 h10 h11 h12 h13 h14 h15 h16 h17 h18 h19 h20 h21 : Nat) (h0f0 : Int32) (h0f1 : Int32) (h0f2 : Int32) (h0f3 : Int32) (h0f4 : Int32) (h0f5 : Int32) (h0f8 : Int32) (h0f9 : Int32) (h0f17 : Int32) (h0f18 : Int32) (h0f19 : Int32) (h0f24 : Int32) (h0f25 : Int32) (h0f30 : Int32) (h0f31 : Int32) (b_h0f0 : 1 ≤ h0f0.toInt ∧ h0f0.toInt ≤ 3) (b_h0f1 : 1 ≤ h0f1.toInt ∧ h0f1.toInt ≤ 3) (b_h0f3 : 0 ≤ h0f3.toInt ∧ h0f3.toInt ≤ 3) (b_h0f4 : 0 ≤ h0f4.toInt ∧ h0f4.toInt ≤ 4) (b_h0f8 : 0 ≤ h0f8.toInt ∧ h0f8.toInt ≤ 1) (b_h0f9 : 0 ≤ h0f9.toInt ∧ h0f9.toInt ≤ 1) (b_h0f17 : 0 ≤ h0f17.toInt ∧ h0f17.toInt ≤ 120) (b_h0f18 : 0 ≤ h0f18.toInt ∧ h0f18.toInt ≤ 120) (b_h0f19 : 0 ≤ h0f19.toInt ∧ h0f19.toInt ≤ 4) (b_h0f24 : 0 ≤ h0f24.toInt ∧ h0f24.toInt ≤ 100) (b_h0f25 : 0 ≤ h0f25.toInt ∧ h0f25.toInt ≤ 1) (b_h0f30 : 0 ≤ h0f30.toInt ∧ h0f30.toInt ≤ 60) (b_h0f31 : 0 ≤ h0f31.toInt ∧ h0f31.toInt ≤ 1) (i_0 : h0f8.toInt ≤ h0f3.toInt) (i_1 : h0f9.toInt ≤ h0f24.toInt) : Met l yX11_isSmall (Cond.code yX11_isSmall cX11_isSmall 4 (some .boolean) :: uw) Rm_cX11_isSmall_b4580 (pT D k sz [.ref h0, .ref h1] [(h0, ob 8 [.int h0f0, .int h0f1, .int h0f2, .int h0f3, .int h0f4, .int h0f5, .ref h2, .ref h3, .int h0f8, .int h0f9, .ref h1, .ref h4, .ref h5, .ref h6, .ref h7, .ref h8, .ref h9, .int h0f17, .int h0f18, .int h0f19, .ref h10, .ref h11, .ref h12, .ref h13, .int h0f24, .int h0f25, .ref h14, .ref h15, .ref h16, .ref h17, .int h0f30, .int h0f31, .ref h18, .ref h19, .ref h20, .ref h21]), (h1, aJ (k 1) 9 anJ)]) (qI (B_cX11_isSmall_b4580 D k h0 h1 h2 h3 h4 h5 h6 h7 h8 h9 h10 h11 h12 h13 h14 h15 h16 h17 h18 h19 h20 h21 h0f0 h0f1 h0f2 h0f3 h0f4 h0f5 h0f8 h0f9 h0f17 h0f18 h0f19 h0f24 h0f25 h0f30 h0f31 (zA [h0, h1] sz)) (zA [h0, h1] sz)) 0 0 (zA [h0, h1] sz) := by
  refine tz_begin (as := [h0, h1]) (Qc := fun A => qI (B_cX11_isSmall_b4580 D k h0 h1 h2 h3 h4 h5 h6 h7 h8 h9 h10 h11 h12 h13 h14 h15 h16 h17 h18 h19 h20 h21 h0f0 h0f1 h0f2 h0f3 h0f4 h0f5 h0f8 h0f9 h0f17 h0f18 h0f19 h0f24 h0f25 h0f30 h0f31 A) A) (by decide +kernel) rfl (Nat.le_of_ble_eq_true rfl) ?_
  intro p e s m args below meth c ls A Q hx hb hr hml hown hlocks hin hU hK hT hS hA hl hQ
  have hl : lv_has ls 4 [(0, .ref h0), (1, .ref h1)] := hl
  have hT : TP D A [(h0, ob 8 [.int h0f0, .int h0f1, .int h0f2, .int h0f3, .int h0f4, .int h0f5, .ref h2, .ref h3, .int h0f8, .int h0f9, .ref h1, .ref h4, .ref h5, .ref h6, .ref h7, .ref h8, .ref h9, .int h0f17, .int h0f18, .int h0f19, .ref h10, .ref h11, .ref h12, .ref h13, .int h0f24, .int h0f25, .ref h14, .ref h15, .ref h16, .ref h17, .int h0f30, .int h0f31, .ref h18, .ref h19, .ref h20, .ref h21]), (h1, aJ (k 1) 9 anJ)] s.heap := hT
  refine lv_iconst (v := 1) hx hb dX11_isSmall_0 (by decide) ?_
  refine lv_istore_n (lv' := [(2, .int 1), (0, .ref h0), (1, .ref h1)]) hx hb dX11_isSmall_1 rfl hl (by decide) rfl (fun ls hl => ?_)
  refine lv_iconst (v := 0) hx hb dX11_isSmall_2 (by decide) ?_
  refine lv_istore_n (lv' := [(3, .int 0), (2, .int 1), (0, .ref h0), (1, .ref h1)]) hx hb dX11_isSmall_3 rfl hl (by decide) rfl (fun ls hl => ?_)
  have lp4_15 : ∀ (n : Nat) (y13 : Int32) (y14 : Int32) (H : Heap) (locs : List Loc) (ls : Array Slot), (0 ≤ y13.toInt ∧ y13.toInt ≤ 9) → (0 ≤ y14.toInt ∧ y14.toInt ≤ 1) → ((-1) * y13.toInt + 9 + 1).toNat < n → TP D A [(h0, ob 8 [.int h0f0, .int h0f1, .int h0f2, .int h0f3, .int h0f4, .int h0f5, .ref h2, .ref h3, .int h0f8, .int h0f9, .ref h1, .ref h4, .ref h5, .ref h6, .ref h7, .ref h8, .ref h9, .int h0f17, .int h0f18, .int h0f19, .ref h10, .ref h11, .ref h12, .ref h13, .int h0f24, .int h0f25, .ref h14, .ref h15, .ref h16, .ref h17, .int h0f30, .int h0f31, .ref h18, .ref h19, .ref h20, .ref h21]), (h1, aJ (k 1) 9 anJ)] H → va_S A s.heap H locs → lv_has ls 4 [(1, .ref h1), (2, .int y14), (3, .int y13)] → W p l e Rm_cX11_isSmall_b4580 s m args below meth c H locs 0 0 Q (F0 m 4 ls []) := by
    intro n
    induction n with
    | zero => intro y13 y14 H locs ls b_y13 b_y14 hm hT hS hl; exact absurd hm (Nat.not_lt_zero _)
    | succ n ih =>
      intro y13 y14 H locs ls b_y13 b_y14 hm hT hS hl
      have ih4_15 := ih
      clear ih
      refine lv_iload_n hx hb dX11_isSmall_4 rfl (lv_at hl 2 rfl) ?_
      refine lv_bipush (v := 9) hx hb dX11_isSmall_5 (by decide) ?_
      refine lv_icmp_ge (tgt := 41) hx hb dX11_isSmall_7 (by decide) (fun c_16 => ?_) (fun c_16 => ?_)
      · skip
        have c_16 := ni_le c_16 li_9 rfl
        refine lv_iload_n hx hb dX11_isSmall_41 rfl (lv_at hl 1 rfl) ?_
        exact tz_retZ (B := B_cX11_isSmall_b4580 D k h0 h1 h2 h3 h4 h5 h6 h7 h8 h9 h10 h11 h12 h13 h14 h15 h16 h17 h18 h19 h20 h21 h0f0 h0f1 h0f2 h0f3 h0f4 h0f5 h0f8 h0f9 h0f17 h0f18 h0f19 h0f24 h0f25 h0f30 h0f31) (v := y14) hQ hx hb hr hlocks hS (Nat.le_of_ble_eq_true rfl) (Nat.le_of_ble_eq_true rfl) dX11_isSmall_42 (by omega) (⟨(by omega), hT⟩)
      · skip
        have c_16 := ni_nle c_16 li_9 rfl
        refine lv_iload_n hx hb dX11_isSmall_10 rfl (lv_at hl 1 rfl) ?_
        refine lv_if_eq (tgt := 33) hx hb dX11_isSmall_11 (by decide) (fun c_17 => ?_) (fun c_17 => ?_)
        · skip
          have c_17 := ni_eq c_17 rfl li_0
          refine lv_iconst (v := 0) hx hb dX11_isSmall_33 (by decide) ?_
          refine lv_istore_n (lv' := [(2, .int 0), (1, .ref h1), (3, .int y13)]) hx hb dX11_isSmall_34 rfl hl (by decide) rfl (fun ls hl => ?_)
          obtain ⟨v18, e_v18⟩ : ∃ x : Int32, x = y13 + Int32.ofInt 1 := ⟨_, rfl⟩
          have f_v18 := e_v18.symm
          have e_v18 : v18.toInt = y13.toInt + 1 := ai_add e_v18 rfl (show (Int32.ofInt 1).toInt = 1 from (by decide +kernel)) (by omega)
          refine lv_iinc (v := v18) (lv' := [(3, .int v18), (2, .int 0), (1, .ref h1)]) hx hb dX11_isSmall_35 hl (k := 2) rfl f_v18 (by decide) rfl (fun ls hl => ?_)
          refine lv_goto (tgt := 4) hx hb dX11_isSmall_38 (by decide) ?_
          exact ih4_15 v18 (0) _ _ _ (by have := li_0; omega) (by have := li_0; omega)  (by have := li_0; omega) hT hS (lv_sub hl [2, 1, 0] rfl)
        · skip
          have c_17 := ni_ne c_17 rfl li_0
          refine lv_aload_n hx hb dX11_isSmall_14 rfl (lv_at hl 0 rfl) ?_
          refine lv_iload_n hx hb dX11_isSmall_15 rfl (lv_at hl 2 rfl) ?_
          refine tz_lald hx hb hK hT 1 rfl (by omega) dX11_isSmall_16 (fun v19 e_v19 => ?_)
          clear e_v19
          refine lv_ldc2 hx hb hown (hU _ w910) dX11_isSmall_17 ?_
          refine lv_ldc2 hx hb hown (hU _ w911) dX11_isSmall_20 ?_
          have q_q21 := ll_m99
          have q_q22 := ll_99
          refine tcI (Tc := []) (Tr := [(h0, ob 8 [.int h0f0, .int h0f1, .int h0f2, .int h0f3, .int h0f4, .int h0f5, .ref h2, .ref h3, .int h0f8, .int h0f9, .ref h1, .ref h4, .ref h5, .ref h6, .ref h7, .ref h8, .ref h9, .int h0f17, .int h0f18, .int h0f19, .ref h10, .ref h11, .ref h12, .ref h13, .int h0f24, .int h0f25, .ref h14, .ref h15, .ref h16, .ref h17, .int h0f30, .int h0f31, .ref h18, .ref h19, .ref h20, .ref h21]), (h1, aJ (k 1) 9 anJ)]) (as := []) (zcS (As := [.long v19, .long (-99), .long 99]) (rest := []) (Tc := []) hx hb hml hown hU hK hT [] rfl (by decide) (cX11_in_ca3b9 l D k _ v19 ((-99)) (99) (by have := ll_m99; omega) (by have := ll_99; omega)) w901 w899 w900 w72 hdX11_in ⟨rfl, rfl⟩ ⟨Nat.le_of_ble_eq_true rfl, Nat.le_of_ble_eq_true rfl⟩ rfl hl.1 (Nat.le_of_ble_eq_true rfl) dX11_isSmall_23 ⟨Nat.le_of_ble_eq_true rfl, Nat.le_of_ble_eq_true rfl⟩) hT hS hA [] [0, 1] rfl rfl rfl (by decide) (by decide) (fun r20 H locs hB J hS => ?_)
          rcases hB with ⟨rfl, hT1⟩ | ⟨c_23, c_24, rfl, hT1⟩
          · skip
            have hT := J _ hT1
            have hT : TP D A [(h0, ob 8 [.int h0f0, .int h0f1, .int h0f2, .int h0f3, .int h0f4, .int h0f5, .ref h2, .ref h3, .int h0f8, .int h0f9, .ref h1, .ref h4, .ref h5, .ref h6, .ref h7, .ref h8, .ref h9, .int h0f17, .int h0f18, .int h0f19, .ref h10, .ref h11, .ref h12, .ref h13, .int h0f24, .int h0f25, .ref h14, .ref h15, .ref h16, .ref h17, .int h0f30, .int h0f31, .ref h18, .ref h19, .ref h20, .ref h21]), (h1, aJ (k 1) 9 anJ)] _ := hT
            refine lv_if_eq (tgt := 33) hx hb dX11_isSmall_26 (by decide) (fun _ => ?_) (fun cc => absurd (by decide +kernel) cc)
            refine lv_iconst (v := 0) hx hb dX11_isSmall_33 (by decide) ?_
            refine lv_istore_n (lv' := [(2, .int 0), (1, .ref h1), (3, .int y13)]) hx hb dX11_isSmall_34 rfl hl (by decide) rfl (fun ls hl => ?_)
            obtain ⟨v25, e_v25⟩ : ∃ x : Int32, x = y13 + Int32.ofInt 1 := ⟨_, rfl⟩
            have f_v25 := e_v25.symm
            have e_v25 : v25.toInt = y13.toInt + 1 := ai_add e_v25 rfl (show (Int32.ofInt 1).toInt = 1 from (by decide +kernel)) (by omega)
            refine lv_iinc (v := v25) (lv' := [(3, .int v25), (2, .int 0), (1, .ref h1)]) hx hb dX11_isSmall_35 hl (k := 2) rfl f_v25 (by decide) rfl (fun ls hl => ?_)
            refine lv_goto (tgt := 4) hx hb dX11_isSmall_38 (by decide) ?_
            exact ih4_15 v25 (0) _ _ _ (by have := li_0; omega) (by have := li_0; omega)  (by have := li_0; omega) hT hS (lv_sub hl [2, 1, 0] rfl)
          · skip
            have hT := J _ hT1
            have hT : TP D A [(h0, ob 8 [.int h0f0, .int h0f1, .int h0f2, .int h0f3, .int h0f4, .int h0f5, .ref h2, .ref h3, .int h0f8, .int h0f9, .ref h1, .ref h4, .ref h5, .ref h6, .ref h7, .ref h8, .ref h9, .int h0f17, .int h0f18, .int h0f19, .ref h10, .ref h11, .ref h12, .ref h13, .int h0f24, .int h0f25, .ref h14, .ref h15, .ref h16, .ref h17, .int h0f30, .int h0f31, .ref h18, .ref h19, .ref h20, .ref h21]), (h1, aJ (k 1) 9 anJ)] _ := hT
            refine lv_if_eq (tgt := 33) hx hb dX11_isSmall_26 (by decide) (fun cc => absurd cc (by decide +kernel)) (fun _ => ?_)
            refine lv_iconst (v := 1) hx hb dX11_isSmall_29 (by decide) ?_
            refine lv_goto (tgt := 34) hx hb dX11_isSmall_30 (by decide) ?_
            refine lv_istore_n (lv' := [(2, .int 1), (1, .ref h1), (3, .int y13)]) hx hb dX11_isSmall_34 rfl hl (by decide) rfl (fun ls hl => ?_)
            obtain ⟨v26, e_v26⟩ : ∃ x : Int32, x = y13 + Int32.ofInt 1 := ⟨_, rfl⟩
            have f_v26 := e_v26.symm
            have e_v26 : v26.toInt = y13.toInt + 1 := ai_add e_v26 rfl (show (Int32.ofInt 1).toInt = 1 from (by decide +kernel)) (by omega)
            refine lv_iinc (v := v26) (lv' := [(3, .int v26), (2, .int 1), (1, .ref h1)]) hx hb dX11_isSmall_35 hl (k := 2) rfl f_v26 (by decide) rfl (fun ls hl => ?_)
            refine lv_goto (tgt := 4) hx hb dX11_isSmall_38 (by decide) ?_
            exact ih4_15 v26 (1) _ _ _ (by have := li_1; omega) (by have := li_1; omega)  (by have := li_1; omega) hT hS (lv_sub hl [2, 1, 0] rfl)
  exact lp4_15 (((-1) * (0 : Int32).toInt + 9 + 1).toNat + 1) (0) (1) _ _ _ (by have := li_0; have := li_1; omega) (by have := li_0; have := li_1; omega)  (Nat.lt_succ_self _) hT hS (lv_sub hl [3, 1, 0] rfl)
abbrev Rm_cX11_without_7ab45 : Room := { frames := 0, cells := 0, slots := 0, locals := 0 }
abbrev B_cX11_without_7ab45 (D : va_G) (k : Nat → ClassId) (h0 h1 h2 h3 h4 h5 h6 h7 h8 h9 h10 h11 h12 h13 h14 h15 h16 h17 h18 h19 h20 h21 : Nat) (x2 : Int32) (x3 : Int32) (h0f0 : Int32) (h0f1 : Int32) (h0f2 : Int32) (h0f3 : Int32) (h0f4 : Int32) (h0f5 : Int32) (h0f8 : Int32) (h0f9 : Int32) (h0f17 : Int32) (h0f18 : Int32) (h0f19 : Int32) (h0f24 : Int32) (h0f25 : Int32) (h0f30 : Int32) (h0f31 : Int32) (A : Nat → Prop) (r : Int64) (H : Heap) : Prop := TP D A [(h0, ob 8 [.int h0f0, .int h0f1, .int h0f2, .int h0f3, .int h0f4, .int h0f5, .ref h2, .ref h3, .int h0f8, .int h0f9, .ref h4, .ref h1, .ref h5, .ref h6, .ref h7, .ref h8, .ref h9, .int h0f17, .int h0f18, .int h0f19, .ref h10, .ref h11, .ref h12, .ref h13, .int h0f24, .int h0f25, .ref h14, .ref h15, .ref h16, .ref h17, .int h0f30, .int h0f31, .ref h18, .ref h19, .ref h20, .ref h21]), (h1, aJ (k 1) 9 anJ)] H
set_option maxHeartbeats 4000000 in
set_option maxRecDepth 100000 in
theorem cX11_without_7ab45 (l : Launch) (D : va_G) (k : Nat → ClassId) (sz : Nat) (h0 h1 h2 h3 h4 h5 h6 h7 h8 h9 h10 h11 h12 h13 h14 h15 h16 h17 h18 h19 h20 h21 : Nat) (x2 : Int32) (x3 : Int32) (h0f0 : Int32) (h0f1 : Int32) (h0f2 : Int32) (h0f3 : Int32) (h0f4 : Int32) (h0f5 : Int32) (h0f8 : Int32) (h0f9 : Int32) (h0f17 : Int32) (h0f18 : Int32) (h0f19 : Int32) (h0f24 : Int32) (h0f25 : Int32) (h0f30 : Int32) (h0f31 : Int32) (b_x2 : 0 ≤ x2.toInt ∧ x2.toInt ≤ 2) (b_x3 : 0 ≤ x3.toInt ∧ x3.toInt ≤ 2) (b_h0f0 : 1 ≤ h0f0.toInt ∧ h0f0.toInt ≤ 3) (b_h0f1 : 1 ≤ h0f1.toInt ∧ h0f1.toInt ≤ 4) (b_h0f3 : 0 ≤ h0f3.toInt ∧ h0f3.toInt ≤ 3) (b_h0f4 : 0 ≤ h0f4.toInt ∧ h0f4.toInt ≤ 4) (b_h0f8 : 0 ≤ h0f8.toInt ∧ h0f8.toInt ≤ 1) (b_h0f9 : 0 ≤ h0f9.toInt ∧ h0f9.toInt ≤ 1) (b_h0f17 : 0 ≤ h0f17.toInt ∧ h0f17.toInt ≤ 120) (b_h0f18 : 0 ≤ h0f18.toInt ∧ h0f18.toInt ≤ 120) (b_h0f19 : 0 ≤ h0f19.toInt ∧ h0f19.toInt ≤ 4) (b_h0f24 : 0 ≤ h0f24.toInt ∧ h0f24.toInt ≤ 100) (b_h0f25 : 0 ≤ h0f25.toInt ∧ h0f25.toInt ≤ 1) (b_h0f30 : 0 ≤ h0f30.toInt ∧ h0f30.toInt ≤ 60) (b_h0f31 : 0 ≤ h0f31.toInt ∧ h0f31.toInt ≤ 1) (i_0 : h0f8.toInt ≤ h0f3.toInt) (i_1 : h0f9.toInt ≤ h0f24.toInt) : Met l yX11_without (Cond.code yX11_without cX11_without 8 (some .long) :: uw) Rm_cX11_without_7ab45 (pT D k sz [.ref h0, .ref h1, .int x2, .int x3] [(h0, ob 8 [.int h0f0, .int h0f1, .int h0f2, .int h0f3, .int h0f4, .int h0f5, .ref h2, .ref h3, .int h0f8, .int h0f9, .ref h4, .ref h1, .ref h5, .ref h6, .ref h7, .ref h8, .ref h9, .int h0f17, .int h0f18, .int h0f19, .ref h10, .ref h11, .ref h12, .ref h13, .int h0f24, .int h0f25, .ref h14, .ref h15, .ref h16, .ref h17, .int h0f30, .int h0f31, .ref h18, .ref h19, .ref h20, .ref h21]), (h1, aJ (k 1) 9 anJ)]) (qL (B_cX11_without_7ab45 D k h0 h1 h2 h3 h4 h5 h6 h7 h8 h9 h10 h11 h12 h13 h14 h15 h16 h17 h18 h19 h20 h21 x2 x3 h0f0 h0f1 h0f2 h0f3 h0f4 h0f5 h0f8 h0f9 h0f17 h0f18 h0f19 h0f24 h0f25 h0f30 h0f31 (zA [h0, h1] sz)) (zA [h0, h1] sz)) 0 0 (zA [h0, h1] sz) := by
  refine tz_begin (as := [h0, h1]) (Qc := fun A => qL (B_cX11_without_7ab45 D k h0 h1 h2 h3 h4 h5 h6 h7 h8 h9 h10 h11 h12 h13 h14 h15 h16 h17 h18 h19 h20 h21 x2 x3 h0f0 h0f1 h0f2 h0f3 h0f4 h0f5 h0f8 h0f9 h0f17 h0f18 h0f19 h0f24 h0f25 h0f30 h0f31 A) A) (by decide +kernel) rfl (Nat.le_of_ble_eq_true rfl) ?_
  intro p e s m args below meth c ls A Q hx hb hr hml hown hlocks hin hU hK hT hS hA hl hQ
  have hl : lv_has ls 8 [(0, .ref h0), (1, .ref h1), (2, .int x2), (3, .int x3)] := hl
  have hT : TP D A [(h0, ob 8 [.int h0f0, .int h0f1, .int h0f2, .int h0f3, .int h0f4, .int h0f5, .ref h2, .ref h3, .int h0f8, .int h0f9, .ref h4, .ref h1, .ref h5, .ref h6, .ref h7, .ref h8, .ref h9, .int h0f17, .int h0f18, .int h0f19, .ref h10, .ref h11, .ref h12, .ref h13, .int h0f24, .int h0f25, .ref h14, .ref h15, .ref h16, .ref h17, .int h0f30, .int h0f31, .ref h18, .ref h19, .ref h20, .ref h21]), (h1, aJ (k 1) 9 anJ)] s.heap := hT
  refine lv_aload_n hx hb dX11_without_0 rfl (lv_at hl 0 rfl) ?_
  refine tz_get (ci := 8) (v := .int h0f0) (C := RX11) (F := TX11) (N := 36) hx hb hU iX11 hown hK hT 0 rfl rfl 0 (by decide) w785 (fun _ h9 => h9) rfl dX11_without_1 ?_
  refine lv_iconst (v := 1) hx hb dX11_without_4 (by decide) ?_
  refine lv_icmp_ne (tgt := 10) hx hb dX11_without_5 (by decide) (fun c_1 => ?_) (fun c_1 => ?_)
  · skip
    have c_1 := ni_ne c_1 rfl li_1
    refine lv_iload_n hx hb dX11_without_10 rfl (lv_at hl 2 rfl) ?_
    refine lv_if_ne (tgt := 18) hx hb dX11_without_11 (by decide) (fun c_2 => ?_) (fun c_2 => ?_)
    · skip
      have c_2 := ni_ne c_2 rfl li_0
      refine lv_iconst (v := 0) hx hb dX11_without_18 (by decide) ?_
      refine lv_istore (lv' := [(4, .int 0), (0, .ref h0), (1, .ref h1), (2, .int x2), (3, .int x3)]) hx hb dX11_without_19 hl (by decide) rfl (fun ls hl => ?_)
      refine lv_iload_n hx hb dX11_without_21 rfl (lv_at hl 4 rfl) ?_
      refine lv_if_ne (tgt := 29) hx hb dX11_without_22 (by decide) (fun c_3 => ?_) (fun c_3 => ?_)
      · skip
        have c_3 := ni_ne c_3 rfl li_0
        refine lv_iconst (v := 0) hx hb dX11_without_29 (by decide) ?_
        refine lv_istore (lv' := [(5, .int 0), (4, .int 0), (0, .ref h0), (1, .ref h1), (2, .int x2), (3, .int x3)]) hx hb dX11_without_30 hl (by decide) rfl (fun ls hl => ?_)
        refine lv_aload_n hx hb dX11_without_32 rfl (lv_at hl 2 rfl) ?_
        refine tz_get (ci := 8) (v := .int h0f0) (C := RX11) (F := TX11) (N := 36) hx hb hU iX11 hown hK hT 0 rfl rfl 0 (by decide) w785 (fun _ h9 => h9) rfl dX11_without_33 ?_
        refine lv_iconst (v := 2) hx hb dX11_without_36 (by decide) ?_
        refine lv_icmp_ne (tgt := 50) hx hb dX11_without_37 (by decide) (fun c_4 => ?_) (fun c_4 => ?_)
        · skip
          have c_4 := ni_ne c_4 rfl li_2
          refine lv_iload_n hx hb dX11_without_50 rfl (lv_at hl 4 rfl) ?_
          refine lv_iconst (v := 2) hx hb dX11_without_51 (by decide) ?_
          refine lv_icmp_ne (tgt := 59) hx hb dX11_without_52 (by decide) (fun c_5 => ?_) (fun c_5 => ?_)
          · skip
            have c_5 := ni_ne c_5 rfl li_2
            refine lv_iconst (v := 2) hx hb dX11_without_59 (by decide) ?_
            refine lv_istore (lv' := [(6, .int 2), (5, .int 0), (4, .int 0), (0, .ref h0), (1, .ref h1), (2, .int x2), (3, .int x3)]) hx hb dX11_without_60 hl (by decide) rfl (fun ls hl => ?_)
            refine lv_iload_n hx hb dX11_without_62 rfl (lv_at hl 6 rfl) ?_
            refine lv_iconst (v := 2) hx hb dX11_without_63 (by decide) ?_
            refine lv_icmp_ne (tgt := 71) hx hb dX11_without_64 (by decide) (fun c_6 => ?_) (fun c_6 => ?_)
            · skip
              have c_6 := ni_ne c_6 rfl li_2
              refine lv_iconst (v := 2) hx hb dX11_without_71 (by decide) ?_
              refine lv_istore (lv' := [(7, .int 2), (6, .int 2), (5, .int 0), (4, .int 0), (0, .ref h0), (1, .ref h1), (2, .int x2), (3, .int x3)]) hx hb dX11_without_72 hl (by decide) rfl (fun ls hl => ?_)
              refine lv_aload_n hx hb dX11_without_74 rfl (lv_at hl 5 rfl) ?_
              refine lv_iconst (v := 3) hx hb dX11_without_75 (by decide) ?_
              refine lv_iload hx hb dX11_without_76 (lv_at hl 3 rfl) ?_
              refine lv_imul hx hb dX11_without_78 (sv_i (v := 0) (by decide +kernel) ?_)
              refine lv_iload hx hb dX11_without_79 (lv_at hl 2 rfl) ?_
              refine lv_iadd hx hb dX11_without_81 (sv_i (v := 0) (by decide +kernel) ?_)
              refine tz_lald hx hb hK hT 1 rfl (by have := li_0; omega) dX11_without_82 (fun v7 e_v7 => ?_)
              clear e_v7
              refine lv_aload_n hx hb dX11_without_83 rfl (lv_at hl 5 rfl) ?_
              refine lv_iconst (v := 3) hx hb dX11_without_84 (by decide) ?_
              refine lv_iload hx hb dX11_without_85 (lv_at hl 1 rfl) ?_
              refine lv_imul hx hb dX11_without_87 (sv_i (v := 6) (by decide +kernel) ?_)
              refine lv_iload hx hb dX11_without_88 (lv_at hl 0 rfl) ?_
              refine lv_iadd hx hb dX11_without_90 (sv_i (v := 8) (by decide +kernel) ?_)
              refine tz_lald hx hb hK hT 1 rfl (by have := li_8; omega) dX11_without_91 (fun v8 e_v8 => ?_)
              clear e_v8
              refine lv_lmul hx hb dX11_without_92 (lv_topl (fun v9 e_v9 => ?_))
              refine lv_aload_n hx hb dX11_without_93 rfl (lv_at hl 5 rfl) ?_
              refine lv_iconst (v := 3) hx hb dX11_without_94 (by decide) ?_
              refine lv_iload hx hb dX11_without_95 (lv_at hl 3 rfl) ?_
              refine lv_imul hx hb dX11_without_97 (sv_i (v := 0) (by decide +kernel) ?_)
              refine lv_iload hx hb dX11_without_98 (lv_at hl 0 rfl) ?_
              refine lv_iadd hx hb dX11_without_100 (sv_i (v := 2) (by decide +kernel) ?_)
              refine tz_lald hx hb hK hT 1 rfl (by have := li_2; omega) dX11_without_101 (fun v10 e_v10 => ?_)
              clear e_v10
              refine lv_aload_n hx hb dX11_without_102 rfl (lv_at hl 5 rfl) ?_
              refine lv_iconst (v := 3) hx hb dX11_without_103 (by decide) ?_
              refine lv_iload hx hb dX11_without_104 (lv_at hl 1 rfl) ?_
              refine lv_imul hx hb dX11_without_106 (sv_i (v := 6) (by decide +kernel) ?_)
              refine lv_iload hx hb dX11_without_107 (lv_at hl 2 rfl) ?_
              refine lv_iadd hx hb dX11_without_109 (sv_i (v := 6) (by decide +kernel) ?_)
              refine tz_lald hx hb hK hT 1 rfl (by have := li_6; omega) dX11_without_110 (fun v11 e_v11 => ?_)
              clear e_v11
              refine lv_lmul hx hb dX11_without_111 (lv_topl (fun v12 e_v12 => ?_))
              refine lv_lsub hx hb dX11_without_112 (lv_topl (fun v13 e_v13 => ?_))
              exact tz_retL (B := B_cX11_without_7ab45 D k h0 h1 h2 h3 h4 h5 h6 h7 h8 h9 h10 h11 h12 h13 h14 h15 h16 h17 h18 h19 h20 h21 x2 x3 h0f0 h0f1 h0f2 h0f3 h0f4 h0f5 h0f8 h0f9 h0f17 h0f18 h0f19 h0f24 h0f25 h0f30 h0f31) (v := v13) hQ hx hb hr hlocks hS (Nat.le_of_ble_eq_true rfl) (Nat.le_of_ble_eq_true rfl) dX11_without_113 (hT)
            · skip
              have c_6 := ni_eq c_6 rfl li_2
              refine lv_iconst (v := 1) hx hb dX11_without_67 (by decide) ?_
              refine lv_goto (tgt := 72) hx hb dX11_without_68 (by decide) ?_
              refine lv_istore (lv' := [(7, .int 1), (6, .int 2), (5, .int 0), (4, .int 0), (0, .ref h0), (1, .ref h1), (2, .int x2), (3, .int x3)]) hx hb dX11_without_72 hl (by decide) rfl (fun ls hl => ?_)
              refine lv_aload_n hx hb dX11_without_74 rfl (lv_at hl 5 rfl) ?_
              refine lv_iconst (v := 3) hx hb dX11_without_75 (by decide) ?_
              refine lv_iload hx hb dX11_without_76 (lv_at hl 3 rfl) ?_
              refine lv_imul hx hb dX11_without_78 (sv_i (v := 0) (by decide +kernel) ?_)
              refine lv_iload hx hb dX11_without_79 (lv_at hl 2 rfl) ?_
              refine lv_iadd hx hb dX11_without_81 (sv_i (v := 0) (by decide +kernel) ?_)
              refine tz_lald hx hb hK hT 1 rfl (by have := li_0; omega) dX11_without_82 (fun v14 e_v14 => ?_)
              clear e_v14
              refine lv_aload_n hx hb dX11_without_83 rfl (lv_at hl 5 rfl) ?_
              refine lv_iconst (v := 3) hx hb dX11_without_84 (by decide) ?_
              refine lv_iload hx hb dX11_without_85 (lv_at hl 1 rfl) ?_
              refine lv_imul hx hb dX11_without_87 (sv_i (v := 6) (by decide +kernel) ?_)
              refine lv_iload hx hb dX11_without_88 (lv_at hl 0 rfl) ?_
              refine lv_iadd hx hb dX11_without_90 (sv_i (v := 7) (by decide +kernel) ?_)
              refine tz_lald hx hb hK hT 1 rfl (by have := li_7; omega) dX11_without_91 (fun v15 e_v15 => ?_)
              clear e_v15
              refine lv_lmul hx hb dX11_without_92 (lv_topl (fun v16 e_v16 => ?_))
              refine lv_aload_n hx hb dX11_without_93 rfl (lv_at hl 5 rfl) ?_
              refine lv_iconst (v := 3) hx hb dX11_without_94 (by decide) ?_
              refine lv_iload hx hb dX11_without_95 (lv_at hl 3 rfl) ?_
              refine lv_imul hx hb dX11_without_97 (sv_i (v := 0) (by decide +kernel) ?_)
              refine lv_iload hx hb dX11_without_98 (lv_at hl 0 rfl) ?_
              refine lv_iadd hx hb dX11_without_100 (sv_i (v := 1) (by decide +kernel) ?_)
              refine tz_lald hx hb hK hT 1 rfl (by have := li_1; omega) dX11_without_101 (fun v17 e_v17 => ?_)
              clear e_v17
              refine lv_aload_n hx hb dX11_without_102 rfl (lv_at hl 5 rfl) ?_
              refine lv_iconst (v := 3) hx hb dX11_without_103 (by decide) ?_
              refine lv_iload hx hb dX11_without_104 (lv_at hl 1 rfl) ?_
              refine lv_imul hx hb dX11_without_106 (sv_i (v := 6) (by decide +kernel) ?_)
              refine lv_iload hx hb dX11_without_107 (lv_at hl 2 rfl) ?_
              refine lv_iadd hx hb dX11_without_109 (sv_i (v := 6) (by decide +kernel) ?_)
              refine tz_lald hx hb hK hT 1 rfl (by have := li_6; omega) dX11_without_110 (fun v18 e_v18 => ?_)
              clear e_v18
              refine lv_lmul hx hb dX11_without_111 (lv_topl (fun v19 e_v19 => ?_))
              refine lv_lsub hx hb dX11_without_112 (lv_topl (fun v20 e_v20 => ?_))
              exact tz_retL (B := B_cX11_without_7ab45 D k h0 h1 h2 h3 h4 h5 h6 h7 h8 h9 h10 h11 h12 h13 h14 h15 h16 h17 h18 h19 h20 h21 x2 x3 h0f0 h0f1 h0f2 h0f3 h0f4 h0f5 h0f8 h0f9 h0f17 h0f18 h0f19 h0f24 h0f25 h0f30 h0f31) (v := v20) hQ hx hb hr hlocks hS (Nat.le_of_ble_eq_true rfl) (Nat.le_of_ble_eq_true rfl) dX11_without_113 (hT)
          · skip
            have c_5 := ni_eq c_5 rfl li_2
            refine lv_iconst (v := 1) hx hb dX11_without_55 (by decide) ?_
            refine lv_goto (tgt := 60) hx hb dX11_without_56 (by decide) ?_
            refine lv_istore (lv' := [(6, .int 1), (5, .int 0), (4, .int 0), (0, .ref h0), (1, .ref h1), (2, .int x2), (3, .int x3)]) hx hb dX11_without_60 hl (by decide) rfl (fun ls hl => ?_)
            refine lv_iload_n hx hb dX11_without_62 rfl (lv_at hl 6 rfl) ?_
            refine lv_iconst (v := 2) hx hb dX11_without_63 (by decide) ?_
            refine lv_icmp_ne (tgt := 71) hx hb dX11_without_64 (by decide) (fun c_21 => ?_) (fun c_21 => ?_)
            · skip
              have c_21 := ni_ne c_21 rfl li_2
              refine lv_iconst (v := 2) hx hb dX11_without_71 (by decide) ?_
              refine lv_istore (lv' := [(7, .int 2), (6, .int 1), (5, .int 0), (4, .int 0), (0, .ref h0), (1, .ref h1), (2, .int x2), (3, .int x3)]) hx hb dX11_without_72 hl (by decide) rfl (fun ls hl => ?_)
              refine lv_aload_n hx hb dX11_without_74 rfl (lv_at hl 5 rfl) ?_
              refine lv_iconst (v := 3) hx hb dX11_without_75 (by decide) ?_
              refine lv_iload hx hb dX11_without_76 (lv_at hl 3 rfl) ?_
              refine lv_imul hx hb dX11_without_78 (sv_i (v := 0) (by decide +kernel) ?_)
              refine lv_iload hx hb dX11_without_79 (lv_at hl 2 rfl) ?_
              refine lv_iadd hx hb dX11_without_81 (sv_i (v := 0) (by decide +kernel) ?_)
              refine tz_lald hx hb hK hT 1 rfl (by have := li_0; omega) dX11_without_82 (fun v22 e_v22 => ?_)
              clear e_v22
              refine lv_aload_n hx hb dX11_without_83 rfl (lv_at hl 5 rfl) ?_
              refine lv_iconst (v := 3) hx hb dX11_without_84 (by decide) ?_
              refine lv_iload hx hb dX11_without_85 (lv_at hl 1 rfl) ?_
              refine lv_imul hx hb dX11_without_87 (sv_i (v := 3) (by decide +kernel) ?_)
              refine lv_iload hx hb dX11_without_88 (lv_at hl 0 rfl) ?_
              refine lv_iadd hx hb dX11_without_90 (sv_i (v := 5) (by decide +kernel) ?_)
              refine tz_lald hx hb hK hT 1 rfl (by have := li_5; omega) dX11_without_91 (fun v23 e_v23 => ?_)
              clear e_v23
              refine lv_lmul hx hb dX11_without_92 (lv_topl (fun v24 e_v24 => ?_))
              refine lv_aload_n hx hb dX11_without_93 rfl (lv_at hl 5 rfl) ?_
              refine lv_iconst (v := 3) hx hb dX11_without_94 (by decide) ?_
              refine lv_iload hx hb dX11_without_95 (lv_at hl 3 rfl) ?_
              refine lv_imul hx hb dX11_without_97 (sv_i (v := 0) (by decide +kernel) ?_)
              refine lv_iload hx hb dX11_without_98 (lv_at hl 0 rfl) ?_
              refine lv_iadd hx hb dX11_without_100 (sv_i (v := 2) (by decide +kernel) ?_)
              refine tz_lald hx hb hK hT 1 rfl (by have := li_2; omega) dX11_without_101 (fun v25 e_v25 => ?_)
              clear e_v25
              refine lv_aload_n hx hb dX11_without_102 rfl (lv_at hl 5 rfl) ?_
              refine lv_iconst (v := 3) hx hb dX11_without_103 (by decide) ?_
              refine lv_iload hx hb dX11_without_104 (lv_at hl 1 rfl) ?_
              refine lv_imul hx hb dX11_without_106 (sv_i (v := 3) (by decide +kernel) ?_)
              refine lv_iload hx hb dX11_without_107 (lv_at hl 2 rfl) ?_
              refine lv_iadd hx hb dX11_without_109 (sv_i (v := 3) (by decide +kernel) ?_)
              refine tz_lald hx hb hK hT 1 rfl (by have := li_3; omega) dX11_without_110 (fun v26 e_v26 => ?_)
              clear e_v26
              refine lv_lmul hx hb dX11_without_111 (lv_topl (fun v27 e_v27 => ?_))
              refine lv_lsub hx hb dX11_without_112 (lv_topl (fun v28 e_v28 => ?_))
              exact tz_retL (B := B_cX11_without_7ab45 D k h0 h1 h2 h3 h4 h5 h6 h7 h8 h9 h10 h11 h12 h13 h14 h15 h16 h17 h18 h19 h20 h21 x2 x3 h0f0 h0f1 h0f2 h0f3 h0f4 h0f5 h0f8 h0f9 h0f17 h0f18 h0f19 h0f24 h0f25 h0f30 h0f31) (v := v28) hQ hx hb hr hlocks hS (Nat.le_of_ble_eq_true rfl) (Nat.le_of_ble_eq_true rfl) dX11_without_113 (hT)
            · skip
              have c_21 := ni_eq c_21 rfl li_2
              refine lv_iconst (v := 1) hx hb dX11_without_67 (by decide) ?_
              refine lv_goto (tgt := 72) hx hb dX11_without_68 (by decide) ?_
              refine lv_istore (lv' := [(7, .int 1), (6, .int 1), (5, .int 0), (4, .int 0), (0, .ref h0), (1, .ref h1), (2, .int x2), (3, .int x3)]) hx hb dX11_without_72 hl (by decide) rfl (fun ls hl => ?_)
              refine lv_aload_n hx hb dX11_without_74 rfl (lv_at hl 5 rfl) ?_
              refine lv_iconst (v := 3) hx hb dX11_without_75 (by decide) ?_
              refine lv_iload hx hb dX11_without_76 (lv_at hl 3 rfl) ?_
              refine lv_imul hx hb dX11_without_78 (sv_i (v := 0) (by decide +kernel) ?_)
              refine lv_iload hx hb dX11_without_79 (lv_at hl 2 rfl) ?_
              refine lv_iadd hx hb dX11_without_81 (sv_i (v := 0) (by decide +kernel) ?_)
              refine tz_lald hx hb hK hT 1 rfl (by have := li_0; omega) dX11_without_82 (fun v29 e_v29 => ?_)
              clear e_v29
              refine lv_aload_n hx hb dX11_without_83 rfl (lv_at hl 5 rfl) ?_
              refine lv_iconst (v := 3) hx hb dX11_without_84 (by decide) ?_
              refine lv_iload hx hb dX11_without_85 (lv_at hl 1 rfl) ?_
              refine lv_imul hx hb dX11_without_87 (sv_i (v := 3) (by decide +kernel) ?_)
              refine lv_iload hx hb dX11_without_88 (lv_at hl 0 rfl) ?_
              refine lv_iadd hx hb dX11_without_90 (sv_i (v := 4) (by decide +kernel) ?_)
              refine tz_lald hx hb hK hT 1 rfl (by have := li_4; omega) dX11_without_91 (fun v30 e_v30 => ?_)
              clear e_v30
              refine lv_lmul hx hb dX11_without_92 (lv_topl (fun v31 e_v31 => ?_))
              refine lv_aload_n hx hb dX11_without_93 rfl (lv_at hl 5 rfl) ?_
              refine lv_iconst (v := 3) hx hb dX11_without_94 (by decide) ?_
              refine lv_iload hx hb dX11_without_95 (lv_at hl 3 rfl) ?_
              refine lv_imul hx hb dX11_without_97 (sv_i (v := 0) (by decide +kernel) ?_)
              refine lv_iload hx hb dX11_without_98 (lv_at hl 0 rfl) ?_
              refine lv_iadd hx hb dX11_without_100 (sv_i (v := 1) (by decide +kernel) ?_)
              refine tz_lald hx hb hK hT 1 rfl (by have := li_1; omega) dX11_without_101 (fun v32 e_v32 => ?_)
              clear e_v32
              refine lv_aload_n hx hb dX11_without_102 rfl (lv_at hl 5 rfl) ?_
              refine lv_iconst (v := 3) hx hb dX11_without_103 (by decide) ?_
              refine lv_iload hx hb dX11_without_104 (lv_at hl 1 rfl) ?_
              refine lv_imul hx hb dX11_without_106 (sv_i (v := 3) (by decide +kernel) ?_)
              refine lv_iload hx hb dX11_without_107 (lv_at hl 2 rfl) ?_
              refine lv_iadd hx hb dX11_without_109 (sv_i (v := 3) (by decide +kernel) ?_)
              refine tz_lald hx hb hK hT 1 rfl (by have := li_3; omega) dX11_without_110 (fun v33 e_v33 => ?_)
              clear e_v33
              refine lv_lmul hx hb dX11_without_111 (lv_topl (fun v34 e_v34 => ?_))
              refine lv_lsub hx hb dX11_without_112 (lv_topl (fun v35 e_v35 => ?_))
              exact tz_retL (B := B_cX11_without_7ab45 D k h0 h1 h2 h3 h4 h5 h6 h7 h8 h9 h10 h11 h12 h13 h14 h15 h16 h17 h18 h19 h20 h21 x2 x3 h0f0 h0f1 h0f2 h0f3 h0f4 h0f5 h0f8 h0f9 h0f17 h0f18 h0f19 h0f24 h0f25 h0f30 h0f31) (v := v35) hQ hx hb hr hlocks hS (Nat.le_of_ble_eq_true rfl) (Nat.le_of_ble_eq_true rfl) dX11_without_113 (hT)
        · skip
          have c_4 := ni_eq c_4 rfl li_2
          refine lv_aload_n hx hb dX11_without_40 rfl (lv_at hl 3 rfl) ?_
          refine lv_iconst (v := 3) hx hb dX11_without_41 (by decide) ?_
          refine lv_iload hx hb dX11_without_42 (lv_at hl 1 rfl) ?_
          refine lv_imul hx hb dX11_without_44 (sv_i (v := 0) (by decide +kernel) ?_)
          refine lv_iload hx hb dX11_without_45 (lv_at hl 0 rfl) ?_
          refine lv_iadd hx hb dX11_without_47 (sv_i (v := 0) (by decide +kernel) ?_)
          refine tz_lald hx hb hK hT 1 rfl (by have := li_0; omega) dX11_without_48 (fun v36 e_v36 => ?_)
          clear e_v36
          exact tz_retL (B := B_cX11_without_7ab45 D k h0 h1 h2 h3 h4 h5 h6 h7 h8 h9 h10 h11 h12 h13 h14 h15 h16 h17 h18 h19 h20 h21 x2 x3 h0f0 h0f1 h0f2 h0f3 h0f4 h0f5 h0f8 h0f9 h0f17 h0f18 h0f19 h0f24 h0f25 h0f30 h0f31) (v := v36) hQ hx hb hr hlocks hS (Nat.le_of_ble_eq_true rfl) (Nat.le_of_ble_eq_true rfl) dX11_without_49 (hT)
      · skip
        have c_3 := ni_eq c_3 rfl li_0
        refine lv_iconst (v := 1) hx hb dX11_without_25 (by decide) ?_
        refine lv_goto (tgt := 30) hx hb dX11_without_26 (by decide) ?_
        refine lv_istore (lv' := [(5, .int 1), (4, .int 0), (0, .ref h0), (1, .ref h1), (2, .int x2), (3, .int x3)]) hx hb dX11_without_30 hl (by decide) rfl (fun ls hl => ?_)
        refine lv_aload_n hx hb dX11_without_32 rfl (lv_at hl 2 rfl) ?_
        refine tz_get (ci := 8) (v := .int h0f0) (C := RX11) (F := TX11) (N := 36) hx hb hU iX11 hown hK hT 0 rfl rfl 0 (by decide) w785 (fun _ h9 => h9) rfl dX11_without_33 ?_
        refine lv_iconst (v := 2) hx hb dX11_without_36 (by decide) ?_
        refine lv_icmp_ne (tgt := 50) hx hb dX11_without_37 (by decide) (fun c_37 => ?_) (fun c_37 => ?_)
        · skip
          have c_37 := ni_ne c_37 rfl li_2
          refine lv_iload_n hx hb dX11_without_50 rfl (lv_at hl 4 rfl) ?_
          refine lv_iconst (v := 2) hx hb dX11_without_51 (by decide) ?_
          refine lv_icmp_ne (tgt := 59) hx hb dX11_without_52 (by decide) (fun c_38 => ?_) (fun c_38 => ?_)
          · skip
            have c_38 := ni_ne c_38 rfl li_2
            refine lv_iconst (v := 2) hx hb dX11_without_59 (by decide) ?_
            refine lv_istore (lv' := [(6, .int 2), (5, .int 1), (4, .int 0), (0, .ref h0), (1, .ref h1), (2, .int x2), (3, .int x3)]) hx hb dX11_without_60 hl (by decide) rfl (fun ls hl => ?_)
            refine lv_iload_n hx hb dX11_without_62 rfl (lv_at hl 6 rfl) ?_
            refine lv_iconst (v := 2) hx hb dX11_without_63 (by decide) ?_
            refine lv_icmp_ne (tgt := 71) hx hb dX11_without_64 (by decide) (fun c_39 => ?_) (fun c_39 => ?_)
            · skip
              have c_39 := ni_ne c_39 rfl li_2
              refine lv_iconst (v := 2) hx hb dX11_without_71 (by decide) ?_
              refine lv_istore (lv' := [(7, .int 2), (6, .int 2), (5, .int 1), (4, .int 0), (0, .ref h0), (1, .ref h1), (2, .int x2), (3, .int x3)]) hx hb dX11_without_72 hl (by decide) rfl (fun ls hl => ?_)
              refine lv_aload_n hx hb dX11_without_74 rfl (lv_at hl 5 rfl) ?_
              refine lv_iconst (v := 3) hx hb dX11_without_75 (by decide) ?_
              refine lv_iload hx hb dX11_without_76 (lv_at hl 3 rfl) ?_
              refine lv_imul hx hb dX11_without_78 (sv_i (v := 0) (by decide +kernel) ?_)
              refine lv_iload hx hb dX11_without_79 (lv_at hl 2 rfl) ?_
              refine lv_iadd hx hb dX11_without_81 (sv_i (v := 1) (by decide +kernel) ?_)
              refine tz_lald hx hb hK hT 1 rfl (by have := li_1; omega) dX11_without_82 (fun v40 e_v40 => ?_)
              clear e_v40
              refine lv_aload_n hx hb dX11_without_83 rfl (lv_at hl 5 rfl) ?_
              refine lv_iconst (v := 3) hx hb dX11_without_84 (by decide) ?_
              refine lv_iload hx hb dX11_without_85 (lv_at hl 1 rfl) ?_
              refine lv_imul hx hb dX11_without_87 (sv_i (v := 6) (by decide +kernel) ?_)
              refine lv_iload hx hb dX11_without_88 (lv_at hl 0 rfl) ?_
              refine lv_iadd hx hb dX11_without_90 (sv_i (v := 8) (by decide +kernel) ?_)
              refine tz_lald hx hb hK hT 1 rfl (by have := li_8; omega) dX11_without_91 (fun v41 e_v41 => ?_)
              clear e_v41
              refine lv_lmul hx hb dX11_without_92 (lv_topl (fun v42 e_v42 => ?_))
              refine lv_aload_n hx hb dX11_without_93 rfl (lv_at hl 5 rfl) ?_
              refine lv_iconst (v := 3) hx hb dX11_without_94 (by decide) ?_
              refine lv_iload hx hb dX11_without_95 (lv_at hl 3 rfl) ?_
              refine lv_imul hx hb dX11_without_97 (sv_i (v := 0) (by decide +kernel) ?_)
              refine lv_iload hx hb dX11_without_98 (lv_at hl 0 rfl) ?_
              refine lv_iadd hx hb dX11_without_100 (sv_i (v := 2) (by decide +kernel) ?_)
              refine tz_lald hx hb hK hT 1 rfl (by have := li_2; omega) dX11_without_101 (fun v43 e_v43 => ?_)
              clear e_v43
              refine lv_aload_n hx hb dX11_without_102 rfl (lv_at hl 5 rfl) ?_
              refine lv_iconst (v := 3) hx hb dX11_without_103 (by decide) ?_
              refine lv_iload hx hb dX11_without_104 (lv_at hl 1 rfl) ?_
              refine lv_imul hx hb dX11_without_106 (sv_i (v := 6) (by decide +kernel) ?_)
              refine lv_iload hx hb dX11_without_107 (lv_at hl 2 rfl) ?_
              refine lv_iadd hx hb dX11_without_109 (sv_i (v := 7) (by decide +kernel) ?_)
              refine tz_lald hx hb hK hT 1 rfl (by have := li_7; omega) dX11_without_110 (fun v44 e_v44 => ?_)
              clear e_v44
              refine lv_lmul hx hb dX11_without_111 (lv_topl (fun v45 e_v45 => ?_))
              refine lv_lsub hx hb dX11_without_112 (lv_topl (fun v46 e_v46 => ?_))
              exact tz_retL (B := B_cX11_without_7ab45 D k h0 h1 h2 h3 h4 h5 h6 h7 h8 h9 h10 h11 h12 h13 h14 h15 h16 h17 h18 h19 h20 h21 x2 x3 h0f0 h0f1 h0f2 h0f3 h0f4 h0f5 h0f8 h0f9 h0f17 h0f18 h0f19 h0f24 h0f25 h0f30 h0f31) (v := v46) hQ hx hb hr hlocks hS (Nat.le_of_ble_eq_true rfl) (Nat.le_of_ble_eq_true rfl) dX11_without_113 (hT)
            · skip
              have c_39 := ni_eq c_39 rfl li_2
              exfalso; omega
          · skip
            have c_38 := ni_eq c_38 rfl li_2
            refine lv_iconst (v := 1) hx hb dX11_without_55 (by decide) ?_
            refine lv_goto (tgt := 60) hx hb dX11_without_56 (by decide) ?_
            refine lv_istore (lv' := [(6, .int 1), (5, .int 1), (4, .int 0), (0, .ref h0), (1, .ref h1), (2, .int x2), (3, .int x3)]) hx hb dX11_without_60 hl (by decide) rfl (fun ls hl => ?_)
            refine lv_iload_n hx hb dX11_without_62 rfl (lv_at hl 6 rfl) ?_
            refine lv_iconst (v := 2) hx hb dX11_without_63 (by decide) ?_
            refine lv_icmp_ne (tgt := 71) hx hb dX11_without_64 (by decide) (fun c_47 => ?_) (fun c_47 => ?_)
            · skip
              have c_47 := ni_ne c_47 rfl li_2
              refine lv_iconst (v := 2) hx hb dX11_without_71 (by decide) ?_
              refine lv_istore (lv' := [(7, .int 2), (6, .int 1), (5, .int 1), (4, .int 0), (0, .ref h0), (1, .ref h1), (2, .int x2), (3, .int x3)]) hx hb dX11_without_72 hl (by decide) rfl (fun ls hl => ?_)
              refine lv_aload_n hx hb dX11_without_74 rfl (lv_at hl 5 rfl) ?_
              refine lv_iconst (v := 3) hx hb dX11_without_75 (by decide) ?_
              refine lv_iload hx hb dX11_without_76 (lv_at hl 3 rfl) ?_
              refine lv_imul hx hb dX11_without_78 (sv_i (v := 0) (by decide +kernel) ?_)
              refine lv_iload hx hb dX11_without_79 (lv_at hl 2 rfl) ?_
              refine lv_iadd hx hb dX11_without_81 (sv_i (v := 1) (by decide +kernel) ?_)
              refine tz_lald hx hb hK hT 1 rfl (by have := li_1; omega) dX11_without_82 (fun v48 e_v48 => ?_)
              clear e_v48
              refine lv_aload_n hx hb dX11_without_83 rfl (lv_at hl 5 rfl) ?_
              refine lv_iconst (v := 3) hx hb dX11_without_84 (by decide) ?_
              refine lv_iload hx hb dX11_without_85 (lv_at hl 1 rfl) ?_
              refine lv_imul hx hb dX11_without_87 (sv_i (v := 3) (by decide +kernel) ?_)
              refine lv_iload hx hb dX11_without_88 (lv_at hl 0 rfl) ?_
              refine lv_iadd hx hb dX11_without_90 (sv_i (v := 5) (by decide +kernel) ?_)
              refine tz_lald hx hb hK hT 1 rfl (by have := li_5; omega) dX11_without_91 (fun v49 e_v49 => ?_)
              clear e_v49
              refine lv_lmul hx hb dX11_without_92 (lv_topl (fun v50 e_v50 => ?_))
              refine lv_aload_n hx hb dX11_without_93 rfl (lv_at hl 5 rfl) ?_
              refine lv_iconst (v := 3) hx hb dX11_without_94 (by decide) ?_
              refine lv_iload hx hb dX11_without_95 (lv_at hl 3 rfl) ?_
              refine lv_imul hx hb dX11_without_97 (sv_i (v := 0) (by decide +kernel) ?_)
              refine lv_iload hx hb dX11_without_98 (lv_at hl 0 rfl) ?_
              refine lv_iadd hx hb dX11_without_100 (sv_i (v := 2) (by decide +kernel) ?_)
              refine tz_lald hx hb hK hT 1 rfl (by have := li_2; omega) dX11_without_101 (fun v51 e_v51 => ?_)
              clear e_v51
              refine lv_aload_n hx hb dX11_without_102 rfl (lv_at hl 5 rfl) ?_
              refine lv_iconst (v := 3) hx hb dX11_without_103 (by decide) ?_
              refine lv_iload hx hb dX11_without_104 (lv_at hl 1 rfl) ?_
              refine lv_imul hx hb dX11_without_106 (sv_i (v := 3) (by decide +kernel) ?_)
              refine lv_iload hx hb dX11_without_107 (lv_at hl 2 rfl) ?_
              refine lv_iadd hx hb dX11_without_109 (sv_i (v := 4) (by decide +kernel) ?_)
              refine tz_lald hx hb hK hT 1 rfl (by have := li_4; omega) dX11_without_110 (fun v52 e_v52 => ?_)
              clear e_v52
              refine lv_lmul hx hb dX11_without_111 (lv_topl (fun v53 e_v53 => ?_))
              refine lv_lsub hx hb dX11_without_112 (lv_topl (fun v54 e_v54 => ?_))
              exact tz_retL (B := B_cX11_without_7ab45 D k h0 h1 h2 h3 h4 h5 h6 h7 h8 h9 h10 h11 h12 h13 h14 h15 h16 h17 h18 h19 h20 h21 x2 x3 h0f0 h0f1 h0f2 h0f3 h0f4 h0f5 h0f8 h0f9 h0f17 h0f18 h0f19 h0f24 h0f25 h0f30 h0f31) (v := v54) hQ hx hb hr hlocks hS (Nat.le_of_ble_eq_true rfl) (Nat.le_of_ble_eq_true rfl) dX11_without_113 (hT)
            · skip
              have c_47 := ni_eq c_47 rfl li_2
              exfalso; omega
        · skip
          have c_37 := ni_eq c_37 rfl li_2
          refine lv_aload_n hx hb dX11_without_40 rfl (lv_at hl 3 rfl) ?_
          refine lv_iconst (v := 3) hx hb dX11_without_41 (by decide) ?_
          refine lv_iload hx hb dX11_without_42 (lv_at hl 1 rfl) ?_
          refine lv_imul hx hb dX11_without_44 (sv_i (v := 0) (by decide +kernel) ?_)
          refine lv_iload hx hb dX11_without_45 (lv_at hl 0 rfl) ?_
          refine lv_iadd hx hb dX11_without_47 (sv_i (v := 1) (by decide +kernel) ?_)
          refine tz_lald hx hb hK hT 1 rfl (by have := li_1; omega) dX11_without_48 (fun v55 e_v55 => ?_)
          clear e_v55
          exact tz_retL (B := B_cX11_without_7ab45 D k h0 h1 h2 h3 h4 h5 h6 h7 h8 h9 h10 h11 h12 h13 h14 h15 h16 h17 h18 h19 h20 h21 x2 x3 h0f0 h0f1 h0f2 h0f3 h0f4 h0f5 h0f8 h0f9 h0f17 h0f18 h0f19 h0f24 h0f25 h0f30 h0f31) (v := v55) hQ hx hb hr hlocks hS (Nat.le_of_ble_eq_true rfl) (Nat.le_of_ble_eq_true rfl) dX11_without_49 (hT)
    · skip
      have c_2 := ni_eq c_2 rfl li_0
      refine lv_iconst (v := 1) hx hb dX11_without_14 (by decide) ?_
      refine lv_goto (tgt := 19) hx hb dX11_without_15 (by decide) ?_
      refine lv_istore (lv' := [(4, .int 1), (0, .ref h0), (1, .ref h1), (2, .int x2), (3, .int x3)]) hx hb dX11_without_19 hl (by decide) rfl (fun ls hl => ?_)
      refine lv_iload_n hx hb dX11_without_21 rfl (lv_at hl 4 rfl) ?_
      refine lv_if_ne (tgt := 29) hx hb dX11_without_22 (by decide) (fun c_56 => ?_) (fun c_56 => ?_)
      · skip
        have c_56 := ni_ne c_56 rfl li_0
        refine lv_iconst (v := 0) hx hb dX11_without_29 (by decide) ?_
        refine lv_istore (lv' := [(5, .int 0), (4, .int 1), (0, .ref h0), (1, .ref h1), (2, .int x2), (3, .int x3)]) hx hb dX11_without_30 hl (by decide) rfl (fun ls hl => ?_)
        refine lv_aload_n hx hb dX11_without_32 rfl (lv_at hl 2 rfl) ?_
        refine tz_get (ci := 8) (v := .int h0f0) (C := RX11) (F := TX11) (N := 36) hx hb hU iX11 hown hK hT 0 rfl rfl 0 (by decide) w785 (fun _ h9 => h9) rfl dX11_without_33 ?_
        refine lv_iconst (v := 2) hx hb dX11_without_36 (by decide) ?_
        refine lv_icmp_ne (tgt := 50) hx hb dX11_without_37 (by decide) (fun c_57 => ?_) (fun c_57 => ?_)
        · skip
          have c_57 := ni_ne c_57 rfl li_2
          refine lv_iload_n hx hb dX11_without_50 rfl (lv_at hl 4 rfl) ?_
          refine lv_iconst (v := 2) hx hb dX11_without_51 (by decide) ?_
          refine lv_icmp_ne (tgt := 59) hx hb dX11_without_52 (by decide) (fun c_58 => ?_) (fun c_58 => ?_)
          · skip
            have c_58 := ni_ne c_58 rfl li_2
            refine lv_iconst (v := 2) hx hb dX11_without_59 (by decide) ?_
            refine lv_istore (lv' := [(6, .int 2), (5, .int 0), (4, .int 1), (0, .ref h0), (1, .ref h1), (2, .int x2), (3, .int x3)]) hx hb dX11_without_60 hl (by decide) rfl (fun ls hl => ?_)
            refine lv_iload_n hx hb dX11_without_62 rfl (lv_at hl 6 rfl) ?_
            refine lv_iconst (v := 2) hx hb dX11_without_63 (by decide) ?_
            refine lv_icmp_ne (tgt := 71) hx hb dX11_without_64 (by decide) (fun c_59 => ?_) (fun c_59 => ?_)
            · skip
              have c_59 := ni_ne c_59 rfl li_2
              refine lv_iconst (v := 2) hx hb dX11_without_71 (by decide) ?_
              refine lv_istore (lv' := [(7, .int 2), (6, .int 2), (5, .int 0), (4, .int 1), (0, .ref h0), (1, .ref h1), (2, .int x2), (3, .int x3)]) hx hb dX11_without_72 hl (by decide) rfl (fun ls hl => ?_)
              refine lv_aload_n hx hb dX11_without_74 rfl (lv_at hl 5 rfl) ?_
              refine lv_iconst (v := 3) hx hb dX11_without_75 (by decide) ?_
              refine lv_iload hx hb dX11_without_76 (lv_at hl 3 rfl) ?_
              refine lv_imul hx hb dX11_without_78 (sv_i (v := 3) (by decide +kernel) ?_)
              refine lv_iload hx hb dX11_without_79 (lv_at hl 2 rfl) ?_
              refine lv_iadd hx hb dX11_without_81 (sv_i (v := 3) (by decide +kernel) ?_)
              refine tz_lald hx hb hK hT 1 rfl (by have := li_3; omega) dX11_without_82 (fun v60 e_v60 => ?_)
              clear e_v60
              refine lv_aload_n hx hb dX11_without_83 rfl (lv_at hl 5 rfl) ?_
              refine lv_iconst (v := 3) hx hb dX11_without_84 (by decide) ?_
              refine lv_iload hx hb dX11_without_85 (lv_at hl 1 rfl) ?_
              refine lv_imul hx hb dX11_without_87 (sv_i (v := 6) (by decide +kernel) ?_)
              refine lv_iload hx hb dX11_without_88 (lv_at hl 0 rfl) ?_
              refine lv_iadd hx hb dX11_without_90 (sv_i (v := 8) (by decide +kernel) ?_)
              refine tz_lald hx hb hK hT 1 rfl (by have := li_8; omega) dX11_without_91 (fun v61 e_v61 => ?_)
              clear e_v61
              refine lv_lmul hx hb dX11_without_92 (lv_topl (fun v62 e_v62 => ?_))
              refine lv_aload_n hx hb dX11_without_93 rfl (lv_at hl 5 rfl) ?_
              refine lv_iconst (v := 3) hx hb dX11_without_94 (by decide) ?_
              refine lv_iload hx hb dX11_without_95 (lv_at hl 3 rfl) ?_
              refine lv_imul hx hb dX11_without_97 (sv_i (v := 3) (by decide +kernel) ?_)
              refine lv_iload hx hb dX11_without_98 (lv_at hl 0 rfl) ?_
              refine lv_iadd hx hb dX11_without_100 (sv_i (v := 5) (by decide +kernel) ?_)
              refine tz_lald hx hb hK hT 1 rfl (by have := li_5; omega) dX11_without_101 (fun v63 e_v63 => ?_)
              clear e_v63
              refine lv_aload_n hx hb dX11_without_102 rfl (lv_at hl 5 rfl) ?_
              refine lv_iconst (v := 3) hx hb dX11_without_103 (by decide) ?_
              refine lv_iload hx hb dX11_without_104 (lv_at hl 1 rfl) ?_
              refine lv_imul hx hb dX11_without_106 (sv_i (v := 6) (by decide +kernel) ?_)
              refine lv_iload hx hb dX11_without_107 (lv_at hl 2 rfl) ?_
              refine lv_iadd hx hb dX11_without_109 (sv_i (v := 6) (by decide +kernel) ?_)
              refine tz_lald hx hb hK hT 1 rfl (by have := li_6; omega) dX11_without_110 (fun v64 e_v64 => ?_)
              clear e_v64
              refine lv_lmul hx hb dX11_without_111 (lv_topl (fun v65 e_v65 => ?_))
              refine lv_lsub hx hb dX11_without_112 (lv_topl (fun v66 e_v66 => ?_))
              exact tz_retL (B := B_cX11_without_7ab45 D k h0 h1 h2 h3 h4 h5 h6 h7 h8 h9 h10 h11 h12 h13 h14 h15 h16 h17 h18 h19 h20 h21 x2 x3 h0f0 h0f1 h0f2 h0f3 h0f4 h0f5 h0f8 h0f9 h0f17 h0f18 h0f19 h0f24 h0f25 h0f30 h0f31) (v := v66) hQ hx hb hr hlocks hS (Nat.le_of_ble_eq_true rfl) (Nat.le_of_ble_eq_true rfl) dX11_without_113 (hT)
            · skip
              have c_59 := ni_eq c_59 rfl li_2
              refine lv_iconst (v := 1) hx hb dX11_without_67 (by decide) ?_
              refine lv_goto (tgt := 72) hx hb dX11_without_68 (by decide) ?_
              refine lv_istore (lv' := [(7, .int 1), (6, .int 2), (5, .int 0), (4, .int 1), (0, .ref h0), (1, .ref h1), (2, .int x2), (3, .int x3)]) hx hb dX11_without_72 hl (by decide) rfl (fun ls hl => ?_)
              refine lv_aload_n hx hb dX11_without_74 rfl (lv_at hl 5 rfl) ?_
              refine lv_iconst (v := 3) hx hb dX11_without_75 (by decide) ?_
              refine lv_iload hx hb dX11_without_76 (lv_at hl 3 rfl) ?_
              refine lv_imul hx hb dX11_without_78 (sv_i (v := 3) (by decide +kernel) ?_)
              refine lv_iload hx hb dX11_without_79 (lv_at hl 2 rfl) ?_
              refine lv_iadd hx hb dX11_without_81 (sv_i (v := 3) (by decide +kernel) ?_)
              refine tz_lald hx hb hK hT 1 rfl (by have := li_3; omega) dX11_without_82 (fun v67 e_v67 => ?_)
              clear e_v67
              refine lv_aload_n hx hb dX11_without_83 rfl (lv_at hl 5 rfl) ?_
              refine lv_iconst (v := 3) hx hb dX11_without_84 (by decide) ?_
              refine lv_iload hx hb dX11_without_85 (lv_at hl 1 rfl) ?_
              refine lv_imul hx hb dX11_without_87 (sv_i (v := 6) (by decide +kernel) ?_)
              refine lv_iload hx hb dX11_without_88 (lv_at hl 0 rfl) ?_
              refine lv_iadd hx hb dX11_without_90 (sv_i (v := 7) (by decide +kernel) ?_)
              refine tz_lald hx hb hK hT 1 rfl (by have := li_7; omega) dX11_without_91 (fun v68 e_v68 => ?_)
              clear e_v68
              refine lv_lmul hx hb dX11_without_92 (lv_topl (fun v69 e_v69 => ?_))
              refine lv_aload_n hx hb dX11_without_93 rfl (lv_at hl 5 rfl) ?_
              refine lv_iconst (v := 3) hx hb dX11_without_94 (by decide) ?_
              refine lv_iload hx hb dX11_without_95 (lv_at hl 3 rfl) ?_
              refine lv_imul hx hb dX11_without_97 (sv_i (v := 3) (by decide +kernel) ?_)
              refine lv_iload hx hb dX11_without_98 (lv_at hl 0 rfl) ?_
              refine lv_iadd hx hb dX11_without_100 (sv_i (v := 4) (by decide +kernel) ?_)
              refine tz_lald hx hb hK hT 1 rfl (by have := li_4; omega) dX11_without_101 (fun v70 e_v70 => ?_)
              clear e_v70
              refine lv_aload_n hx hb dX11_without_102 rfl (lv_at hl 5 rfl) ?_
              refine lv_iconst (v := 3) hx hb dX11_without_103 (by decide) ?_
              refine lv_iload hx hb dX11_without_104 (lv_at hl 1 rfl) ?_
              refine lv_imul hx hb dX11_without_106 (sv_i (v := 6) (by decide +kernel) ?_)
              refine lv_iload hx hb dX11_without_107 (lv_at hl 2 rfl) ?_
              refine lv_iadd hx hb dX11_without_109 (sv_i (v := 6) (by decide +kernel) ?_)
              refine tz_lald hx hb hK hT 1 rfl (by have := li_6; omega) dX11_without_110 (fun v71 e_v71 => ?_)
              clear e_v71
              refine lv_lmul hx hb dX11_without_111 (lv_topl (fun v72 e_v72 => ?_))
              refine lv_lsub hx hb dX11_without_112 (lv_topl (fun v73 e_v73 => ?_))
              exact tz_retL (B := B_cX11_without_7ab45 D k h0 h1 h2 h3 h4 h5 h6 h7 h8 h9 h10 h11 h12 h13 h14 h15 h16 h17 h18 h19 h20 h21 x2 x3 h0f0 h0f1 h0f2 h0f3 h0f4 h0f5 h0f8 h0f9 h0f17 h0f18 h0f19 h0f24 h0f25 h0f30 h0f31) (v := v73) hQ hx hb hr hlocks hS (Nat.le_of_ble_eq_true rfl) (Nat.le_of_ble_eq_true rfl) dX11_without_113 (hT)
          · skip
            have c_58 := ni_eq c_58 rfl li_2
            exfalso; omega
        · skip
          have c_57 := ni_eq c_57 rfl li_2
          refine lv_aload_n hx hb dX11_without_40 rfl (lv_at hl 3 rfl) ?_
          refine lv_iconst (v := 3) hx hb dX11_without_41 (by decide) ?_
          refine lv_iload hx hb dX11_without_42 (lv_at hl 1 rfl) ?_
          refine lv_imul hx hb dX11_without_44 (sv_i (v := 3) (by decide +kernel) ?_)
          refine lv_iload hx hb dX11_without_45 (lv_at hl 0 rfl) ?_
          refine lv_iadd hx hb dX11_without_47 (sv_i (v := 3) (by decide +kernel) ?_)
          refine tz_lald hx hb hK hT 1 rfl (by have := li_3; omega) dX11_without_48 (fun v74 e_v74 => ?_)
          clear e_v74
          exact tz_retL (B := B_cX11_without_7ab45 D k h0 h1 h2 h3 h4 h5 h6 h7 h8 h9 h10 h11 h12 h13 h14 h15 h16 h17 h18 h19 h20 h21 x2 x3 h0f0 h0f1 h0f2 h0f3 h0f4 h0f5 h0f8 h0f9 h0f17 h0f18 h0f19 h0f24 h0f25 h0f30 h0f31) (v := v74) hQ hx hb hr hlocks hS (Nat.le_of_ble_eq_true rfl) (Nat.le_of_ble_eq_true rfl) dX11_without_49 (hT)
      · skip
        have c_56 := ni_eq c_56 rfl li_0
        refine lv_iconst (v := 1) hx hb dX11_without_25 (by decide) ?_
        refine lv_goto (tgt := 30) hx hb dX11_without_26 (by decide) ?_
        refine lv_istore (lv' := [(5, .int 1), (4, .int 1), (0, .ref h0), (1, .ref h1), (2, .int x2), (3, .int x3)]) hx hb dX11_without_30 hl (by decide) rfl (fun ls hl => ?_)
        refine lv_aload_n hx hb dX11_without_32 rfl (lv_at hl 2 rfl) ?_
        refine tz_get (ci := 8) (v := .int h0f0) (C := RX11) (F := TX11) (N := 36) hx hb hU iX11 hown hK hT 0 rfl rfl 0 (by decide) w785 (fun _ h9 => h9) rfl dX11_without_33 ?_
        refine lv_iconst (v := 2) hx hb dX11_without_36 (by decide) ?_
        refine lv_icmp_ne (tgt := 50) hx hb dX11_without_37 (by decide) (fun c_75 => ?_) (fun c_75 => ?_)
        · skip
          have c_75 := ni_ne c_75 rfl li_2
          refine lv_iload_n hx hb dX11_without_50 rfl (lv_at hl 4 rfl) ?_
          refine lv_iconst (v := 2) hx hb dX11_without_51 (by decide) ?_
          refine lv_icmp_ne (tgt := 59) hx hb dX11_without_52 (by decide) (fun c_76 => ?_) (fun c_76 => ?_)
          · skip
            have c_76 := ni_ne c_76 rfl li_2
            refine lv_iconst (v := 2) hx hb dX11_without_59 (by decide) ?_
            refine lv_istore (lv' := [(6, .int 2), (5, .int 1), (4, .int 1), (0, .ref h0), (1, .ref h1), (2, .int x2), (3, .int x3)]) hx hb dX11_without_60 hl (by decide) rfl (fun ls hl => ?_)
            refine lv_iload_n hx hb dX11_without_62 rfl (lv_at hl 6 rfl) ?_
            refine lv_iconst (v := 2) hx hb dX11_without_63 (by decide) ?_
            refine lv_icmp_ne (tgt := 71) hx hb dX11_without_64 (by decide) (fun c_77 => ?_) (fun c_77 => ?_)
            · skip
              have c_77 := ni_ne c_77 rfl li_2
              refine lv_iconst (v := 2) hx hb dX11_without_71 (by decide) ?_
              refine lv_istore (lv' := [(7, .int 2), (6, .int 2), (5, .int 1), (4, .int 1), (0, .ref h0), (1, .ref h1), (2, .int x2), (3, .int x3)]) hx hb dX11_without_72 hl (by decide) rfl (fun ls hl => ?_)
              refine lv_aload_n hx hb dX11_without_74 rfl (lv_at hl 5 rfl) ?_
              refine lv_iconst (v := 3) hx hb dX11_without_75 (by decide) ?_
              refine lv_iload hx hb dX11_without_76 (lv_at hl 3 rfl) ?_
              refine lv_imul hx hb dX11_without_78 (sv_i (v := 3) (by decide +kernel) ?_)
              refine lv_iload hx hb dX11_without_79 (lv_at hl 2 rfl) ?_
              refine lv_iadd hx hb dX11_without_81 (sv_i (v := 4) (by decide +kernel) ?_)
              refine tz_lald hx hb hK hT 1 rfl (by have := li_4; omega) dX11_without_82 (fun v78 e_v78 => ?_)
              clear e_v78
              refine lv_aload_n hx hb dX11_without_83 rfl (lv_at hl 5 rfl) ?_
              refine lv_iconst (v := 3) hx hb dX11_without_84 (by decide) ?_
              refine lv_iload hx hb dX11_without_85 (lv_at hl 1 rfl) ?_
              refine lv_imul hx hb dX11_without_87 (sv_i (v := 6) (by decide +kernel) ?_)
              refine lv_iload hx hb dX11_without_88 (lv_at hl 0 rfl) ?_
              refine lv_iadd hx hb dX11_without_90 (sv_i (v := 8) (by decide +kernel) ?_)
              refine tz_lald hx hb hK hT 1 rfl (by have := li_8; omega) dX11_without_91 (fun v79 e_v79 => ?_)
              clear e_v79
              refine lv_lmul hx hb dX11_without_92 (lv_topl (fun v80 e_v80 => ?_))
              refine lv_aload_n hx hb dX11_without_93 rfl (lv_at hl 5 rfl) ?_
              refine lv_iconst (v := 3) hx hb dX11_without_94 (by decide) ?_
              refine lv_iload hx hb dX11_without_95 (lv_at hl 3 rfl) ?_
              refine lv_imul hx hb dX11_without_97 (sv_i (v := 3) (by decide +kernel) ?_)
              refine lv_iload hx hb dX11_without_98 (lv_at hl 0 rfl) ?_
              refine lv_iadd hx hb dX11_without_100 (sv_i (v := 5) (by decide +kernel) ?_)
              refine tz_lald hx hb hK hT 1 rfl (by have := li_5; omega) dX11_without_101 (fun v81 e_v81 => ?_)
              clear e_v81
              refine lv_aload_n hx hb dX11_without_102 rfl (lv_at hl 5 rfl) ?_
              refine lv_iconst (v := 3) hx hb dX11_without_103 (by decide) ?_
              refine lv_iload hx hb dX11_without_104 (lv_at hl 1 rfl) ?_
              refine lv_imul hx hb dX11_without_106 (sv_i (v := 6) (by decide +kernel) ?_)
              refine lv_iload hx hb dX11_without_107 (lv_at hl 2 rfl) ?_
              refine lv_iadd hx hb dX11_without_109 (sv_i (v := 7) (by decide +kernel) ?_)
              refine tz_lald hx hb hK hT 1 rfl (by have := li_7; omega) dX11_without_110 (fun v82 e_v82 => ?_)
              clear e_v82
              refine lv_lmul hx hb dX11_without_111 (lv_topl (fun v83 e_v83 => ?_))
              refine lv_lsub hx hb dX11_without_112 (lv_topl (fun v84 e_v84 => ?_))
              exact tz_retL (B := B_cX11_without_7ab45 D k h0 h1 h2 h3 h4 h5 h6 h7 h8 h9 h10 h11 h12 h13 h14 h15 h16 h17 h18 h19 h20 h21 x2 x3 h0f0 h0f1 h0f2 h0f3 h0f4 h0f5 h0f8 h0f9 h0f17 h0f18 h0f19 h0f24 h0f25 h0f30 h0f31) (v := v84) hQ hx hb hr hlocks hS (Nat.le_of_ble_eq_true rfl) (Nat.le_of_ble_eq_true rfl) dX11_without_113 (hT)
            · skip
              have c_77 := ni_eq c_77 rfl li_2
              exfalso; omega
          · skip
            have c_76 := ni_eq c_76 rfl li_2
            exfalso; omega
        · skip
          have c_75 := ni_eq c_75 rfl li_2
          refine lv_aload_n hx hb dX11_without_40 rfl (lv_at hl 3 rfl) ?_
          refine lv_iconst (v := 3) hx hb dX11_without_41 (by decide) ?_
          refine lv_iload hx hb dX11_without_42 (lv_at hl 1 rfl) ?_
          refine lv_imul hx hb dX11_without_44 (sv_i (v := 3) (by decide +kernel) ?_)
          refine lv_iload hx hb dX11_without_45 (lv_at hl 0 rfl) ?_
          refine lv_iadd hx hb dX11_without_47 (sv_i (v := 4) (by decide +kernel) ?_)
          refine tz_lald hx hb hK hT 1 rfl (by have := li_4; omega) dX11_without_48 (fun v85 e_v85 => ?_)
          clear e_v85
          exact tz_retL (B := B_cX11_without_7ab45 D k h0 h1 h2 h3 h4 h5 h6 h7 h8 h9 h10 h11 h12 h13 h14 h15 h16 h17 h18 h19 h20 h21 x2 x3 h0f0 h0f1 h0f2 h0f3 h0f4 h0f5 h0f8 h0f9 h0f17 h0f18 h0f19 h0f24 h0f25 h0f30 h0f31) (v := v85) hQ hx hb hr hlocks hS (Nat.le_of_ble_eq_true rfl) (Nat.le_of_ble_eq_true rfl) dX11_without_49 (hT)
  · skip
    have c_1 := ni_eq c_1 rfl li_1
    refine lv_lconst (v := 1) hx hb dX11_without_8 (by decide) ?_
    exact tz_retL (B := B_cX11_without_7ab45 D k h0 h1 h2 h3 h4 h5 h6 h7 h8 h9 h10 h11 h12 h13 h14 h15 h16 h17 h18 h19 h20 h21 x2 x3 h0f0 h0f1 h0f2 h0f3 h0f4 h0f5 h0f8 h0f9 h0f17 h0f18 h0f19 h0f24 h0f25 h0f30 h0f31) (v := 1) hQ hx hb hr hlocks hS (Nat.le_of_ble_eq_true rfl) (Nat.le_of_ble_eq_true rfl) dX11_without_9 (hT)
abbrev Rm_cX11_det_9ae4b : Room := { frames := 0, cells := 0, slots := 0, locals := 0 }
abbrev B_cX11_det_9ae4b (D : va_G) (k : Nat → ClassId) (h0 h1 h2 h3 h4 h5 h6 h7 h8 h9 h10 h11 h12 h13 h14 h15 h16 h17 h18 h19 h20 h21 : Nat) (h0f0 : Int32) (h0f1 : Int32) (h0f2 : Int32) (h0f3 : Int32) (h0f4 : Int32) (h0f5 : Int32) (h0f8 : Int32) (h0f9 : Int32) (h0f17 : Int32) (h0f18 : Int32) (h0f19 : Int32) (h0f24 : Int32) (h0f25 : Int32) (h0f30 : Int32) (h0f31 : Int32) (A : Nat → Prop) (r : Int64) (H : Heap) : Prop := TP D A [(h0, ob 8 [.int h0f0, .int h0f1, .int h0f2, .int h0f3, .int h0f4, .int h0f5, .ref h2, .ref h3, .int h0f8, .int h0f9, .ref h4, .ref h1, .ref h5, .ref h6, .ref h7, .ref h8, .ref h9, .int h0f17, .int h0f18, .int h0f19, .ref h10, .ref h11, .ref h12, .ref h13, .int h0f24, .int h0f25, .ref h14, .ref h15, .ref h16, .ref h17, .int h0f30, .int h0f31, .ref h18, .ref h19, .ref h20, .ref h21]), (h1, aJ (k 1) 9 anJ)] H
set_option maxHeartbeats 4000000 in
set_option maxRecDepth 100000 in
theorem cX11_det_9ae4b (l : Launch) (D : va_G) (k : Nat → ClassId) (sz : Nat) (h0 h1 h2 h3 h4 h5 h6 h7 h8 h9 h10 h11 h12 h13 h14 h15 h16 h17 h18 h19 h20 h21 : Nat) (h0f0 : Int32) (h0f1 : Int32) (h0f2 : Int32) (h0f3 : Int32) (h0f4 : Int32) (h0f5 : Int32) (h0f8 : Int32) (h0f9 : Int32) (h0f17 : Int32) (h0f18 : Int32) (h0f19 : Int32) (h0f24 : Int32) (h0f25 : Int32) (h0f30 : Int32) (h0f31 : Int32) (b_h0f0 : 1 ≤ h0f0.toInt ∧ h0f0.toInt ≤ 3) (b_h0f1 : 1 ≤ h0f1.toInt ∧ h0f1.toInt ≤ 4) (b_h0f3 : 0 ≤ h0f3.toInt ∧ h0f3.toInt ≤ 3) (b_h0f4 : 0 ≤ h0f4.toInt ∧ h0f4.toInt ≤ 4) (b_h0f8 : 0 ≤ h0f8.toInt ∧ h0f8.toInt ≤ 1) (b_h0f9 : 0 ≤ h0f9.toInt ∧ h0f9.toInt ≤ 1) (b_h0f17 : 0 ≤ h0f17.toInt ∧ h0f17.toInt ≤ 120) (b_h0f18 : 0 ≤ h0f18.toInt ∧ h0f18.toInt ≤ 120) (b_h0f19 : 0 ≤ h0f19.toInt ∧ h0f19.toInt ≤ 4) (b_h0f24 : 0 ≤ h0f24.toInt ∧ h0f24.toInt ≤ 100) (b_h0f25 : 0 ≤ h0f25.toInt ∧ h0f25.toInt ≤ 1) (b_h0f30 : 0 ≤ h0f30.toInt ∧ h0f30.toInt ≤ 60) (b_h0f31 : 0 ≤ h0f31.toInt ∧ h0f31.toInt ≤ 1) (i_0 : h0f8.toInt ≤ h0f3.toInt) (i_1 : h0f9.toInt ≤ h0f24.toInt) : Met l yX11_det (Cond.code yX11_det cX11_det 2 (some .long) :: uw) Rm_cX11_det_9ae4b (pT D k sz [.ref h0, .ref h1] [(h0, ob 8 [.int h0f0, .int h0f1, .int h0f2, .int h0f3, .int h0f4, .int h0f5, .ref h2, .ref h3, .int h0f8, .int h0f9, .ref h4, .ref h1, .ref h5, .ref h6, .ref h7, .ref h8, .ref h9, .int h0f17, .int h0f18, .int h0f19, .ref h10, .ref h11, .ref h12, .ref h13, .int h0f24, .int h0f25, .ref h14, .ref h15, .ref h16, .ref h17, .int h0f30, .int h0f31, .ref h18, .ref h19, .ref h20, .ref h21]), (h1, aJ (k 1) 9 anJ)]) (qL (B_cX11_det_9ae4b D k h0 h1 h2 h3 h4 h5 h6 h7 h8 h9 h10 h11 h12 h13 h14 h15 h16 h17 h18 h19 h20 h21 h0f0 h0f1 h0f2 h0f3 h0f4 h0f5 h0f8 h0f9 h0f17 h0f18 h0f19 h0f24 h0f25 h0f30 h0f31 (zA [h0, h1] sz)) (zA [h0, h1] sz)) 0 0 (zA [h0, h1] sz) := by
  refine tz_begin (as := [h0, h1]) (Qc := fun A => qL (B_cX11_det_9ae4b D k h0 h1 h2 h3 h4 h5 h6 h7 h8 h9 h10 h11 h12 h13 h14 h15 h16 h17 h18 h19 h20 h21 h0f0 h0f1 h0f2 h0f3 h0f4 h0f5 h0f8 h0f9 h0f17 h0f18 h0f19 h0f24 h0f25 h0f30 h0f31 A) A) (by decide +kernel) rfl (Nat.le_of_ble_eq_true rfl) ?_
  intro p e s m args below meth c ls A Q hx hb hr hml hown hlocks hin hU hK hT hS hA hl hQ
  have hl : lv_has ls 2 [(0, .ref h0), (1, .ref h1)] := hl
  have hT : TP D A [(h0, ob 8 [.int h0f0, .int h0f1, .int h0f2, .int h0f3, .int h0f4, .int h0f5, .ref h2, .ref h3, .int h0f8, .int h0f9, .ref h4, .ref h1, .ref h5, .ref h6, .ref h7, .ref h8, .ref h9, .int h0f17, .int h0f18, .int h0f19, .ref h10, .ref h11, .ref h12, .ref h13, .int h0f24, .int h0f25, .ref h14, .ref h15, .ref h16, .ref h17, .int h0f30, .int h0f31, .ref h18, .ref h19, .ref h20, .ref h21]), (h1, aJ (k 1) 9 anJ)] s.heap := hT
  refine lv_aload_n hx hb dX11_det_0 rfl (lv_at hl 0 rfl) ?_
  refine tz_get (ci := 8) (v := .int h0f0) (C := RX11) (F := TX11) (N := 36) hx hb hU iX11 hown hK hT 0 rfl rfl 0 (by decide) w785 (fun _ h9 => h9) rfl dX11_det_1 ?_
  refine lv_iconst (v := 1) hx hb dX11_det_4 (by decide) ?_
  refine lv_icmp_ne (tgt := 12) hx hb dX11_det_5 (by decide) (fun c_1 => ?_) (fun c_1 => ?_)
  · skip
    have c_1 := ni_ne c_1 rfl li_1
    refine lv_aload_n hx hb dX11_det_12 rfl (lv_at hl 0 rfl) ?_
    refine tz_get (ci := 8) (v := .int h0f0) (C := RX11) (F := TX11) (N := 36) hx hb hU iX11 hown hK hT 0 rfl rfl 0 (by decide) w785 (fun _ h9 => h9) rfl dX11_det_13 ?_
    refine lv_iconst (v := 2) hx hb dX11_det_16 (by decide) ?_
    refine lv_icmp_ne (tgt := 36) hx hb dX11_det_17 (by decide) (fun c_2 => ?_) (fun c_2 => ?_)
    · skip
      have c_2 := ni_ne c_2 rfl li_2
      refine lv_aload_n hx hb dX11_det_36 rfl (lv_at hl 1 rfl) ?_
      refine lv_iconst (v := 0) hx hb dX11_det_37 (by decide) ?_
      refine tz_lald hx hb hK hT 1 rfl (by have := li_0; omega) dX11_det_38 (fun v3 e_v3 => ?_)
      clear e_v3
      refine lv_aload_n hx hb dX11_det_39 rfl (lv_at hl 1 rfl) ?_
      refine lv_iconst (v := 4) hx hb dX11_det_40 (by decide) ?_
      refine tz_lald hx hb hK hT 1 rfl (by have := li_4; omega) dX11_det_41 (fun v4 e_v4 => ?_)
      clear e_v4
      refine lv_aload_n hx hb dX11_det_42 rfl (lv_at hl 1 rfl) ?_
      refine lv_bipush (v := 8) hx hb dX11_det_43 (by decide) ?_
      refine tz_lald hx hb hK hT 1 rfl (by have := li_8; omega) dX11_det_45 (fun v5 e_v5 => ?_)
      clear e_v5
      refine lv_lmul hx hb dX11_det_46 (lv_topl (fun v6 e_v6 => ?_))
      refine lv_aload_n hx hb dX11_det_47 rfl (lv_at hl 1 rfl) ?_
      refine lv_iconst (v := 5) hx hb dX11_det_48 (by decide) ?_
      refine tz_lald hx hb hK hT 1 rfl (by have := li_5; omega) dX11_det_49 (fun v7 e_v7 => ?_)
      clear e_v7
      refine lv_aload_n hx hb dX11_det_50 rfl (lv_at hl 1 rfl) ?_
      refine lv_bipush (v := 7) hx hb dX11_det_51 (by decide) ?_
      refine tz_lald hx hb hK hT 1 rfl (by have := li_7; omega) dX11_det_53 (fun v8 e_v8 => ?_)
      clear e_v8
      refine lv_lmul hx hb dX11_det_54 (lv_topl (fun v9 e_v9 => ?_))
      refine lv_lsub hx hb dX11_det_55 (lv_topl (fun v10 e_v10 => ?_))
      refine lv_lmul hx hb dX11_det_56 (lv_topl (fun v11 e_v11 => ?_))
      refine lv_aload_n hx hb dX11_det_57 rfl (lv_at hl 1 rfl) ?_
      refine lv_iconst (v := 1) hx hb dX11_det_58 (by decide) ?_
      refine tz_lald hx hb hK hT 1 rfl (by have := li_1; omega) dX11_det_59 (fun v12 e_v12 => ?_)
      clear e_v12
      refine lv_aload_n hx hb dX11_det_60 rfl (lv_at hl 1 rfl) ?_
      refine lv_iconst (v := 3) hx hb dX11_det_61 (by decide) ?_
      refine tz_lald hx hb hK hT 1 rfl (by have := li_3; omega) dX11_det_62 (fun v13 e_v13 => ?_)
      clear e_v13
      refine lv_aload_n hx hb dX11_det_63 rfl (lv_at hl 1 rfl) ?_
      refine lv_bipush (v := 8) hx hb dX11_det_64 (by decide) ?_
      refine tz_lald hx hb hK hT 1 rfl (by have := li_8; omega) dX11_det_66 (fun v14 e_v14 => ?_)
      clear e_v14
      refine lv_lmul hx hb dX11_det_67 (lv_topl (fun v15 e_v15 => ?_))
      refine lv_aload_n hx hb dX11_det_68 rfl (lv_at hl 1 rfl) ?_
      refine lv_iconst (v := 5) hx hb dX11_det_69 (by decide) ?_
      refine tz_lald hx hb hK hT 1 rfl (by have := li_5; omega) dX11_det_70 (fun v16 e_v16 => ?_)
      clear e_v16
      refine lv_aload_n hx hb dX11_det_71 rfl (lv_at hl 1 rfl) ?_
      refine lv_bipush (v := 6) hx hb dX11_det_72 (by decide) ?_
      refine tz_lald hx hb hK hT 1 rfl (by have := li_6; omega) dX11_det_74 (fun v17 e_v17 => ?_)
      clear e_v17
      refine lv_lmul hx hb dX11_det_75 (lv_topl (fun v18 e_v18 => ?_))
      refine lv_lsub hx hb dX11_det_76 (lv_topl (fun v19 e_v19 => ?_))
      refine lv_lmul hx hb dX11_det_77 (lv_topl (fun v20 e_v20 => ?_))
      refine lv_lsub hx hb dX11_det_78 (lv_topl (fun v21 e_v21 => ?_))
      refine lv_aload_n hx hb dX11_det_79 rfl (lv_at hl 1 rfl) ?_
      refine lv_iconst (v := 2) hx hb dX11_det_80 (by decide) ?_
      refine tz_lald hx hb hK hT 1 rfl (by have := li_2; omega) dX11_det_81 (fun v22 e_v22 => ?_)
      clear e_v22
      refine lv_aload_n hx hb dX11_det_82 rfl (lv_at hl 1 rfl) ?_
      refine lv_iconst (v := 3) hx hb dX11_det_83 (by decide) ?_
      refine tz_lald hx hb hK hT 1 rfl (by have := li_3; omega) dX11_det_84 (fun v23 e_v23 => ?_)
      clear e_v23
      refine lv_aload_n hx hb dX11_det_85 rfl (lv_at hl 1 rfl) ?_
      refine lv_bipush (v := 7) hx hb dX11_det_86 (by decide) ?_
      refine tz_lald hx hb hK hT 1 rfl (by have := li_7; omega) dX11_det_88 (fun v24 e_v24 => ?_)
      clear e_v24
      refine lv_lmul hx hb dX11_det_89 (lv_topl (fun v25 e_v25 => ?_))
      refine lv_aload_n hx hb dX11_det_90 rfl (lv_at hl 1 rfl) ?_
      refine lv_iconst (v := 4) hx hb dX11_det_91 (by decide) ?_
      refine tz_lald hx hb hK hT 1 rfl (by have := li_4; omega) dX11_det_92 (fun v26 e_v26 => ?_)
      clear e_v26
      refine lv_aload_n hx hb dX11_det_93 rfl (lv_at hl 1 rfl) ?_
      refine lv_bipush (v := 6) hx hb dX11_det_94 (by decide) ?_
      refine tz_lald hx hb hK hT 1 rfl (by have := li_6; omega) dX11_det_96 (fun v27 e_v27 => ?_)
      clear e_v27
      refine lv_lmul hx hb dX11_det_97 (lv_topl (fun v28 e_v28 => ?_))
      refine lv_lsub hx hb dX11_det_98 (lv_topl (fun v29 e_v29 => ?_))
      refine lv_lmul hx hb dX11_det_99 (lv_topl (fun v30 e_v30 => ?_))
      refine lv_ladd hx hb dX11_det_100 (lv_topl (fun v31 e_v31 => ?_))
      exact tz_retL (B := B_cX11_det_9ae4b D k h0 h1 h2 h3 h4 h5 h6 h7 h8 h9 h10 h11 h12 h13 h14 h15 h16 h17 h18 h19 h20 h21 h0f0 h0f1 h0f2 h0f3 h0f4 h0f5 h0f8 h0f9 h0f17 h0f18 h0f19 h0f24 h0f25 h0f30 h0f31) (v := v31) hQ hx hb hr hlocks hS (Nat.le_of_ble_eq_true rfl) (Nat.le_of_ble_eq_true rfl) dX11_det_101 (hT)
    · skip
      have c_2 := ni_eq c_2 rfl li_2
      refine lv_aload_n hx hb dX11_det_20 rfl (lv_at hl 1 rfl) ?_
      refine lv_iconst (v := 0) hx hb dX11_det_21 (by decide) ?_
      refine tz_lald hx hb hK hT 1 rfl (by have := li_0; omega) dX11_det_22 (fun v32 e_v32 => ?_)
      clear e_v32
      refine lv_aload_n hx hb dX11_det_23 rfl (lv_at hl 1 rfl) ?_
      refine lv_iconst (v := 4) hx hb dX11_det_24 (by decide) ?_
      refine tz_lald hx hb hK hT 1 rfl (by have := li_4; omega) dX11_det_25 (fun v33 e_v33 => ?_)
      clear e_v33
      refine lv_lmul hx hb dX11_det_26 (lv_topl (fun v34 e_v34 => ?_))
      refine lv_aload_n hx hb dX11_det_27 rfl (lv_at hl 1 rfl) ?_
      refine lv_iconst (v := 1) hx hb dX11_det_28 (by decide) ?_
      refine tz_lald hx hb hK hT 1 rfl (by have := li_1; omega) dX11_det_29 (fun v35 e_v35 => ?_)
      clear e_v35
      refine lv_aload_n hx hb dX11_det_30 rfl (lv_at hl 1 rfl) ?_
      refine lv_iconst (v := 3) hx hb dX11_det_31 (by decide) ?_
      refine tz_lald hx hb hK hT 1 rfl (by have := li_3; omega) dX11_det_32 (fun v36 e_v36 => ?_)
      clear e_v36
      refine lv_lmul hx hb dX11_det_33 (lv_topl (fun v37 e_v37 => ?_))
      refine lv_lsub hx hb dX11_det_34 (lv_topl (fun v38 e_v38 => ?_))
      exact tz_retL (B := B_cX11_det_9ae4b D k h0 h1 h2 h3 h4 h5 h6 h7 h8 h9 h10 h11 h12 h13 h14 h15 h16 h17 h18 h19 h20 h21 h0f0 h0f1 h0f2 h0f3 h0f4 h0f5 h0f8 h0f9 h0f17 h0f18 h0f19 h0f24 h0f25 h0f30 h0f31) (v := v38) hQ hx hb hr hlocks hS (Nat.le_of_ble_eq_true rfl) (Nat.le_of_ble_eq_true rfl) dX11_det_35 (hT)
  · skip
    have c_1 := ni_eq c_1 rfl li_1
    refine lv_aload_n hx hb dX11_det_8 rfl (lv_at hl 1 rfl) ?_
    refine lv_iconst (v := 0) hx hb dX11_det_9 (by decide) ?_
    refine tz_lald hx hb hK hT 1 rfl (by have := li_0; omega) dX11_det_10 (fun v39 e_v39 => ?_)
    clear e_v39
    exact tz_retL (B := B_cX11_det_9ae4b D k h0 h1 h2 h3 h4 h5 h6 h7 h8 h9 h10 h11 h12 h13 h14 h15 h16 h17 h18 h19 h20 h21 h0f0 h0f1 h0f2 h0f3 h0f4 h0f5 h0f8 h0f9 h0f17 h0f18 h0f19 h0f24 h0f25 h0f30 h0f31) (v := v39) hQ hx hb hr hlocks hS (Nat.le_of_ble_eq_true rfl) (Nat.le_of_ble_eq_true rfl) dX11_det_11 (hT)
abbrev Rm_cX11_isGen_669e6 : Room := { frames := 1, cells := 0, slots := 0, locals := 25 }
abbrev B_cX11_isGen_669e6 (D : va_G) (k : Nat → ClassId) (h0 h1 h2 h3 h4 h5 h6 h7 h8 h9 h10 h11 h12 h13 h14 h15 h16 h17 h18 h19 h20 h21 : Nat) (x1 : Int32) (h0f0 : Int32) (h0f1 : Int32) (h0f2 : Int32) (h0f3 : Int32) (h0f4 : Int32) (h0f5 : Int32) (h0f8 : Int32) (h0f9 : Int32) (h0f17 : Int32) (h0f18 : Int32) (h0f19 : Int32) (h0f24 : Int32) (h0f25 : Int32) (h0f30 : Int32) (h0f31 : Int32) (A : Nat → Prop) (r : Int32) (H : Heap) : Prop := (0 = r ∧ TP D A [(h0, ob 8 [.int h0f0, .int h0f1, .int h0f2, .int h0f3, .int h0f4, .int h0f5, .ref h1, .ref h2, .int h0f8, .int h0f9, .ref h3, .ref h4, .ref h5, .ref h6, .ref h7, .ref h8, .ref h9, .int h0f17, .int h0f18, .int h0f19, .ref h10, .ref h11, .ref h12, .ref h13, .int h0f24, .int h0f25, .ref h14, .ref h15, .ref h16, .ref h17, .int h0f30, .int h0f31, .ref h18, .ref h19, .ref h20, .ref h21])] H) ∨ (h0f8.toInt ≤ h0f3.toInt ∧ h0f9.toInt ≤ h0f24.toInt ∧ 0 ≤ x1.toInt ∧ x1.toInt ≤ h0f1.toInt + (-1) ∧ 1 = r ∧ TP D A [(h0, ob 8 [.int h0f0, .int h0f1, .int h0f2, .int h0f3, .int h0f4, .int h0f5, .ref h1, .ref h2, .int h0f8, .int h0f9, .ref h3, .ref h4, .ref h5, .ref h6, .ref h7, .ref h8, .ref h9, .int h0f17, .int h0f18, .int h0f19, .ref h10, .ref h11, .ref h12, .ref h13, .int h0f24, .int h0f25, .ref h14, .ref h15, .ref h16, .ref h17, .int h0f30, .int h0f31, .ref h18, .ref h19, .ref h20, .ref h21])] H)
set_option maxHeartbeats 4000000 in
set_option maxRecDepth 100000 in
theorem cX11_isGen_669e6 (l : Launch) (D : va_G) (k : Nat → ClassId) (sz : Nat) (h0 h1 h2 h3 h4 h5 h6 h7 h8 h9 h10 h11 h12 h13 h14 h15 h16 h17 h18 h19 h20 h21 : Nat) (x1 : Int32) (h0f0 : Int32) (h0f1 : Int32) (h0f2 : Int32) (h0f3 : Int32) (h0f4 : Int32) (h0f5 : Int32) (h0f8 : Int32) (h0f9 : Int32) (h0f17 : Int32) (h0f18 : Int32) (h0f19 : Int32) (h0f24 : Int32) (h0f25 : Int32) (h0f30 : Int32) (h0f31 : Int32) (b_h0f0 : 1 ≤ h0f0.toInt ∧ h0f0.toInt ≤ 3) (b_h0f1 : 0 ≤ h0f1.toInt ∧ h0f1.toInt ≤ 4) (b_h0f3 : 0 ≤ h0f3.toInt ∧ h0f3.toInt ≤ 3) (b_h0f4 : 0 ≤ h0f4.toInt ∧ h0f4.toInt ≤ 4) (b_h0f8 : 0 ≤ h0f8.toInt ∧ h0f8.toInt ≤ 1) (b_h0f9 : 0 ≤ h0f9.toInt ∧ h0f9.toInt ≤ 1) (b_h0f17 : 0 ≤ h0f17.toInt ∧ h0f17.toInt ≤ 120) (b_h0f18 : 0 ≤ h0f18.toInt ∧ h0f18.toInt ≤ 120) (b_h0f19 : 0 ≤ h0f19.toInt ∧ h0f19.toInt ≤ 4) (b_h0f24 : 0 ≤ h0f24.toInt ∧ h0f24.toInt ≤ 100) (b_h0f25 : 0 ≤ h0f25.toInt ∧ h0f25.toInt ≤ 1) (b_h0f30 : 0 ≤ h0f30.toInt ∧ h0f30.toInt ≤ 60) (b_h0f31 : 0 ≤ h0f31.toInt ∧ h0f31.toInt ≤ 1) (i_0 : h0f8.toInt ≤ h0f3.toInt) (i_1 : h0f9.toInt ≤ h0f24.toInt) : Met l yX11_isGen (Cond.code yX11_isGen cX11_isGen 2 (some .boolean) :: uw) Rm_cX11_isGen_669e6 (pT D k sz [.ref h0, .int x1] [(h0, ob 8 [.int h0f0, .int h0f1, .int h0f2, .int h0f3, .int h0f4, .int h0f5, .ref h1, .ref h2, .int h0f8, .int h0f9, .ref h3, .ref h4, .ref h5, .ref h6, .ref h7, .ref h8, .ref h9, .int h0f17, .int h0f18, .int h0f19, .ref h10, .ref h11, .ref h12, .ref h13, .int h0f24, .int h0f25, .ref h14, .ref h15, .ref h16, .ref h17, .int h0f30, .int h0f31, .ref h18, .ref h19, .ref h20, .ref h21])]) (qI (B_cX11_isGen_669e6 D k h0 h1 h2 h3 h4 h5 h6 h7 h8 h9 h10 h11 h12 h13 h14 h15 h16 h17 h18 h19 h20 h21 x1 h0f0 h0f1 h0f2 h0f3 h0f4 h0f5 h0f8 h0f9 h0f17 h0f18 h0f19 h0f24 h0f25 h0f30 h0f31 (zA [h0] sz)) (zA [h0] sz)) 0 0 (zA [h0] sz) := by
  refine tz_begin (as := [h0]) (Qc := fun A => qI (B_cX11_isGen_669e6 D k h0 h1 h2 h3 h4 h5 h6 h7 h8 h9 h10 h11 h12 h13 h14 h15 h16 h17 h18 h19 h20 h21 x1 h0f0 h0f1 h0f2 h0f3 h0f4 h0f5 h0f8 h0f9 h0f17 h0f18 h0f19 h0f24 h0f25 h0f30 h0f31 A) A) (by decide +kernel) rfl (Nat.le_of_ble_eq_true rfl) ?_
  intro p e s m args below meth c ls A Q hx hb hr hml hown hlocks hin hU hK hT hS hA hl hQ
  have hl : lv_has ls 2 [(0, .ref h0), (1, .int x1)] := hl
  have hT : TP D A [(h0, ob 8 [.int h0f0, .int h0f1, .int h0f2, .int h0f3, .int h0f4, .int h0f5, .ref h1, .ref h2, .int h0f8, .int h0f9, .ref h3, .ref h4, .ref h5, .ref h6, .ref h7, .ref h8, .ref h9, .int h0f17, .int h0f18, .int h0f19, .ref h10, .ref h11, .ref h12, .ref h13, .int h0f24, .int h0f25, .ref h14, .ref h15, .ref h16, .ref h17, .int h0f30, .int h0f31, .ref h18, .ref h19, .ref h20, .ref h21])] s.heap := hT
  refine lv_iload_n hx hb dX11_isGen_0 rfl (lv_at hl 1 rfl) ?_
  have tb_x1 := i32b x1
  obtain ⟨v1, e_v1⟩ : ∃ x : Int64, x1.toInt64 = x := ⟨_, rfl⟩
  refine lv_i2l (v := v1) hx hb dX11_isGen_1 e_v1 ?_
  have e_v1 := ai_i2l e_v1 rfl
  refine lv_lconst (v := 0) hx hb dX11_isGen_2 (by decide) ?_
  refine lv_aload_n hx hb dX11_isGen_3 rfl (lv_at hl 0 rfl) ?_
  refine tz_get (ci := 8) (v := .int h0f1) (C := RX11) (F := TX11) (N := 36) hx hb hU iX11 hown hK hT 0 rfl rfl 1 (by decide) w786 (fun _ h9 => h9) rfl dX11_isGen_4 ?_
  refine lv_iconst (v := 1) hx hb dX11_isGen_7 (by decide) ?_
  refine lv_isub hx hb dX11_isGen_8 (lv_topi (fun v2 e_v2 => ?_))
  have e_v2 := ai_sub e_v2 rfl li_1 (by omega)
  obtain ⟨v3, e_v3⟩ : ∃ x : Int64, v2.toInt64 = x := ⟨_, rfl⟩
  refine lv_i2l (v := v3) hx hb dX11_isGen_9 e_v3 ?_
  have e_v3 := ai_i2l e_v3 rfl
  have q_q5 := ll_0
  refine tcI (Tc := []) (Tr := [(h0, ob 8 [.int h0f0, .int h0f1, .int h0f2, .int h0f3, .int h0f4, .int h0f5, .ref h1, .ref h2, .int h0f8, .int h0f9, .ref h3, .ref h4, .ref h5, .ref h6, .ref h7, .ref h8, .ref h9, .int h0f17, .int h0f18, .int h0f19, .ref h10, .ref h11, .ref h12, .ref h13, .int h0f24, .int h0f25, .ref h14, .ref h15, .ref h16, .ref h17, .int h0f30, .int h0f31, .ref h18, .ref h19, .ref h20, .ref h21])]) (as := []) (zcS (As := [.long v1, .long 0, .long v3]) (rest := []) (Tc := []) hx hb hml hown hU hK hT [] rfl (by decide) (cX11_in_ca3b9 l D k _ v1 (0) v3 (by have := ll_0; omega) (by omega)) w901 w899 w900 w72 hdX11_in ⟨rfl, rfl⟩ ⟨Nat.le_of_ble_eq_true rfl, Nat.le_of_ble_eq_true rfl⟩ rfl hl.1 (Nat.le_of_ble_eq_true rfl) dX11_isGen_10 ⟨Nat.le_of_ble_eq_true rfl, Nat.le_of_ble_eq_true rfl⟩) hT hS hA [] [0] rfl rfl rfl (by decide) (by decide) (fun r4 H locs hB J hS => ?_)
  rcases hB with ⟨rfl, hT1⟩ | ⟨c_6, c_7, rfl, hT1⟩
  · skip
    have hT := J _ hT1
    have hT : TP D A [(h0, ob 8 [.int h0f0, .int h0f1, .int h0f2, .int h0f3, .int h0f4, .int h0f5, .ref h1, .ref h2, .int h0f8, .int h0f9, .ref h3, .ref h4, .ref h5, .ref h6, .ref h7, .ref h8, .ref h9, .int h0f17, .int h0f18, .int h0f19, .ref h10, .ref h11, .ref h12, .ref h13, .int h0f24, .int h0f25, .ref h14, .ref h15, .ref h16, .ref h17, .int h0f30, .int h0f31, .ref h18, .ref h19, .ref h20, .ref h21])] _ := hT
    exact tz_retZ (B := B_cX11_isGen_669e6 D k h0 h1 h2 h3 h4 h5 h6 h7 h8 h9 h10 h11 h12 h13 h14 h15 h16 h17 h18 h19 h20 h21 x1 h0f0 h0f1 h0f2 h0f3 h0f4 h0f5 h0f8 h0f9 h0f17 h0f18 h0f19 h0f24 h0f25 h0f30 h0f31) (v := 0) hQ hx hb hr hlocks hS (Nat.le_of_ble_eq_true rfl) (Nat.le_of_ble_eq_true rfl) dX11_isGen_13 (by have := li_0; omega) (Or.inl ⟨rfl, hT⟩)
  · skip
    have hT := J _ hT1
    have hT : TP D A [(h0, ob 8 [.int h0f0, .int h0f1, .int h0f2, .int h0f3, .int h0f4, .int h0f5, .ref h1, .ref h2, .int h0f8, .int h0f9, .ref h3, .ref h4, .ref h5, .ref h6, .ref h7, .ref h8, .ref h9, .int h0f17, .int h0f18, .int h0f19, .ref h10, .ref h11, .ref h12, .ref h13, .int h0f24, .int h0f25, .ref h14, .ref h15, .ref h16, .ref h17, .int h0f30, .int h0f31, .ref h18, .ref h19, .ref h20, .ref h21])] _ := hT
    exact tz_retZ (B := B_cX11_isGen_669e6 D k h0 h1 h2 h3 h4 h5 h6 h7 h8 h9 h10 h11 h12 h13 h14 h15 h16 h17 h18 h19 h20 h21 x1 h0f0 h0f1 h0f2 h0f3 h0f4 h0f5 h0f8 h0f9 h0f17 h0f18 h0f19 h0f24 h0f25 h0f30 h0f31) (v := 1) hQ hx hb hr hlocks hS (Nat.le_of_ble_eq_true rfl) (Nat.le_of_ble_eq_true rfl) dX11_isGen_13 (by have := li_1; omega) (Or.inr (⟨(by have := li_1; omega), (by have := li_1; omega), (by have := li_1; omega), (by have := li_1; omega), rfl, hT⟩))
abbrev Rm_cX11_takes_35579 : Room := { frames := 0, cells := 0, slots := 0, locals := 0 }
abbrev B_cX11_takes_35579 (D : va_G) (k : Nat → ClassId) (h0 h1 h2 h3 h4 h5 h6 h7 h8 h9 h10 h11 h12 h13 h14 h15 h16 h17 h18 h19 h20 h21 : Nat) (x1 : Int32) (h0f0 : Int32) (h0f1 : Int32) (h0f2 : Int32) (h0f3 : Int32) (h0f4 : Int32) (h0f5 : Int32) (h0f8 : Int32) (h0f9 : Int32) (h0f17 : Int32) (h0f18 : Int32) (h0f19 : Int32) (h0f24 : Int32) (h0f25 : Int32) (h0f30 : Int32) (h0f31 : Int32) (A : Nat → Prop) (H : Heap) : Prop := TP D A [(h0, ob 8 [.int h0f0, .int h0f1, .int h0f2, .int h0f3, .int h0f4, .int h0f5, .ref h2, .ref h3, .int h0f8, .int h0f9, .ref h4, .ref h1, .ref h5, .ref h6, .ref h7, .ref h8, .ref h9, .int h0f17, .int h0f18, .int h0f19, .ref h10, .ref h11, .ref h12, .ref h13, .int h0f24, .int h0f25, .ref h14, .ref h15, .ref h16, .ref h17, .int h0f30, .int h0f31, .ref h18, .ref h19, .ref h20, .ref h21]), (h1, aJ (k 1) 9 anJ), (h2, aI (k 0) 36 anI)] H
set_option maxHeartbeats 4000000 in
set_option maxRecDepth 100000 in
theorem cX11_takes_35579 (l : Launch) (D : va_G) (k : Nat → ClassId) (sz : Nat) (h0 h1 h2 h3 h4 h5 h6 h7 h8 h9 h10 h11 h12 h13 h14 h15 h16 h17 h18 h19 h20 h21 : Nat) (x1 : Int32) (h0f0 : Int32) (h0f1 : Int32) (h0f2 : Int32) (h0f3 : Int32) (h0f4 : Int32) (h0f5 : Int32) (h0f8 : Int32) (h0f9 : Int32) (h0f17 : Int32) (h0f18 : Int32) (h0f19 : Int32) (h0f24 : Int32) (h0f25 : Int32) (h0f30 : Int32) (h0f31 : Int32) (b_x1 : 0 ≤ x1.toInt ∧ x1.toInt ≤ 3) (b_h0f0 : 1 ≤ h0f0.toInt ∧ h0f0.toInt ≤ 3) (b_h0f1 : 1 ≤ h0f1.toInt ∧ h0f1.toInt ≤ 4) (b_h0f3 : 0 ≤ h0f3.toInt ∧ h0f3.toInt ≤ 3) (b_h0f4 : 0 ≤ h0f4.toInt ∧ h0f4.toInt ≤ 4) (b_h0f8 : 0 ≤ h0f8.toInt ∧ h0f8.toInt ≤ 1) (b_h0f9 : 0 ≤ h0f9.toInt ∧ h0f9.toInt ≤ 1) (b_h0f17 : 0 ≤ h0f17.toInt ∧ h0f17.toInt ≤ 120) (b_h0f18 : 0 ≤ h0f18.toInt ∧ h0f18.toInt ≤ 120) (b_h0f19 : 0 ≤ h0f19.toInt ∧ h0f19.toInt ≤ 4) (b_h0f24 : 0 ≤ h0f24.toInt ∧ h0f24.toInt ≤ 100) (b_h0f25 : 0 ≤ h0f25.toInt ∧ h0f25.toInt ≤ 1) (b_h0f30 : 0 ≤ h0f30.toInt ∧ h0f30.toInt ≤ 60) (b_h0f31 : 0 ≤ h0f31.toInt ∧ h0f31.toInt ≤ 1) (i_0 : h0f8.toInt ≤ h0f3.toInt) (i_1 : h0f9.toInt ≤ h0f24.toInt) : Met l yX11_takes (Cond.code yX11_takes cX11_takes 4 none :: uw) Rm_cX11_takes_35579 (pT D k sz [.ref h0, .int x1, .ref h1] [(h0, ob 8 [.int h0f0, .int h0f1, .int h0f2, .int h0f3, .int h0f4, .int h0f5, .ref h2, .ref h3, .int h0f8, .int h0f9, .ref h4, .ref h1, .ref h5, .ref h6, .ref h7, .ref h8, .ref h9, .int h0f17, .int h0f18, .int h0f19, .ref h10, .ref h11, .ref h12, .ref h13, .int h0f24, .int h0f25, .ref h14, .ref h15, .ref h16, .ref h17, .int h0f30, .int h0f31, .ref h18, .ref h19, .ref h20, .ref h21]), (h1, aJ (k 1) 9 anJ), (h2, aI (k 0) 36 anI)]) (qV (B_cX11_takes_35579 D k h0 h1 h2 h3 h4 h5 h6 h7 h8 h9 h10 h11 h12 h13 h14 h15 h16 h17 h18 h19 h20 h21 x1 h0f0 h0f1 h0f2 h0f3 h0f4 h0f5 h0f8 h0f9 h0f17 h0f18 h0f19 h0f24 h0f25 h0f30 h0f31 (zA [h0, h1, h2] sz)) (zA [h0, h1, h2] sz)) 0 0 (zA [h0, h1, h2] sz) := by
  refine tz_begin (as := [h0, h1, h2]) (Qc := fun A => qV (B_cX11_takes_35579 D k h0 h1 h2 h3 h4 h5 h6 h7 h8 h9 h10 h11 h12 h13 h14 h15 h16 h17 h18 h19 h20 h21 x1 h0f0 h0f1 h0f2 h0f3 h0f4 h0f5 h0f8 h0f9 h0f17 h0f18 h0f19 h0f24 h0f25 h0f30 h0f31 A) A) (by decide +kernel) rfl (Nat.le_of_ble_eq_true rfl) ?_
  intro p e s m args below meth c ls A Q hx hb hr hml hown hlocks hin hU hK hT hS hA hl hQ
  have hl : lv_has ls 4 [(0, .ref h0), (1, .int x1), (2, .ref h1)] := hl
  have hT : TP D A [(h0, ob 8 [.int h0f0, .int h0f1, .int h0f2, .int h0f3, .int h0f4, .int h0f5, .ref h2, .ref h3, .int h0f8, .int h0f9, .ref h4, .ref h1, .ref h5, .ref h6, .ref h7, .ref h8, .ref h9, .int h0f17, .int h0f18, .int h0f19, .ref h10, .ref h11, .ref h12, .ref h13, .int h0f24, .int h0f25, .ref h14, .ref h15, .ref h16, .ref h17, .int h0f30, .int h0f31, .ref h18, .ref h19, .ref h20, .ref h21]), (h1, aJ (k 1) 9 anJ), (h2, aI (k 0) 36 anI)] s.heap := hT
  refine lv_iconst (v := 0) hx hb dX11_takes_0 (by decide) ?_
  refine lv_istore_n (lv' := [(3, .int 0), (0, .ref h0), (1, .int x1), (2, .ref h1)]) hx hb dX11_takes_1 rfl hl (by decide) rfl (fun ls hl => ?_)
  have lp2_8 : ∀ (n : Nat) (y7 : Int32) (H : Heap) (locs : List Loc) (ls : Array Slot), (0 ≤ y7.toInt ∧ y7.toInt ≤ 9) → ((-1) * y7.toInt + 9 + 1).toNat < n → TP D A [(h0, ob 8 [.int h0f0, .int h0f1, .int h0f2, .int h0f3, .int h0f4, .int h0f5, .ref h2, .ref h3, .int h0f8, .int h0f9, .ref h4, .ref h1, .ref h5, .ref h6, .ref h7, .ref h8, .ref h9, .int h0f17, .int h0f18, .int h0f19, .ref h10, .ref h11, .ref h12, .ref h13, .int h0f24, .int h0f25, .ref h14, .ref h15, .ref h16, .ref h17, .int h0f30, .int h0f31, .ref h18, .ref h19, .ref h20, .ref h21]), (h1, aJ (k 1) 9 anJ), (h2, aI (k 0) 36 anI)] H → va_S A s.heap H locs → lv_has ls 4 [(0, .ref h0), (1, .int x1), (2, .ref h1), (3, .int y7)] → W p l e Rm_cX11_takes_35579 s m args below meth c H locs 0 0 Q (F0 m 2 ls []) := by
    intro n
    induction n with
    | zero => intro y7 H locs ls b_y7 hm hT hS hl; exact absurd hm (Nat.not_lt_zero _)
    | succ n ih =>
      intro y7 H locs ls b_y7 hm hT hS hl
      have ih2_8 := ih
      clear ih
      refine lv_iload_n hx hb dX11_takes_2 rfl (lv_at hl 3 rfl) ?_
      refine lv_bipush (v := 9) hx hb dX11_takes_3 (by decide) ?_
      refine lv_icmp_ge (tgt := 29) hx hb dX11_takes_5 (by decide) (fun c_9 => ?_) (fun c_9 => ?_)
      · skip
        have c_9 := ni_le c_9 li_9 rfl
        exact tz_retV (B := B_cX11_takes_35579 D k h0 h1 h2 h3 h4 h5 h6 h7 h8 h9 h10 h11 h12 h13 h14 h15 h16 h17 h18 h19 h20 h21 x1 h0f0 h0f1 h0f2 h0f3 h0f4 h0f5 h0f8 h0f9 h0f17 h0f18 h0f19 h0f24 h0f25 h0f30 h0f31) hQ hx hb hr hlocks hS (Nat.le_of_ble_eq_true rfl) (Nat.le_of_ble_eq_true rfl) dX11_takes_29 (hT)
      · skip
        have c_9 := ni_nle c_9 li_9 rfl
        refine lv_aload_n hx hb dX11_takes_8 rfl (lv_at hl 2 rfl) ?_
        refine lv_iload_n hx hb dX11_takes_9 rfl (lv_at hl 3 rfl) ?_
        refine lv_aload_n hx hb dX11_takes_10 rfl (lv_at hl 0 rfl) ?_
        refine tz_get (ci := 8) (v := .ref h2) (C := RX11) (F := TX11) (N := 36) hx hb hU iX11 hown hK hT 0 rfl rfl 6 (by decide) w791 (fun _ h9 => h9) rfl dX11_takes_11 ?_
        refine lv_bipush (v := 9) hx hb dX11_takes_14 (by decide) ?_
        refine lv_iload_n hx hb dX11_takes_16 rfl (lv_at hl 1 rfl) ?_
        refine lv_imul hx hb dX11_takes_17 (lv_topi (fun v10 e_v10 => ?_))
        have e_v10 := ai_mul e_v10 li_9 rfl (by omega)
        refine lv_iload_n hx hb dX11_takes_18 rfl (lv_at hl 3 rfl) ?_
        refine lv_iadd hx hb dX11_takes_19 (lv_topi (fun v11 e_v11 => ?_))
        have e_v11 := ai_add e_v11 rfl rfl (by omega)
        refine tz_iald hx hb hK hT 2 rfl (by omega) dX11_takes_20 (fun v12 e_v12 => ?_)
        clear e_v12
        have tb_v12 := i32b v12
        obtain ⟨v13, e_v13⟩ : ∃ x : Int64, v12.toInt64 = x := ⟨_, rfl⟩
        refine lv_i2l (v := v13) hx hb dX11_takes_21 e_v13 ?_
        have e_v13 := ai_i2l e_v13 rfl
        refine tz_last hx hb hK hT hS 1 rfl (by omega) (fun _ _ => trivial) dX11_takes_22 (fun H locs hT hS => ?_)
        obtain ⟨v14, e_v14⟩ : ∃ x : Int32, x = y7 + Int32.ofInt 1 := ⟨_, rfl⟩
        have f_v14 := e_v14.symm
        have e_v14 : v14.toInt = y7.toInt + 1 := ai_add e_v14 rfl (show (Int32.ofInt 1).toInt = 1 from (by decide +kernel)) (by omega)
        refine lv_iinc (v := v14) (lv' := [(3, .int v14), (0, .ref h0), (1, .int x1), (2, .ref h1)]) hx hb dX11_takes_23 hl (k := 3) rfl f_v14 (by decide) rfl (fun ls hl => ?_)
        refine lv_goto (tgt := 2) hx hb dX11_takes_26 (by decide) ?_
        exact ih2_8 v14 _ _ _ (by omega)  (by omega) hT hS (lv_sub hl [1, 2, 3, 0] rfl)
  exact lp2_8 (((-1) * (0 : Int32).toInt + 9 + 1).toNat + 1) (0) _ _ _ (by have := li_0; omega)  (Nat.lt_succ_self _) hT hS (lv_sub hl [1, 2, 3, 0] rfl)
abbrev Rm_cX11_takes_479bd : Room := { frames := 0, cells := 0, slots := 0, locals := 0 }
abbrev B_cX11_takes_479bd (D : va_G) (k : Nat → ClassId) (h0 h1 h2 h3 h4 h5 h6 h7 h8 h9 h10 h11 h12 h13 h14 h15 h16 h17 h18 h19 h20 h21 : Nat) (x1 : Int32) (h0f0 : Int32) (h0f1 : Int32) (h0f2 : Int32) (h0f3 : Int32) (h0f4 : Int32) (h0f5 : Int32) (h0f8 : Int32) (h0f9 : Int32) (h0f17 : Int32) (h0f18 : Int32) (h0f19 : Int32) (h0f24 : Int32) (h0f25 : Int32) (h0f30 : Int32) (h0f31 : Int32) (A : Nat → Prop) (H : Heap) : Prop := TP D A [(h0, ob 8 [.int h0f0, .int h0f1, .int h0f2, .int h0f3, .int h0f4, .int h0f5, .ref h2, .ref h3, .int h0f8, .int h0f9, .ref h4, .ref h5, .ref h1, .ref h6, .ref h7, .ref h8, .ref h9, .int h0f17, .int h0f18, .int h0f19, .ref h10, .ref h11, .ref h12, .ref h13, .int h0f24, .int h0f25, .ref h14, .ref h15, .ref h16, .ref h17, .int h0f30, .int h0f31, .ref h18, .ref h19, .ref h20, .ref h21]), (h1, aJ (k 1) 9 anJ), (h2, aI (k 0) 36 anI)] H
set_option maxHeartbeats 4000000 in
set_option maxRecDepth 100000 in
theorem cX11_takes_479bd (l : Launch) (D : va_G) (k : Nat → ClassId) (sz : Nat) (h0 h1 h2 h3 h4 h5 h6 h7 h8 h9 h10 h11 h12 h13 h14 h15 h16 h17 h18 h19 h20 h21 : Nat) (x1 : Int32) (h0f0 : Int32) (h0f1 : Int32) (h0f2 : Int32) (h0f3 : Int32) (h0f4 : Int32) (h0f5 : Int32) (h0f8 : Int32) (h0f9 : Int32) (h0f17 : Int32) (h0f18 : Int32) (h0f19 : Int32) (h0f24 : Int32) (h0f25 : Int32) (h0f30 : Int32) (h0f31 : Int32) (b_x1 : 0 ≤ x1.toInt ∧ x1.toInt ≤ 3) (b_h0f0 : 1 ≤ h0f0.toInt ∧ h0f0.toInt ≤ 3) (b_h0f1 : 1 ≤ h0f1.toInt ∧ h0f1.toInt ≤ 4) (b_h0f3 : 0 ≤ h0f3.toInt ∧ h0f3.toInt ≤ 3) (b_h0f4 : 0 ≤ h0f4.toInt ∧ h0f4.toInt ≤ 4) (b_h0f8 : 0 ≤ h0f8.toInt ∧ h0f8.toInt ≤ 1) (b_h0f9 : 0 ≤ h0f9.toInt ∧ h0f9.toInt ≤ 1) (b_h0f17 : 0 ≤ h0f17.toInt ∧ h0f17.toInt ≤ 120) (b_h0f18 : 0 ≤ h0f18.toInt ∧ h0f18.toInt ≤ 120) (b_h0f19 : 0 ≤ h0f19.toInt ∧ h0f19.toInt ≤ 4) (b_h0f24 : 0 ≤ h0f24.toInt ∧ h0f24.toInt ≤ 100) (b_h0f25 : 0 ≤ h0f25.toInt ∧ h0f25.toInt ≤ 1) (b_h0f30 : 0 ≤ h0f30.toInt ∧ h0f30.toInt ≤ 60) (b_h0f31 : 0 ≤ h0f31.toInt ∧ h0f31.toInt ≤ 1) (i_0 : h0f8.toInt ≤ h0f3.toInt) (i_1 : h0f9.toInt ≤ h0f24.toInt) : Met l yX11_takes (Cond.code yX11_takes cX11_takes 4 none :: uw) Rm_cX11_takes_479bd (pT D k sz [.ref h0, .int x1, .ref h1] [(h0, ob 8 [.int h0f0, .int h0f1, .int h0f2, .int h0f3, .int h0f4, .int h0f5, .ref h2, .ref h3, .int h0f8, .int h0f9, .ref h4, .ref h5, .ref h1, .ref h6, .ref h7, .ref h8, .ref h9, .int h0f17, .int h0f18, .int h0f19, .ref h10, .ref h11, .ref h12, .ref h13, .int h0f24, .int h0f25, .ref h14, .ref h15, .ref h16, .ref h17, .int h0f30, .int h0f31, .ref h18, .ref h19, .ref h20, .ref h21]), (h1, aJ (k 1) 9 anJ), (h2, aI (k 0) 36 anI)]) (qV (B_cX11_takes_479bd D k h0 h1 h2 h3 h4 h5 h6 h7 h8 h9 h10 h11 h12 h13 h14 h15 h16 h17 h18 h19 h20 h21 x1 h0f0 h0f1 h0f2 h0f3 h0f4 h0f5 h0f8 h0f9 h0f17 h0f18 h0f19 h0f24 h0f25 h0f30 h0f31 (zA [h0, h1, h2] sz)) (zA [h0, h1, h2] sz)) 0 0 (zA [h0, h1, h2] sz) := by
  refine tz_begin (as := [h0, h1, h2]) (Qc := fun A => qV (B_cX11_takes_479bd D k h0 h1 h2 h3 h4 h5 h6 h7 h8 h9 h10 h11 h12 h13 h14 h15 h16 h17 h18 h19 h20 h21 x1 h0f0 h0f1 h0f2 h0f3 h0f4 h0f5 h0f8 h0f9 h0f17 h0f18 h0f19 h0f24 h0f25 h0f30 h0f31 A) A) (by decide +kernel) rfl (Nat.le_of_ble_eq_true rfl) ?_
  intro p e s m args below meth c ls A Q hx hb hr hml hown hlocks hin hU hK hT hS hA hl hQ
  have hl : lv_has ls 4 [(0, .ref h0), (1, .int x1), (2, .ref h1)] := hl
  have hT : TP D A [(h0, ob 8 [.int h0f0, .int h0f1, .int h0f2, .int h0f3, .int h0f4, .int h0f5, .ref h2, .ref h3, .int h0f8, .int h0f9, .ref h4, .ref h5, .ref h1, .ref h6, .ref h7, .ref h8, .ref h9, .int h0f17, .int h0f18, .int h0f19, .ref h10, .ref h11, .ref h12, .ref h13, .int h0f24, .int h0f25, .ref h14, .ref h15, .ref h16, .ref h17, .int h0f30, .int h0f31, .ref h18, .ref h19, .ref h20, .ref h21]), (h1, aJ (k 1) 9 anJ), (h2, aI (k 0) 36 anI)] s.heap := hT
  refine lv_iconst (v := 0) hx hb dX11_takes_0 (by decide) ?_
  refine lv_istore_n (lv' := [(3, .int 0), (0, .ref h0), (1, .int x1), (2, .ref h1)]) hx hb dX11_takes_1 rfl hl (by decide) rfl (fun ls hl => ?_)
  have lp2_8 : ∀ (n : Nat) (y7 : Int32) (H : Heap) (locs : List Loc) (ls : Array Slot), (0 ≤ y7.toInt ∧ y7.toInt ≤ 9) → ((-1) * y7.toInt + 9 + 1).toNat < n → TP D A [(h0, ob 8 [.int h0f0, .int h0f1, .int h0f2, .int h0f3, .int h0f4, .int h0f5, .ref h2, .ref h3, .int h0f8, .int h0f9, .ref h4, .ref h5, .ref h1, .ref h6, .ref h7, .ref h8, .ref h9, .int h0f17, .int h0f18, .int h0f19, .ref h10, .ref h11, .ref h12, .ref h13, .int h0f24, .int h0f25, .ref h14, .ref h15, .ref h16, .ref h17, .int h0f30, .int h0f31, .ref h18, .ref h19, .ref h20, .ref h21]), (h1, aJ (k 1) 9 anJ), (h2, aI (k 0) 36 anI)] H → va_S A s.heap H locs → lv_has ls 4 [(0, .ref h0), (1, .int x1), (2, .ref h1), (3, .int y7)] → W p l e Rm_cX11_takes_479bd s m args below meth c H locs 0 0 Q (F0 m 2 ls []) := by
    intro n
    induction n with
    | zero => intro y7 H locs ls b_y7 hm hT hS hl; exact absurd hm (Nat.not_lt_zero _)
    | succ n ih =>
      intro y7 H locs ls b_y7 hm hT hS hl
      have ih2_8 := ih
      clear ih
      refine lv_iload_n hx hb dX11_takes_2 rfl (lv_at hl 3 rfl) ?_
      refine lv_bipush (v := 9) hx hb dX11_takes_3 (by decide) ?_
      refine lv_icmp_ge (tgt := 29) hx hb dX11_takes_5 (by decide) (fun c_9 => ?_) (fun c_9 => ?_)
      · skip
        have c_9 := ni_le c_9 li_9 rfl
        exact tz_retV (B := B_cX11_takes_479bd D k h0 h1 h2 h3 h4 h5 h6 h7 h8 h9 h10 h11 h12 h13 h14 h15 h16 h17 h18 h19 h20 h21 x1 h0f0 h0f1 h0f2 h0f3 h0f4 h0f5 h0f8 h0f9 h0f17 h0f18 h0f19 h0f24 h0f25 h0f30 h0f31) hQ hx hb hr hlocks hS (Nat.le_of_ble_eq_true rfl) (Nat.le_of_ble_eq_true rfl) dX11_takes_29 (hT)
      · skip
        have c_9 := ni_nle c_9 li_9 rfl
        refine lv_aload_n hx hb dX11_takes_8 rfl (lv_at hl 2 rfl) ?_
        refine lv_iload_n hx hb dX11_takes_9 rfl (lv_at hl 3 rfl) ?_
        refine lv_aload_n hx hb dX11_takes_10 rfl (lv_at hl 0 rfl) ?_
        refine tz_get (ci := 8) (v := .ref h2) (C := RX11) (F := TX11) (N := 36) hx hb hU iX11 hown hK hT 0 rfl rfl 6 (by decide) w791 (fun _ h9 => h9) rfl dX11_takes_11 ?_
        refine lv_bipush (v := 9) hx hb dX11_takes_14 (by decide) ?_
        refine lv_iload_n hx hb dX11_takes_16 rfl (lv_at hl 1 rfl) ?_
        refine lv_imul hx hb dX11_takes_17 (lv_topi (fun v10 e_v10 => ?_))
        have e_v10 := ai_mul e_v10 li_9 rfl (by omega)
        refine lv_iload_n hx hb dX11_takes_18 rfl (lv_at hl 3 rfl) ?_
        refine lv_iadd hx hb dX11_takes_19 (lv_topi (fun v11 e_v11 => ?_))
        have e_v11 := ai_add e_v11 rfl rfl (by omega)
        refine tz_iald hx hb hK hT 2 rfl (by omega) dX11_takes_20 (fun v12 e_v12 => ?_)
        clear e_v12
        have tb_v12 := i32b v12
        obtain ⟨v13, e_v13⟩ : ∃ x : Int64, v12.toInt64 = x := ⟨_, rfl⟩
        refine lv_i2l (v := v13) hx hb dX11_takes_21 e_v13 ?_
        have e_v13 := ai_i2l e_v13 rfl
        refine tz_last hx hb hK hT hS 1 rfl (by omega) (fun _ _ => trivial) dX11_takes_22 (fun H locs hT hS => ?_)
        obtain ⟨v14, e_v14⟩ : ∃ x : Int32, x = y7 + Int32.ofInt 1 := ⟨_, rfl⟩
        have f_v14 := e_v14.symm
        have e_v14 : v14.toInt = y7.toInt + 1 := ai_add e_v14 rfl (show (Int32.ofInt 1).toInt = 1 from (by decide +kernel)) (by omega)
        refine lv_iinc (v := v14) (lv' := [(3, .int v14), (0, .ref h0), (1, .int x1), (2, .ref h1)]) hx hb dX11_takes_23 hl (k := 3) rfl f_v14 (by decide) rfl (fun ls hl => ?_)
        refine lv_goto (tgt := 2) hx hb dX11_takes_26 (by decide) ?_
        exact ih2_8 v14 _ _ _ (by omega)  (by omega) hT hS (lv_sub hl [1, 2, 3, 0] rfl)
  exact lp2_8 (((-1) * (0 : Int32).toInt + 9 + 1).toNat + 1) (0) _ _ _ (by have := li_0; omega)  (Nat.lt_succ_self _) hT hS (lv_sub hl [1, 2, 3, 0] rfl)
abbrev Rm_cX11_times_965f2 : Room := { frames := 1, cells := 0, slots := 0, locals := 22 }
abbrev B_cX11_times_965f2 (D : va_G) (k : Nat → ClassId) (h0 h1 h2 h3 h4 h5 h6 h7 h8 h9 h10 h11 h12 h13 h14 h15 h16 h17 h18 h19 h20 h21 : Nat) (h0f0 : Int32) (h0f1 : Int32) (h0f2 : Int32) (h0f3 : Int32) (h0f4 : Int32) (h0f5 : Int32) (h0f8 : Int32) (h0f9 : Int32) (h0f17 : Int32) (h0f18 : Int32) (h0f19 : Int32) (h0f24 : Int32) (h0f25 : Int32) (h0f30 : Int32) (h0f31 : Int32) (A : Nat → Prop) (H : Heap) : Prop := TP D A [(h0, ob 8 [.int h0f0, .int h0f1, .int h0f2, .int h0f3, .int h0f4, .int h0f5, .ref h4, .ref h5, .int h0f8, .int h0f9, .ref h3, .ref h1, .ref h2, .ref h6, .ref h7, .ref h8, .ref h9, .int h0f17, .int h0f18, .int h0f19, .ref h10, .ref h11, .ref h12, .ref h13, .int h0f24, .int h0f25, .ref h14, .ref h15, .ref h16, .ref h17, .int h0f30, .int h0f31, .ref h18, .ref h19, .ref h20, .ref h21]), (h1, aJ (k 1) 9 anJ), (h2, aJ (k 1) 9 anJ), (h3, aJ (k 1) 9 anJ)] H
set_option maxHeartbeats 4000000 in
set_option maxRecDepth 100000 in
theorem cX11_times_965f2 (l : Launch) (D : va_G) (k : Nat → ClassId) (sz : Nat) (h0 h1 h2 h3 h4 h5 h6 h7 h8 h9 h10 h11 h12 h13 h14 h15 h16 h17 h18 h19 h20 h21 : Nat) (h0f0 : Int32) (h0f1 : Int32) (h0f2 : Int32) (h0f3 : Int32) (h0f4 : Int32) (h0f5 : Int32) (h0f8 : Int32) (h0f9 : Int32) (h0f17 : Int32) (h0f18 : Int32) (h0f19 : Int32) (h0f24 : Int32) (h0f25 : Int32) (h0f30 : Int32) (h0f31 : Int32) (b_h0f0 : 1 ≤ h0f0.toInt ∧ h0f0.toInt ≤ 3) (b_h0f1 : 1 ≤ h0f1.toInt ∧ h0f1.toInt ≤ 3) (b_h0f3 : 0 ≤ h0f3.toInt ∧ h0f3.toInt ≤ 3) (b_h0f4 : 0 ≤ h0f4.toInt ∧ h0f4.toInt ≤ 4) (b_h0f8 : 0 ≤ h0f8.toInt ∧ h0f8.toInt ≤ 1) (b_h0f9 : 0 ≤ h0f9.toInt ∧ h0f9.toInt ≤ 1) (b_h0f17 : 0 ≤ h0f17.toInt ∧ h0f17.toInt ≤ 120) (b_h0f18 : 0 ≤ h0f18.toInt ∧ h0f18.toInt ≤ 120) (b_h0f19 : 0 ≤ h0f19.toInt ∧ h0f19.toInt ≤ 4) (b_h0f24 : 0 ≤ h0f24.toInt ∧ h0f24.toInt ≤ 100) (b_h0f25 : 0 ≤ h0f25.toInt ∧ h0f25.toInt ≤ 1) (b_h0f30 : 0 ≤ h0f30.toInt ∧ h0f30.toInt ≤ 60) (b_h0f31 : 0 ≤ h0f31.toInt ∧ h0f31.toInt ≤ 1) (i_0 : h0f8.toInt ≤ h0f3.toInt) (i_1 : h0f9.toInt ≤ h0f24.toInt) : Met l yX11_times (Cond.code yX11_times cX11_times 7 none :: uw) Rm_cX11_times_965f2 (pT D k sz [.ref h0, .ref h1, .ref h2, .ref h3] [(h0, ob 8 [.int h0f0, .int h0f1, .int h0f2, .int h0f3, .int h0f4, .int h0f5, .ref h4, .ref h5, .int h0f8, .int h0f9, .ref h3, .ref h1, .ref h2, .ref h6, .ref h7, .ref h8, .ref h9, .int h0f17, .int h0f18, .int h0f19, .ref h10, .ref h11, .ref h12, .ref h13, .int h0f24, .int h0f25, .ref h14, .ref h15, .ref h16, .ref h17, .int h0f30, .int h0f31, .ref h18, .ref h19, .ref h20, .ref h21]), (h1, aJ (k 1) 9 anJ), (h2, aJ (k 1) 9 anJ), (h3, aJ (k 1) 9 anJ)]) (qV (B_cX11_times_965f2 D k h0 h1 h2 h3 h4 h5 h6 h7 h8 h9 h10 h11 h12 h13 h14 h15 h16 h17 h18 h19 h20 h21 h0f0 h0f1 h0f2 h0f3 h0f4 h0f5 h0f8 h0f9 h0f17 h0f18 h0f19 h0f24 h0f25 h0f30 h0f31 (zA [h0, h1, h2, h3] sz)) (zA [h0, h1, h2, h3] sz)) 0 0 (zA [h0, h1, h2, h3] sz) := by
  refine tz_begin (as := [h0, h1, h2, h3]) (Qc := fun A => qV (B_cX11_times_965f2 D k h0 h1 h2 h3 h4 h5 h6 h7 h8 h9 h10 h11 h12 h13 h14 h15 h16 h17 h18 h19 h20 h21 h0f0 h0f1 h0f2 h0f3 h0f4 h0f5 h0f8 h0f9 h0f17 h0f18 h0f19 h0f24 h0f25 h0f30 h0f31 A) A) (by decide +kernel) rfl (Nat.le_of_ble_eq_true rfl) ?_
  intro p e s m args below meth c ls A Q hx hb hr hml hown hlocks hin hU hK hT hS hA hl hQ
  have hl : lv_has ls 7 [(0, .ref h0), (1, .ref h1), (2, .ref h2), (3, .ref h3)] := hl
  have hT : TP D A [(h0, ob 8 [.int h0f0, .int h0f1, .int h0f2, .int h0f3, .int h0f4, .int h0f5, .ref h4, .ref h5, .int h0f8, .int h0f9, .ref h3, .ref h1, .ref h2, .ref h6, .ref h7, .ref h8, .ref h9, .int h0f17, .int h0f18, .int h0f19, .ref h10, .ref h11, .ref h12, .ref h13, .int h0f24, .int h0f25, .ref h14, .ref h15, .ref h16, .ref h17, .int h0f30, .int h0f31, .ref h18, .ref h19, .ref h20, .ref h21]), (h1, aJ (k 1) 9 anJ), (h2, aJ (k 1) 9 anJ), (h3, aJ (k 1) 9 anJ)] s.heap := hT
  refine lv_aload_n hx hb dX11_times_0 rfl (lv_at hl 0 rfl) ?_
  refine lv_aload_n hx hb dX11_times_1 rfl (lv_at hl 3 rfl) ?_
  refine tcV (Tc := [(h0, ob 8 [.int h0f0, .int h0f1, .int h0f2, .int h0f3, .int h0f4, .int h0f5, .ref h4, .ref h5, .int h0f8, .int h0f9, .ref h3, .ref h1, .ref h2, .ref h6, .ref h7, .ref h8, .ref h9, .int h0f17, .int h0f18, .int h0f19, .ref h10, .ref h11, .ref h12, .ref h13, .int h0f24, .int h0f25, .ref h14, .ref h15, .ref h16, .ref h17, .int h0f30, .int h0f31, .ref h18, .ref h19, .ref h20, .ref h21]), (h3, aJ (k 1) 9 anJ)]) (Tr := [(h1, aJ (k 1) 9 anJ), (h2, aJ (k 1) 9 anJ)]) (as := [h0, h3]) (zcV (q0 := 0) (ci := 8) (As := [.ref h3]) (rest := []) (Tc := [(h0, ob 8 [.int h0f0, .int h0f1, .int h0f2, .int h0f3, .int h0f4, .int h0f5, .ref h4, .ref h5, .int h0f8, .int h0f9, .ref h3, .ref h1, .ref h2, .ref h6, .ref h7, .ref h8, .ref h9, .int h0f17, .int h0f18, .int h0f19, .ref h10, .ref h11, .ref h12, .ref h13, .int h0f24, .int h0f25, .ref h14, .ref h15, .ref h16, .ref h17, .int h0f30, .int h0f31, .ref h18, .ref h19, .ref h20, .ref h21]), (h3, aJ (k 1) 9 anJ)]) hx hb hml hown hU hK hT rfl rfl [0, 3] rfl (by decide) (cX11_clears_d395b l D k _ h0 h3 h4 h5 h1 h2 h6 h7 h8 h9 h10 h11 h12 h13 h14 h15 h16 h17 h18 h19 h20 h21 h0f0 h0f1 h0f2 h0f3 h0f4 h0f5 h0f8 h0f9 h0f17 h0f18 h0f19 h0f24 h0f25 h0f30 h0f31 (by omega) (by omega) (by omega) (by omega) (by omega) (by omega) (by omega) (by omega) (by omega) (by omega) (by omega) (by omega) (by omega) (by omega) (by omega)) w923 w920 w922 w29 w72 hdX11_clears ⟨rfl, rfl⟩ ⟨Nat.le_of_ble_eq_true rfl, Nat.le_of_ble_eq_true rfl⟩ rfl hl.1 (Nat.le_of_ble_eq_true rfl) dX11_times_2 ⟨Nat.le_of_ble_eq_true rfl, Nat.le_of_ble_eq_true rfl⟩) hT hS hA [0, 3] [1, 2] rfl rfl rfl (by decide) (by decide) (fun H locs hB J hS => ?_)
  have hT1 := hB
  have hT := J _ hT1
  have hT : TP D A [(h1, aJ (k 1) 9 anJ), (h2, aJ (k 1) 9 anJ), (h0, ob 8 [.int h0f0, .int h0f1, .int h0f2, .int h0f3, .int h0f4, .int h0f5, .ref h4, .ref h5, .int h0f8, .int h0f9, .ref h3, .ref h1, .ref h2, .ref h6, .ref h7, .ref h8, .ref h9, .int h0f17, .int h0f18, .int h0f19, .ref h10, .ref h11, .ref h12, .ref h13, .int h0f24, .int h0f25, .ref h14, .ref h15, .ref h16, .ref h17, .int h0f30, .int h0f31, .ref h18, .ref h19, .ref h20, .ref h21]), (h3, aJ (k 1) 9 anJ)] _ := hT
  refine lv_iconst (v := 0) hx hb dX11_times_5 (by decide) ?_
  refine lv_istore (lv' := [(4, .int 0), (0, .ref h0), (1, .ref h1), (2, .ref h2), (3, .ref h3)]) hx hb dX11_times_6 hl (by decide) rfl (fun ls hl => ?_)
  have lp8_5 : ∀ (n : Nat) (y4 : Int32) (H : Heap) (locs : List Loc) (ls : Array Slot), (0 ≤ y4.toInt ∧ y4.toInt ≤ 3) → (h0f0.toInt + (-1) * y4.toInt + 1).toNat < n → TP D A [(h1, aJ (k 1) 9 anJ), (h2, aJ (k 1) 9 anJ), (h0, ob 8 [.int h0f0, .int h0f1, .int h0f2, .int h0f3, .int h0f4, .int h0f5, .ref h4, .ref h5, .int h0f8, .int h0f9, .ref h3, .ref h1, .ref h2, .ref h6, .ref h7, .ref h8, .ref h9, .int h0f17, .int h0f18, .int h0f19, .ref h10, .ref h11, .ref h12, .ref h13, .int h0f24, .int h0f25, .ref h14, .ref h15, .ref h16, .ref h17, .int h0f30, .int h0f31, .ref h18, .ref h19, .ref h20, .ref h21]), (h3, aJ (k 1) 9 anJ)] H → va_S A s.heap H locs → lv_has ls 7 [(0, .ref h0), (1, .ref h1), (2, .ref h2), (3, .ref h3), (4, .int y4)] → W p l e Rm_cX11_times_965f2 s m args below meth c H locs 0 0 Q (F0 m 8 ls []) := by
    intro n
    induction n with
    | zero => intro y4 H locs ls b_y4 hm hT hS hl; exact absurd hm (Nat.not_lt_zero _)
    | succ n ih =>
      intro y4 H locs ls b_y4 hm hT hS hl
      have ih8_5 := ih
      clear ih
      refine lv_iload hx hb dX11_times_8 (lv_at hl 4 rfl) ?_
      refine lv_aload_n hx hb dX11_times_10 rfl (lv_at hl 0 rfl) ?_
      refine tz_get (ci := 8) (v := .int h0f0) (C := RX11) (F := TX11) (N := 36) hx hb hU iX11 hown hK hT 2 rfl rfl 0 (by decide) w785 (fun _ h9 => h9) rfl dX11_times_11 ?_
      refine lv_icmp_ge (tgt := 90) hx hb dX11_times_14 (by decide) (fun c_6 => ?_) (fun c_6 => ?_)
      · skip
        have c_6 := ni_le c_6 rfl rfl
        exact tz_retV (B := B_cX11_times_965f2 D k h0 h1 h2 h3 h4 h5 h6 h7 h8 h9 h10 h11 h12 h13 h14 h15 h16 h17 h18 h19 h20 h21 h0f0 h0f1 h0f2 h0f3 h0f4 h0f5 h0f8 h0f9 h0f17 h0f18 h0f19 h0f24 h0f25 h0f30 h0f31) hQ hx hb hr hlocks hS (Nat.le_of_ble_eq_true rfl) (Nat.le_of_ble_eq_true rfl) dX11_times_90 ((hT.sub [2, 0, 1, 3] (by decide) rfl))
      · skip
        have c_6 := ni_nle c_6 rfl rfl
        refine lv_iconst (v := 0) hx hb dX11_times_17 (by decide) ?_
        refine lv_istore (lv' := [(5, .int 0), (0, .ref h0), (1, .ref h1), (2, .ref h2), (3, .ref h3), (4, .int y4)]) hx hb dX11_times_18 hl (by decide) rfl (fun ls hl => ?_)
        have lp20_10 : ∀ (n : Nat) (y9 : Int32) (H : Heap) (locs : List Loc) (ls : Array Slot), (0 ≤ y9.toInt ∧ y9.toInt ≤ 3) → (h0f0.toInt + (-1) * y9.toInt + 1).toNat < n → TP D A [(h1, aJ (k 1) 9 anJ), (h2, aJ (k 1) 9 anJ), (h0, ob 8 [.int h0f0, .int h0f1, .int h0f2, .int h0f3, .int h0f4, .int h0f5, .ref h4, .ref h5, .int h0f8, .int h0f9, .ref h3, .ref h1, .ref h2, .ref h6, .ref h7, .ref h8, .ref h9, .int h0f17, .int h0f18, .int h0f19, .ref h10, .ref h11, .ref h12, .ref h13, .int h0f24, .int h0f25, .ref h14, .ref h15, .ref h16, .ref h17, .int h0f30, .int h0f31, .ref h18, .ref h19, .ref h20, .ref h21]), (h3, aJ (k 1) 9 anJ)] H → va_S A s.heap H locs → lv_has ls 7 [(0, .ref h0), (1, .ref h1), (2, .ref h2), (3, .ref h3), (4, .int y4), (5, .int y9)] → W p l e Rm_cX11_times_965f2 s m args below meth c H locs 0 0 Q (F0 m 20 ls []) := by
          intro n
          induction n with
          | zero => intro y9 H locs ls b_y9 hm hT hS hl; exact absurd hm (Nat.not_lt_zero _)
          | succ n ih =>
            intro y9 H locs ls b_y9 hm hT hS hl
            have ih20_10 := ih
            clear ih
            refine lv_iload hx hb dX11_times_20 (lv_at hl 5 rfl) ?_
            refine lv_aload_n hx hb dX11_times_22 rfl (lv_at hl 0 rfl) ?_
            refine tz_get (ci := 8) (v := .int h0f0) (C := RX11) (F := TX11) (N := 36) hx hb hU iX11 hown hK hT 2 rfl rfl 0 (by decide) w785 (fun _ h9 => h9) rfl dX11_times_23 ?_
            refine lv_icmp_ge (tgt := 84) hx hb dX11_times_26 (by decide) (fun c_11 => ?_) (fun c_11 => ?_)
            · skip
              have c_11 := ni_le c_11 rfl rfl
              obtain ⟨v12, e_v12⟩ : ∃ x : Int32, x = y4 + Int32.ofInt 1 := ⟨_, rfl⟩
              have f_v12 := e_v12.symm
              have e_v12 : v12.toInt = y4.toInt + 1 := ai_add e_v12 rfl (show (Int32.ofInt 1).toInt = 1 from (by decide +kernel)) (by omega)
              refine lv_iinc (v := v12) (lv' := [(4, .int v12), (0, .ref h0), (1, .ref h1), (2, .ref h2), (3, .ref h3), (5, .int y9)]) hx hb dX11_times_84 hl (k := 4) rfl f_v12 (by decide) rfl (fun ls hl => ?_)
              refine lv_goto (tgt := 8) hx hb dX11_times_87 (by decide) ?_
              exact ih8_5 v12 _ _ _ (by omega)  (by omega) hT hS (lv_sub hl [1, 2, 3, 4, 0] rfl)
            · skip
              have c_11 := ni_nle c_11 rfl rfl
              refine lv_iconst (v := 0) hx hb dX11_times_29 (by decide) ?_
              refine lv_istore (lv' := [(6, .int 0), (0, .ref h0), (1, .ref h1), (2, .ref h2), (3, .ref h3), (4, .int y4), (5, .int y9)]) hx hb dX11_times_30 hl (by decide) rfl (fun ls hl => ?_)
              have lp32_16 : ∀ (n : Nat) (y15 : Int32) (H : Heap) (locs : List Loc) (ls : Array Slot), (0 ≤ y15.toInt ∧ y15.toInt ≤ 3) → (h0f0.toInt + (-1) * y15.toInt + 1).toNat < n → TP D A [(h1, aJ (k 1) 9 anJ), (h2, aJ (k 1) 9 anJ), (h0, ob 8 [.int h0f0, .int h0f1, .int h0f2, .int h0f3, .int h0f4, .int h0f5, .ref h4, .ref h5, .int h0f8, .int h0f9, .ref h3, .ref h1, .ref h2, .ref h6, .ref h7, .ref h8, .ref h9, .int h0f17, .int h0f18, .int h0f19, .ref h10, .ref h11, .ref h12, .ref h13, .int h0f24, .int h0f25, .ref h14, .ref h15, .ref h16, .ref h17, .int h0f30, .int h0f31, .ref h18, .ref h19, .ref h20, .ref h21]), (h3, aJ (k 1) 9 anJ)] H → va_S A s.heap H locs → lv_has ls 7 [(0, .ref h0), (1, .ref h1), (2, .ref h2), (3, .ref h3), (4, .int y4), (5, .int y9), (6, .int y15)] → W p l e Rm_cX11_times_965f2 s m args below meth c H locs 0 0 Q (F0 m 32 ls []) := by
                intro n
                induction n with
                | zero => intro y15 H locs ls b_y15 hm hT hS hl; exact absurd hm (Nat.not_lt_zero _)
                | succ n ih =>
                  intro y15 H locs ls b_y15 hm hT hS hl
                  have ih32_16 := ih
                  clear ih
                  refine lv_iload hx hb dX11_times_32 (lv_at hl 6 rfl) ?_
                  refine lv_aload_n hx hb dX11_times_34 rfl (lv_at hl 0 rfl) ?_
                  refine tz_get (ci := 8) (v := .int h0f0) (C := RX11) (F := TX11) (N := 36) hx hb hU iX11 hown hK hT 2 rfl rfl 0 (by decide) w785 (fun _ h9 => h9) rfl dX11_times_35 ?_
                  refine lv_icmp_ge (tgt := 78) hx hb dX11_times_38 (by decide) (fun c_17 => ?_) (fun c_17 => ?_)
                  · skip
                    have c_17 := ni_le c_17 rfl rfl
                    obtain ⟨v18, e_v18⟩ : ∃ x : Int32, x = y9 + Int32.ofInt 1 := ⟨_, rfl⟩
                    have f_v18 := e_v18.symm
                    have e_v18 : v18.toInt = y9.toInt + 1 := ai_add e_v18 rfl (show (Int32.ofInt 1).toInt = 1 from (by decide +kernel)) (by omega)
                    refine lv_iinc (v := v18) (lv' := [(5, .int v18), (0, .ref h0), (1, .ref h1), (2, .ref h2), (3, .ref h3), (4, .int y4), (6, .int y15)]) hx hb dX11_times_78 hl (k := 5) rfl f_v18 (by decide) rfl (fun ls hl => ?_)
                    refine lv_goto (tgt := 20) hx hb dX11_times_81 (by decide) ?_
                    exact ih20_10 v18 _ _ _ (by omega)  (by omega) hT hS (lv_sub hl [1, 2, 3, 4, 5, 0] rfl)
                  · skip
                    have c_17 := ni_nle c_17 rfl rfl
                    refine lv_aload_n hx hb dX11_times_41 rfl (lv_at hl 3 rfl) ?_
                    refine lv_iconst (v := 3) hx hb dX11_times_42 (by decide) ?_
                    refine lv_iload hx hb dX11_times_43 (lv_at hl 4 rfl) ?_
                    refine lv_imul hx hb dX11_times_45 (lv_topi (fun v19 e_v19 => ?_))
                    have e_v19 := ai_mul e_v19 li_3 rfl (by omega)
                    refine lv_iload hx hb dX11_times_46 (lv_at hl 5 rfl) ?_
                    refine lv_iadd hx hb dX11_times_48 (lv_topi (fun v20 e_v20 => ?_))
                    have e_v20 := ai_add e_v20 rfl rfl (by omega)
                    refine lv_dup2_11 hx hb dX11_times_49 rfl rfl ?_
                    refine tz_lald hx hb hK hT 3 rfl (by omega) dX11_times_50 (fun v21 e_v21 => ?_)
                    clear e_v21
                    refine lv_aload_n hx hb dX11_times_51 rfl (lv_at hl 1 rfl) ?_
                    refine lv_iconst (v := 3) hx hb dX11_times_52 (by decide) ?_
                    refine lv_iload hx hb dX11_times_53 (lv_at hl 4 rfl) ?_
                    refine lv_imul hx hb dX11_times_55 (lv_topi (fun v22 e_v22 => ?_))
                    have e_v22 := ai_mul e_v22 li_3 rfl (by omega)
                    refine lv_iload hx hb dX11_times_56 (lv_at hl 6 rfl) ?_
                    refine lv_iadd hx hb dX11_times_58 (lv_topi (fun v23 e_v23 => ?_))
                    have e_v23 := ai_add e_v23 rfl rfl (by omega)
                    refine tz_lald hx hb hK hT 0 rfl (by omega) dX11_times_59 (fun v24 e_v24 => ?_)
                    clear e_v24
                    refine lv_aload_n hx hb dX11_times_60 rfl (lv_at hl 2 rfl) ?_
                    refine lv_iconst (v := 3) hx hb dX11_times_61 (by decide) ?_
                    refine lv_iload hx hb dX11_times_62 (lv_at hl 6 rfl) ?_
                    refine lv_imul hx hb dX11_times_64 (lv_topi (fun v25 e_v25 => ?_))
                    have e_v25 := ai_mul e_v25 li_3 rfl (by omega)
                    refine lv_iload hx hb dX11_times_65 (lv_at hl 5 rfl) ?_
                    refine lv_iadd hx hb dX11_times_67 (lv_topi (fun v26 e_v26 => ?_))
                    have e_v26 := ai_add e_v26 rfl rfl (by omega)
                    refine tz_lald hx hb hK hT 1 rfl (by omega) dX11_times_68 (fun v27 e_v27 => ?_)
                    clear e_v27
                    refine lv_lmul hx hb dX11_times_69 (lv_topl (fun v28 e_v28 => ?_))
                    refine lv_ladd hx hb dX11_times_70 (lv_topl (fun v29 e_v29 => ?_))
                    refine tz_last hx hb hK hT hS 3 rfl (by omega) (fun _ _ => trivial) dX11_times_71 (fun H locs hT hS => ?_)
                    obtain ⟨v30, e_v30⟩ : ∃ x : Int32, x = y15 + Int32.ofInt 1 := ⟨_, rfl⟩
                    have f_v30 := e_v30.symm
                    have e_v30 : v30.toInt = y15.toInt + 1 := ai_add e_v30 rfl (show (Int32.ofInt 1).toInt = 1 from (by decide +kernel)) (by omega)
                    refine lv_iinc (v := v30) (lv' := [(6, .int v30), (0, .ref h0), (1, .ref h1), (2, .ref h2), (3, .ref h3), (4, .int y4), (5, .int y9)]) hx hb dX11_times_72 hl (k := 6) rfl f_v30 (by decide) rfl (fun ls hl => ?_)
                    refine lv_goto (tgt := 32) hx hb dX11_times_75 (by decide) ?_
                    exact ih32_16 v30 _ _ _ (by omega)  (by omega) hT hS (lv_sub hl [1, 2, 3, 4, 5, 6, 0] rfl)
              exact lp32_16 ((h0f0.toInt + (-1) * (0 : Int32).toInt + 1).toNat + 1) (0) _ _ _ (by have := li_0; omega)  (Nat.lt_succ_self _) hT hS (lv_sub hl [1, 2, 3, 4, 5, 6, 0] rfl)
        exact lp20_10 ((h0f0.toInt + (-1) * (0 : Int32).toInt + 1).toNat + 1) (0) _ _ _ (by have := li_0; omega)  (Nat.lt_succ_self _) hT hS (lv_sub hl [1, 2, 3, 4, 5, 0] rfl)
  exact lp8_5 ((h0f0.toInt + (-1) * (0 : Int32).toInt + 1).toNat + 1) (0) _ _ _ (by have := li_0; omega)  (Nat.lt_succ_self _) hT hS (lv_sub hl [1, 2, 3, 4, 0] rfl)
abbrev Rm_cX11_made_6c9d1 : Room := { frames := 2, cells := 0, slots := 0, locals := 48 }
abbrev B_cX11_made_6c9d1 (D : va_G) (k : Nat → ClassId) (h0 h1 h3 h4 h5 h2 h6 h7 h8 h9 h10 h11 h12 h13 h14 h15 h16 h17 h18 h19 h20 h21 : Nat) (x1 : Int32) (x2 : Int32) (x3 : Int32) (h0f0 : Int32) (h0f1 : Int32) (h0f2 : Int32) (h0f3 : Int32) (h0f4 : Int32) (h0f5 : Int32) (h0f8 : Int32) (h0f9 : Int32) (h0f17 : Int32) (h0f18 : Int32) (h0f19 : Int32) (h0f24 : Int32) (h0f25 : Int32) (h0f30 : Int32) (h0f31 : Int32) (A : Nat → Prop) (r : Int32) (H : Heap) : Prop := ∃ o0 : Int32, ∃ o1 : Int32, ∃ o2 : Int32, (0 ≤ o0.toInt ∧ o0.toInt ≤ 4) ∧ (0 ≤ o1.toInt ∧ o1.toInt ≤ 1) ∧ (0 ≤ o2.toInt ∧ o2.toInt ≤ 60) ∧ ((-16) ≤ r.toInt ∧ r.toInt ≤ 3) ∧ (o2.toInt = 0 ∨ (o2.toInt = h0f30.toInt ∧ o0.toInt = h0f1.toInt ∧ h0f31.toInt = h0f31.toInt)) ∧ (o1.toInt = 0 ∨ o1.toInt = h0f9.toInt) ∧ TP D A [(h0, ob 8 [.int h0f0, .int o0, .int h0f2, .int h0f3, .int h0f4, .int h0f5, .ref h1, .ref h2, .int h0f8, .int o1, .ref h3, .ref h4, .ref h5, .ref h6, .ref h7, .ref h8, .ref h9, .int h0f17, .int h0f18, .int h0f19, .ref h10, .ref h11, .ref h12, .ref h13, .int h0f24, .int h0f25, .ref h14, .ref h15, .ref h16, .ref h17, .int o2, .int h0f31, .ref h18, .ref h19, .ref h20, .ref h21]), (h1, aI (k 0) 36 anI), (h3, aJ (k 1) 9 anJ), (h4, aJ (k 1) 9 anJ), (h5, aJ (k 1) 9 anJ)] H
set_option maxHeartbeats 4000000 in
set_option maxRecDepth 100000 in
theorem cX11_made_6c9d1 (l : Launch) (D : va_G) (k : Nat → ClassId) (sz : Nat) (h0 h1 h3 h4 h5 h2 h6 h7 h8 h9 h10 h11 h12 h13 h14 h15 h16 h17 h18 h19 h20 h21 : Nat) (x1 : Int32) (x2 : Int32) (x3 : Int32) (h0f0 : Int32) (h0f1 : Int32) (h0f2 : Int32) (h0f3 : Int32) (h0f4 : Int32) (h0f5 : Int32) (h0f8 : Int32) (h0f9 : Int32) (h0f17 : Int32) (h0f18 : Int32) (h0f19 : Int32) (h0f24 : Int32) (h0f25 : Int32) (h0f30 : Int32) (h0f31 : Int32) (b_h0f0 : 1 ≤ h0f0.toInt ∧ h0f0.toInt ≤ 3) (b_h0f1 : 0 ≤ h0f1.toInt ∧ h0f1.toInt ≤ 4) (b_h0f3 : 0 ≤ h0f3.toInt ∧ h0f3.toInt ≤ 3) (b_h0f4 : 0 ≤ h0f4.toInt ∧ h0f4.toInt ≤ 4) (b_h0f8 : 0 ≤ h0f8.toInt ∧ h0f8.toInt ≤ 1) (b_h0f9 : 0 ≤ h0f9.toInt ∧ h0f9.toInt ≤ 1) (b_h0f17 : 0 ≤ h0f17.toInt ∧ h0f17.toInt ≤ 120) (b_h0f18 : 0 ≤ h0f18.toInt ∧ h0f18.toInt ≤ 120) (b_h0f19 : 0 ≤ h0f19.toInt ∧ h0f19.toInt ≤ 4) (b_h0f24 : 0 ≤ h0f24.toInt ∧ h0f24.toInt ≤ 100) (b_h0f25 : 0 ≤ h0f25.toInt ∧ h0f25.toInt ≤ 1) (b_h0f30 : 0 ≤ h0f30.toInt ∧ h0f30.toInt ≤ 60) (b_h0f31 : 0 ≤ h0f31.toInt ∧ h0f31.toInt ≤ 1) (i_0 : h0f8.toInt ≤ h0f3.toInt) (i_1 : h0f9.toInt ≤ h0f24.toInt) : Met l yX11_made (Cond.code yX11_made cX11_made 10 (some .int) :: uw) Rm_cX11_made_6c9d1 (pT D k sz [.ref h0, .int x1, .int x2, .int x3] [(h0, ob 8 [.int h0f0, .int h0f1, .int h0f2, .int h0f3, .int h0f4, .int h0f5, .ref h1, .ref h2, .int h0f8, .int h0f9, .ref h3, .ref h4, .ref h5, .ref h6, .ref h7, .ref h8, .ref h9, .int h0f17, .int h0f18, .int h0f19, .ref h10, .ref h11, .ref h12, .ref h13, .int h0f24, .int h0f25, .ref h14, .ref h15, .ref h16, .ref h17, .int h0f30, .int h0f31, .ref h18, .ref h19, .ref h20, .ref h21]), (h1, aI (k 0) 36 anI), (h3, aJ (k 1) 9 anJ), (h4, aJ (k 1) 9 anJ), (h5, aJ (k 1) 9 anJ)]) (qI (B_cX11_made_6c9d1 D k h0 h1 h3 h4 h5 h2 h6 h7 h8 h9 h10 h11 h12 h13 h14 h15 h16 h17 h18 h19 h20 h21 x1 x2 x3 h0f0 h0f1 h0f2 h0f3 h0f4 h0f5 h0f8 h0f9 h0f17 h0f18 h0f19 h0f24 h0f25 h0f30 h0f31 (zA [h0, h1, h3, h4, h5] sz)) (zA [h0, h1, h3, h4, h5] sz)) 0 0 (zA [h0, h1, h3, h4, h5] sz) := by
  refine tz_begin (as := [h0, h1, h3, h4, h5]) (Qc := fun A => qI (B_cX11_made_6c9d1 D k h0 h1 h3 h4 h5 h2 h6 h7 h8 h9 h10 h11 h12 h13 h14 h15 h16 h17 h18 h19 h20 h21 x1 x2 x3 h0f0 h0f1 h0f2 h0f3 h0f4 h0f5 h0f8 h0f9 h0f17 h0f18 h0f19 h0f24 h0f25 h0f30 h0f31 A) A) (by decide +kernel) rfl (Nat.le_of_ble_eq_true rfl) ?_
  intro p e s m args below meth c ls A Q hx hb hr hml hown hlocks hin hU hK hT hS hA hl hQ
  have hl : lv_has ls 10 [(0, .ref h0), (1, .int x1), (2, .int x2), (3, .int x3)] := hl
  have hT : TP D A [(h0, ob 8 [.int h0f0, .int h0f1, .int h0f2, .int h0f3, .int h0f4, .int h0f5, .ref h1, .ref h2, .int h0f8, .int h0f9, .ref h3, .ref h4, .ref h5, .ref h6, .ref h7, .ref h8, .ref h9, .int h0f17, .int h0f18, .int h0f19, .ref h10, .ref h11, .ref h12, .ref h13, .int h0f24, .int h0f25, .ref h14, .ref h15, .ref h16, .ref h17, .int h0f30, .int h0f31, .ref h18, .ref h19, .ref h20, .ref h21]), (h1, aI (k 0) 36 anI), (h3, aJ (k 1) 9 anJ), (h4, aJ (k 1) 9 anJ), (h5, aJ (k 1) 9 anJ)] s.heap := hT
  have lp94_4 : ∀ (n : Nat) (y3 : Int32) (H : Heap) (locs : List Loc) (ls : Array Slot), (0 ≤ y3.toInt ∧ y3.toInt ≤ 3) → (1 ≤ h0f1.toInt ∧ h0f1.toInt ≤ 3) → (0 ≤ x1.toInt ∧ x1.toInt ≤ 3) → (h0f0.toInt + (-1) * y3.toInt + 1).toNat < n → TP D A [(h5, aJ (k 1) 9 anJ), (h4, aJ (k 1) 9 anJ), (h1, aI (k 0) 36 anI), (h0, ob 8 [.int h0f0, .int h0f1, .int h0f2, .int h0f3, .int h0f4, .int h0f5, .ref h1, .ref h2, .int h0f8, .int h0f9, .ref h3, .ref h4, .ref h5, .ref h6, .ref h7, .ref h8, .ref h9, .int h0f17, .int h0f18, .int h0f19, .ref h10, .ref h11, .ref h12, .ref h13, .int h0f24, .int h0f25, .ref h14, .ref h15, .ref h16, .ref h17, .int h0f30, .int h0f31, .ref h18, .ref h19, .ref h20, .ref h21]), (h3, aJ (k 1) 9 anJ)] H → va_S A s.heap H locs → lv_has ls 10 [(0, .ref h0), (1, .int x1), (4, .int y3)] → W p l e Rm_cX11_made_6c9d1 s m args below meth c H locs 0 0 Q (F0 m 94 ls []) := by
    intro n
    induction n with
    | zero => intro y3 H locs ls b_y3 b_h0f1 b_x1 hm hT hS hl; exact absurd hm (Nat.not_lt_zero _)
    | succ n ih =>
      intro y3 H locs ls b_y3 b_h0f1 b_x1 hm hT hS hl
      have ih94_4 := ih
      clear ih
      refine lv_iload hx hb dX11_made_94 (lv_at hl 2 rfl) ?_
      refine lv_aload_n hx hb dX11_made_96 rfl (lv_at hl 0 rfl) ?_
      refine tz_get (ci := 8) (v := .int h0f0) (C := RX11) (F := TX11) (N := 36) hx hb hU iX11 hown hK hT 3 rfl rfl 0 (by decide) w785 (fun _ h9 => h9) rfl dX11_made_97 ?_
      refine lv_icmp_ge (tgt := 231) hx hb dX11_made_100 (by decide) (fun c_5 => ?_) (fun c_5 => ?_)
      · skip
        have c_5 := ni_le c_5 rfl rfl
        refine lv_aload_n hx hb dX11_made_231 rfl (lv_at hl 0 rfl) ?_
        refine lv_aload_n hx hb dX11_made_232 rfl (lv_at hl 0 rfl) ?_
        refine tz_get (ci := 8) (v := .ref h3) (C := RX11) (F := TX11) (N := 36) hx hb hU iX11 hown hK hT 3 rfl rfl 10 (by decide) w795 (fun _ h9 => h9) rfl dX11_made_233 ?_
        refine tcI (Tc := [(h0, ob 8 [.int h0f0, .int h0f1, .int h0f2, .int h0f3, .int h0f4, .int h0f5, .ref h1, .ref h2, .int h0f8, .int h0f9, .ref h3, .ref h4, .ref h5, .ref h6, .ref h7, .ref h8, .ref h9, .int h0f17, .int h0f18, .int h0f19, .ref h10, .ref h11, .ref h12, .ref h13, .int h0f24, .int h0f25, .ref h14, .ref h15, .ref h16, .ref h17, .int h0f30, .int h0f31, .ref h18, .ref h19, .ref h20, .ref h21]), (h3, aJ (k 1) 9 anJ)]) (Tr := [(h5, aJ (k 1) 9 anJ), (h4, aJ (k 1) 9 anJ), (h1, aI (k 0) 36 anI)]) (as := [h0, h3]) (zcV (q0 := 3) (ci := 8) (As := [.ref h3]) (rest := []) (Tc := [(h0, ob 8 [.int h0f0, .int h0f1, .int h0f2, .int h0f3, .int h0f4, .int h0f5, .ref h1, .ref h2, .int h0f8, .int h0f9, .ref h3, .ref h4, .ref h5, .ref h6, .ref h7, .ref h8, .ref h9, .int h0f17, .int h0f18, .int h0f19, .ref h10, .ref h11, .ref h12, .ref h13, .int h0f24, .int h0f25, .ref h14, .ref h15, .ref h16, .ref h17, .int h0f30, .int h0f31, .ref h18, .ref h19, .ref h20, .ref h21]), (h3, aJ (k 1) 9 anJ)]) hx hb hml hown hU hK hT rfl rfl [3, 4] rfl (by decide) (cX11_isSmall_b4580 l D k _ h0 h3 h1 h2 h4 h5 h6 h7 h8 h9 h10 h11 h12 h13 h14 h15 h16 h17 h18 h19 h20 h21 h0f0 h0f1 h0f2 h0f3 h0f4 h0f5 h0f8 h0f9 h0f17 h0f18 h0f19 h0f24 h0f25 h0f30 h0f31 (by omega) (by omega) (by omega) (by omega) (by omega) (by omega) (by omega) (by omega) (by omega) (by omega) (by omega) (by omega) (by omega) (by omega) (by omega)) w956 w953 w955 w36 w72 hdX11_isSmall ⟨rfl, rfl⟩ ⟨Nat.le_of_ble_eq_true rfl, Nat.le_of_ble_eq_true rfl⟩ rfl hl.1 (Nat.le_of_ble_eq_true rfl) dX11_made_236 ⟨Nat.le_of_ble_eq_true rfl, Nat.le_of_ble_eq_true rfl⟩) hT hS hA [3, 4] [0, 1, 2] rfl rfl rfl (by decide) (by decide) (fun r6 H locs hB J hS => ?_)
        obtain ⟨b_r6, hT1⟩ := hB
        have hT := J _ hT1
        have hT : TP D A [(h5, aJ (k 1) 9 anJ), (h4, aJ (k 1) 9 anJ), (h1, aI (k 0) 36 anI), (h0, ob 8 [.int h0f0, .int h0f1, .int h0f2, .int h0f3, .int h0f4, .int h0f5, .ref h1, .ref h2, .int h0f8, .int h0f9, .ref h3, .ref h4, .ref h5, .ref h6, .ref h7, .ref h8, .ref h9, .int h0f17, .int h0f18, .int h0f19, .ref h10, .ref h11, .ref h12, .ref h13, .int h0f24, .int h0f25, .ref h14, .ref h15, .ref h16, .ref h17, .int h0f30, .int h0f31, .ref h18, .ref h19, .ref h20, .ref h21]), (h3, aJ (k 1) 9 anJ)] _ := hT
        refine lv_if_eq (tgt := 249) hx hb dX11_made_239 (by decide) (fun c_7 => ?_) (fun c_7 => ?_)
        · skip
          have c_7 := ni_eq c_7 rfl li_0
          refine lv_bipush (v := (-16)) hx hb dX11_made_249 (by decide) ?_
          exact tz_retI (B := B_cX11_made_6c9d1 D k h0 h1 h3 h4 h5 h2 h6 h7 h8 h9 h10 h11 h12 h13 h14 h15 h16 h17 h18 h19 h20 h21 x1 x2 x3 h0f0 h0f1 h0f2 h0f3 h0f4 h0f5 h0f8 h0f9 h0f17 h0f18 h0f19 h0f24 h0f25 h0f30 h0f31) (v := (-16)) hQ hx hb hr hlocks hS (Nat.le_of_ble_eq_true rfl) (Nat.le_of_ble_eq_true rfl) dX11_made_251 (⟨h0f1, h0f9, h0f30, (by have := li_m16; omega), (by have := li_m16; omega), (by have := li_m16; omega), (by have := li_m16; omega), (by have := li_m16; omega), (by have := li_m16; omega), (hT.sub [3, 2, 4, 1, 0] (by decide) rfl)⟩)
        · skip
          have c_7 := ni_ne c_7 rfl li_0
          refine lv_aload_n hx hb dX11_made_242 rfl (lv_at hl 0 rfl) ?_
          refine tcI (Tc := [(h0, ob 8 [.int h0f0, .int h0f1, .int h0f2, .int h0f3, .int h0f4, .int h0f5, .ref h1, .ref h2, .int h0f8, .int h0f9, .ref h3, .ref h4, .ref h5, .ref h6, .ref h7, .ref h8, .ref h9, .int h0f17, .int h0f18, .int h0f19, .ref h10, .ref h11, .ref h12, .ref h13, .int h0f24, .int h0f25, .ref h14, .ref h15, .ref h16, .ref h17, .int h0f30, .int h0f31, .ref h18, .ref h19, .ref h20, .ref h21]), (h1, aI (k 0) 36 anI), (h3, aJ (k 1) 9 anJ)]) (Tr := [(h5, aJ (k 1) 9 anJ), (h4, aJ (k 1) 9 anJ)]) (as := [h0, h1, h3]) (zcV (q0 := 3) (ci := 8) (As := []) (rest := []) (Tc := [(h0, ob 8 [.int h0f0, .int h0f1, .int h0f2, .int h0f3, .int h0f4, .int h0f5, .ref h1, .ref h2, .int h0f8, .int h0f9, .ref h3, .ref h4, .ref h5, .ref h6, .ref h7, .ref h8, .ref h9, .int h0f17, .int h0f18, .int h0f19, .ref h10, .ref h11, .ref h12, .ref h13, .int h0f24, .int h0f25, .ref h14, .ref h15, .ref h16, .ref h17, .int h0f30, .int h0f31, .ref h18, .ref h19, .ref h20, .ref h21]), (h1, aI (k 0) 36 anI), (h3, aJ (k 1) 9 anJ)]) hx hb hml hown hU hK hT rfl rfl [3, 2, 4] rfl (by decide) (cX11_comes_53948 l D k _ h0 h1 h3 h2 h4 h5 h6 h7 h8 h9 h10 h11 h12 h13 h14 h15 h16 h17 h18 h19 h20 h21 h0f0 h0f1 h0f2 h0f3 h0f4 h0f5 h0f8 h0f9 h0f17 h0f18 h0f19 h0f24 h0f25 h0f30 h0f31 (by omega) (by omega) (by omega) (by omega) (by omega) (by omega) (by omega) (by omega) (by omega) (by omega) (by omega) (by omega) (by omega) (by omega) (by omega)) w927 w924 w926 w30 w72 hdX11_comes ⟨rfl, rfl⟩ ⟨Nat.le_of_ble_eq_true rfl, Nat.le_of_ble_eq_true rfl⟩ rfl hl.1 (Nat.le_of_ble_eq_true rfl) dX11_made_243 ⟨Nat.le_of_ble_eq_true rfl, Nat.le_of_ble_eq_true rfl⟩) hT hS hA [3, 2, 4] [0, 1] rfl rfl rfl (by decide) (by decide) (fun r8 H locs hB J hS => ?_)
          obtain ⟨v9, b_v9, b_r8, hT1⟩ := hB
          have hT := J _ hT1
          have hT : TP D A [(h5, aJ (k 1) 9 anJ), (h4, aJ (k 1) 9 anJ), (h0, ob 8 [.int h0f0, .int v9, .int h0f2, .int h0f3, .int h0f4, .int h0f5, .ref h1, .ref h2, .int h0f8, .int 0, .ref h3, .ref h4, .ref h5, .ref h6, .ref h7, .ref h8, .ref h9, .int h0f17, .int h0f18, .int h0f19, .ref h10, .ref h11, .ref h12, .ref h13, .int h0f24, .int h0f25, .ref h14, .ref h15, .ref h16, .ref h17, .int 0, .int h0f31, .ref h18, .ref h19, .ref h20, .ref h21]), (h1, aI (k 0) 36 anI), (h3, aJ (k 1) 9 anJ)] _ := hT
          refine lv_goto (tgt := 251) hx hb dX11_made_246 (by decide) ?_
          exact tz_retI (B := B_cX11_made_6c9d1 D k h0 h1 h3 h4 h5 h2 h6 h7 h8 h9 h10 h11 h12 h13 h14 h15 h16 h17 h18 h19 h20 h21 x1 x2 x3 h0f0 h0f1 h0f2 h0f3 h0f4 h0f5 h0f8 h0f9 h0f17 h0f18 h0f19 h0f24 h0f25 h0f30 h0f31) (v := r8) hQ hx hb hr hlocks hS (Nat.le_of_ble_eq_true rfl) (Nat.le_of_ble_eq_true rfl) dX11_made_251 (⟨v9, 0, 0, (by have := li_0; omega), (by have := li_0; omega), (by have := li_0; omega), (by have := li_0; omega), (by have := li_0; omega), (by have := li_0; omega), (hT.sub [2, 3, 4, 1, 0] (by decide) rfl)⟩)
      · skip
        have c_5 := ni_nle c_5 rfl rfl
        refine lv_iload_n hx hb dX11_made_103 rfl (lv_at hl 1 rfl) ?_
        refine lv_if_le (tgt := 231) hx hb dX11_made_104 (by decide) (fun c_10 => ?_) (fun c_10 => ?_)
        · skip
          have c_10 := ni_le c_10 rfl li_0
          refine lv_aload_n hx hb dX11_made_231 rfl (lv_at hl 0 rfl) ?_
          refine lv_aload_n hx hb dX11_made_232 rfl (lv_at hl 0 rfl) ?_
          refine tz_get (ci := 8) (v := .ref h3) (C := RX11) (F := TX11) (N := 36) hx hb hU iX11 hown hK hT 3 rfl rfl 10 (by decide) w795 (fun _ h9 => h9) rfl dX11_made_233 ?_
          refine tcI (Tc := [(h0, ob 8 [.int h0f0, .int h0f1, .int h0f2, .int h0f3, .int h0f4, .int h0f5, .ref h1, .ref h2, .int h0f8, .int h0f9, .ref h3, .ref h4, .ref h5, .ref h6, .ref h7, .ref h8, .ref h9, .int h0f17, .int h0f18, .int h0f19, .ref h10, .ref h11, .ref h12, .ref h13, .int h0f24, .int h0f25, .ref h14, .ref h15, .ref h16, .ref h17, .int h0f30, .int h0f31, .ref h18, .ref h19, .ref h20, .ref h21]), (h3, aJ (k 1) 9 anJ)]) (Tr := [(h5, aJ (k 1) 9 anJ), (h4, aJ (k 1) 9 anJ), (h1, aI (k 0) 36 anI)]) (as := [h0, h3]) (zcV (q0 := 3) (ci := 8) (As := [.ref h3]) (rest := []) (Tc := [(h0, ob 8 [.int h0f0, .int h0f1, .int h0f2, .int h0f3, .int h0f4, .int h0f5, .ref h1, .ref h2, .int h0f8, .int h0f9, .ref h3, .ref h4, .ref h5, .ref h6, .ref h7, .ref h8, .ref h9, .int h0f17, .int h0f18, .int h0f19, .ref h10, .ref h11, .ref h12, .ref h13, .int h0f24, .int h0f25, .ref h14, .ref h15, .ref h16, .ref h17, .int h0f30, .int h0f31, .ref h18, .ref h19, .ref h20, .ref h21]), (h3, aJ (k 1) 9 anJ)]) hx hb hml hown hU hK hT rfl rfl [3, 4] rfl (by decide) (cX11_isSmall_b4580 l D k _ h0 h3 h1 h2 h4 h5 h6 h7 h8 h9 h10 h11 h12 h13 h14 h15 h16 h17 h18 h19 h20 h21 h0f0 h0f1 h0f2 h0f3 h0f4 h0f5 h0f8 h0f9 h0f17 h0f18 h0f19 h0f24 h0f25 h0f30 h0f31 (by omega) (by omega) (by omega) (by omega) (by omega) (by omega) (by omega) (by omega) (by omega) (by omega) (by omega) (by omega) (by omega) (by omega) (by omega)) w956 w953 w955 w36 w72 hdX11_isSmall ⟨rfl, rfl⟩ ⟨Nat.le_of_ble_eq_true rfl, Nat.le_of_ble_eq_true rfl⟩ rfl hl.1 (Nat.le_of_ble_eq_true rfl) dX11_made_236 ⟨Nat.le_of_ble_eq_true rfl, Nat.le_of_ble_eq_true rfl⟩) hT hS hA [3, 4] [0, 1, 2] rfl rfl rfl (by decide) (by decide) (fun r11 H locs hB J hS => ?_)
          obtain ⟨b_r11, hT1⟩ := hB
          have hT := J _ hT1
          have hT : TP D A [(h5, aJ (k 1) 9 anJ), (h4, aJ (k 1) 9 anJ), (h1, aI (k 0) 36 anI), (h0, ob 8 [.int h0f0, .int h0f1, .int h0f2, .int h0f3, .int h0f4, .int h0f5, .ref h1, .ref h2, .int h0f8, .int h0f9, .ref h3, .ref h4, .ref h5, .ref h6, .ref h7, .ref h8, .ref h9, .int h0f17, .int h0f18, .int h0f19, .ref h10, .ref h11, .ref h12, .ref h13, .int h0f24, .int h0f25, .ref h14, .ref h15, .ref h16, .ref h17, .int h0f30, .int h0f31, .ref h18, .ref h19, .ref h20, .ref h21]), (h3, aJ (k 1) 9 anJ)] _ := hT
          refine lv_if_eq (tgt := 249) hx hb dX11_made_239 (by decide) (fun c_12 => ?_) (fun c_12 => ?_)
          · skip
            have c_12 := ni_eq c_12 rfl li_0
            refine lv_bipush (v := (-16)) hx hb dX11_made_249 (by decide) ?_
            exact tz_retI (B := B_cX11_made_6c9d1 D k h0 h1 h3 h4 h5 h2 h6 h7 h8 h9 h10 h11 h12 h13 h14 h15 h16 h17 h18 h19 h20 h21 x1 x2 x3 h0f0 h0f1 h0f2 h0f3 h0f4 h0f5 h0f8 h0f9 h0f17 h0f18 h0f19 h0f24 h0f25 h0f30 h0f31) (v := (-16)) hQ hx hb hr hlocks hS (Nat.le_of_ble_eq_true rfl) (Nat.le_of_ble_eq_true rfl) dX11_made_251 (⟨h0f1, h0f9, h0f30, (by have := li_m16; omega), (by have := li_m16; omega), (by have := li_m16; omega), (by have := li_m16; omega), (by have := li_m16; omega), (by have := li_m16; omega), (hT.sub [3, 2, 4, 1, 0] (by decide) rfl)⟩)
          · skip
            have c_12 := ni_ne c_12 rfl li_0
            refine lv_aload_n hx hb dX11_made_242 rfl (lv_at hl 0 rfl) ?_
            refine tcI (Tc := [(h0, ob 8 [.int h0f0, .int h0f1, .int h0f2, .int h0f3, .int h0f4, .int h0f5, .ref h1, .ref h2, .int h0f8, .int h0f9, .ref h3, .ref h4, .ref h5, .ref h6, .ref h7, .ref h8, .ref h9, .int h0f17, .int h0f18, .int h0f19, .ref h10, .ref h11, .ref h12, .ref h13, .int h0f24, .int h0f25, .ref h14, .ref h15, .ref h16, .ref h17, .int h0f30, .int h0f31, .ref h18, .ref h19, .ref h20, .ref h21]), (h1, aI (k 0) 36 anI), (h3, aJ (k 1) 9 anJ)]) (Tr := [(h5, aJ (k 1) 9 anJ), (h4, aJ (k 1) 9 anJ)]) (as := [h0, h1, h3]) (zcV (q0 := 3) (ci := 8) (As := []) (rest := []) (Tc := [(h0, ob 8 [.int h0f0, .int h0f1, .int h0f2, .int h0f3, .int h0f4, .int h0f5, .ref h1, .ref h2, .int h0f8, .int h0f9, .ref h3, .ref h4, .ref h5, .ref h6, .ref h7, .ref h8, .ref h9, .int h0f17, .int h0f18, .int h0f19, .ref h10, .ref h11, .ref h12, .ref h13, .int h0f24, .int h0f25, .ref h14, .ref h15, .ref h16, .ref h17, .int h0f30, .int h0f31, .ref h18, .ref h19, .ref h20, .ref h21]), (h1, aI (k 0) 36 anI), (h3, aJ (k 1) 9 anJ)]) hx hb hml hown hU hK hT rfl rfl [3, 2, 4] rfl (by decide) (cX11_comes_53948 l D k _ h0 h1 h3 h2 h4 h5 h6 h7 h8 h9 h10 h11 h12 h13 h14 h15 h16 h17 h18 h19 h20 h21 h0f0 h0f1 h0f2 h0f3 h0f4 h0f5 h0f8 h0f9 h0f17 h0f18 h0f19 h0f24 h0f25 h0f30 h0f31 (by omega) (by omega) (by omega) (by omega) (by omega) (by omega) (by omega) (by omega) (by omega) (by omega) (by omega) (by omega) (by omega) (by omega) (by omega)) w927 w924 w926 w30 w72 hdX11_comes ⟨rfl, rfl⟩ ⟨Nat.le_of_ble_eq_true rfl, Nat.le_of_ble_eq_true rfl⟩ rfl hl.1 (Nat.le_of_ble_eq_true rfl) dX11_made_243 ⟨Nat.le_of_ble_eq_true rfl, Nat.le_of_ble_eq_true rfl⟩) hT hS hA [3, 2, 4] [0, 1] rfl rfl rfl (by decide) (by decide) (fun r13 H locs hB J hS => ?_)
            obtain ⟨v14, b_v14, b_r13, hT1⟩ := hB
            have hT := J _ hT1
            have hT : TP D A [(h5, aJ (k 1) 9 anJ), (h4, aJ (k 1) 9 anJ), (h0, ob 8 [.int h0f0, .int v14, .int h0f2, .int h0f3, .int h0f4, .int h0f5, .ref h1, .ref h2, .int h0f8, .int 0, .ref h3, .ref h4, .ref h5, .ref h6, .ref h7, .ref h8, .ref h9, .int h0f17, .int h0f18, .int h0f19, .ref h10, .ref h11, .ref h12, .ref h13, .int h0f24, .int h0f25, .ref h14, .ref h15, .ref h16, .ref h17, .int 0, .int h0f31, .ref h18, .ref h19, .ref h20, .ref h21]), (h1, aI (k 0) 36 anI), (h3, aJ (k 1) 9 anJ)] _ := hT
            refine lv_goto (tgt := 251) hx hb dX11_made_246 (by decide) ?_
            exact tz_retI (B := B_cX11_made_6c9d1 D k h0 h1 h3 h4 h5 h2 h6 h7 h8 h9 h10 h11 h12 h13 h14 h15 h16 h17 h18 h19 h20 h21 x1 x2 x3 h0f0 h0f1 h0f2 h0f3 h0f4 h0f5 h0f8 h0f9 h0f17 h0f18 h0f19 h0f24 h0f25 h0f30 h0f31) (v := r13) hQ hx hb hr hlocks hS (Nat.le_of_ble_eq_true rfl) (Nat.le_of_ble_eq_true rfl) dX11_made_251 (⟨v14, 0, 0, (by have := li_0; omega), (by have := li_0; omega), (by have := li_0; omega), (by have := li_0; omega), (by have := li_0; omega), (by have := li_0; omega), (hT.sub [2, 3, 4, 1, 0] (by decide) rfl)⟩)
        · skip
          have c_10 := ni_nle c_10 rfl li_0
          refine lv_iconst (v := 0) hx hb dX11_made_107 (by decide) ?_
          refine lv_istore (lv' := [(5, .int 0), (0, .ref h0), (1, .int x1), (4, .int y3)]) hx hb dX11_made_108 hl (by decide) rfl (fun ls hl => ?_)
          have lp110_18 : ∀ (n : Nat) (y17 : Int32) (H : Heap) (locs : List Loc) (ls : Array Slot), (0 ≤ y17.toInt ∧ y17.toInt ≤ 3) → (h0f0.toInt + (-1) * y17.toInt + 1).toNat < n → TP D A [(h5, aJ (k 1) 9 anJ), (h4, aJ (k 1) 9 anJ), (h1, aI (k 0) 36 anI), (h0, ob 8 [.int h0f0, .int h0f1, .int h0f2, .int h0f3, .int h0f4, .int h0f5, .ref h1, .ref h2, .int h0f8, .int h0f9, .ref h3, .ref h4, .ref h5, .ref h6, .ref h7, .ref h8, .ref h9, .int h0f17, .int h0f18, .int h0f19, .ref h10, .ref h11, .ref h12, .ref h13, .int h0f24, .int h0f25, .ref h14, .ref h15, .ref h16, .ref h17, .int h0f30, .int h0f31, .ref h18, .ref h19, .ref h20, .ref h21]), (h3, aJ (k 1) 9 anJ)] H → va_S A s.heap H locs → lv_has ls 10 [(0, .ref h0), (1, .int x1), (4, .int y3), (5, .int y17)] → W p l e Rm_cX11_made_6c9d1 s m args below meth c H locs 0 0 Q (F0 m 110 ls []) := by
            intro n
            induction n with
            | zero => intro y17 H locs ls b_y17 hm hT hS hl; exact absurd hm (Nat.not_lt_zero _)
            | succ n ih =>
              intro y17 H locs ls b_y17 hm hT hS hl
              have ih110_18 := ih
              clear ih
              refine lv_iload hx hb dX11_made_110 (lv_at hl 3 rfl) ?_
              refine lv_aload_n hx hb dX11_made_112 rfl (lv_at hl 0 rfl) ?_
              refine tz_get (ci := 8) (v := .int h0f0) (C := RX11) (F := TX11) (N := 36) hx hb hU iX11 hown hK hT 3 rfl rfl 0 (by decide) w785 (fun _ h9 => h9) rfl dX11_made_113 ?_
              refine lv_icmp_ge (tgt := 225) hx hb dX11_made_116 (by decide) (fun c_19 => ?_) (fun c_19 => ?_)
              · skip
                have c_19 := ni_le c_19 rfl rfl
                obtain ⟨v20, e_v20⟩ : ∃ x : Int32, x = y3 + Int32.ofInt 1 := ⟨_, rfl⟩
                have f_v20 := e_v20.symm
                have e_v20 : v20.toInt = y3.toInt + 1 := ai_add e_v20 rfl (show (Int32.ofInt 1).toInt = 1 from (by decide +kernel)) (by omega)
                refine lv_iinc (v := v20) (lv' := [(4, .int v20), (0, .ref h0), (1, .int x1), (5, .int y17)]) hx hb dX11_made_225 hl (k := 2) rfl f_v20 (by decide) rfl (fun ls hl => ?_)
                refine lv_goto (tgt := 94) hx hb dX11_made_228 (by decide) ?_
                exact ih94_4 v20 _ _ _ (by omega) (by omega) (by omega)  (by omega) hT hS (lv_sub hl [1, 2, 0] rfl)
              · skip
                have c_19 := ni_nle c_19 rfl rfl
                refine lv_aload_n hx hb dX11_made_119 rfl (lv_at hl 0 rfl) ?_
                refine tz_get (ci := 8) (v := .ref h4) (C := RX11) (F := TX11) (N := 36) hx hb hU iX11 hown hK hT 3 rfl rfl 11 (by decide) w796 (fun _ h9 => h9) rfl dX11_made_120 ?_
                refine lv_iconst (v := 3) hx hb dX11_made_123 (by decide) ?_
                refine lv_iload hx hb dX11_made_124 (lv_at hl 3 rfl) ?_
                refine lv_imul hx hb dX11_made_126 (lv_topi (fun v21 e_v21 => ?_))
                have e_v21 := ai_mul e_v21 li_3 rfl (by omega)
                refine lv_iload hx hb dX11_made_127 (lv_at hl 2 rfl) ?_
                refine lv_iadd hx hb dX11_made_129 (lv_topi (fun v22 e_v22 => ?_))
                have e_v22 := ai_add e_v22 rfl rfl (by omega)
                refine tz_lald hx hb hK hT 1 rfl (by omega) dX11_made_130 (fun v23 e_v23 => ?_)
                clear e_v23
                refine lv_lstore (lv' := [(6, .long v23), (0, .ref h0), (1, .int x1), (4, .int y3), (5, .int y17)]) hx hb dX11_made_131 hl (by decide) rfl (fun ls hl => ?_)
                refine lv_iload hx hb dX11_made_133 (lv_at hl 3 rfl) ?_
                refine lv_iload hx hb dX11_made_135 (lv_at hl 4 rfl) ?_
                refine lv_iadd hx hb dX11_made_137 (lv_topi (fun v24 e_v24 => ?_))
                have e_v24 := ai_add e_v24 rfl rfl (by omega)
                refine lv_iconst (v := 2) hx hb dX11_made_138 (by decide) ?_
                refine lv_irem hx hb dX11_made_139 (by decide +kernel) (lv_topi (fun v25 e_v25 => ?_))
                have e_v25 := ai_rem e_v25 rfl li_2 (by omega)
                refine lv_if_ne (tgt := 147) hx hb dX11_made_140 (by decide) (fun c_26 => ?_) (fun c_26 => ?_)
                · skip
                  have c_26 := ni_ne c_26 rfl li_0
                  refine lv_ldc2 hx hb hown (hU _ w944) dX11_made_147 ?_
                  refine lv_aload_n hx hb dX11_made_150 rfl (lv_at hl 1 rfl) ?_
                  refine lv_aload_n hx hb dX11_made_151 rfl (lv_at hl 1 rfl) ?_
                  refine tz_get (ci := 8) (v := .ref h4) (C := RX11) (F := TX11) (N := 36) hx hb hU iX11 hown hK hT 3 rfl rfl 11 (by decide) w796 (fun _ h9 => h9) rfl dX11_made_152 ?_
                  refine lv_iload hx hb dX11_made_155 (lv_at hl 4 rfl) ?_
                  refine lv_iload hx hb dX11_made_157 (lv_at hl 3 rfl) ?_
                  refine tcL (Tc := [(h0, ob 8 [.int h0f0, .int h0f1, .int h0f2, .int h0f3, .int h0f4, .int h0f5, .ref h1, .ref h2, .int h0f8, .int h0f9, .ref h3, .ref h4, .ref h5, .ref h6, .ref h7, .ref h8, .ref h9, .int h0f17, .int h0f18, .int h0f19, .ref h10, .ref h11, .ref h12, .ref h13, .int h0f24, .int h0f25, .ref h14, .ref h15, .ref h16, .ref h17, .int h0f30, .int h0f31, .ref h18, .ref h19, .ref h20, .ref h21]), (h4, aJ (k 1) 9 anJ)]) (Tr := [(h5, aJ (k 1) 9 anJ), (h1, aI (k 0) 36 anI), (h3, aJ (k 1) 9 anJ)]) (as := [h0, h4]) (zcV (q0 := 3) (ci := 8) (As := [.ref h4, .int y17, .int y3]) (rest := [.long (-1)]) (Tc := [(h0, ob 8 [.int h0f0, .int h0f1, .int h0f2, .int h0f3, .int h0f4, .int h0f5, .ref h1, .ref h2, .int h0f8, .int h0f9, .ref h3, .ref h4, .ref h5, .ref h6, .ref h7, .ref h8, .ref h9, .int h0f17, .int h0f18, .int h0f19, .ref h10, .ref h11, .ref h12, .ref h13, .int h0f24, .int h0f25, .ref h14, .ref h15, .ref h16, .ref h17, .int h0f30, .int h0f31, .ref h18, .ref h19, .ref h20, .ref h21]), (h4, aJ (k 1) 9 anJ)]) hx hb hml hown hU hK hT rfl rfl [3, 1] rfl (by decide) (cX11_without_7ab45 l D k _ h0 h4 h1 h2 h3 h5 h6 h7 h8 h9 h10 h11 h12 h13 h14 h15 h16 h17 h18 h19 h20 h21 y17 y3 h0f0 h0f1 h0f2 h0f3 h0f4 h0f5 h0f8 h0f9 h0f17 h0f18 h0f19 h0f24 h0f25 h0f30 h0f31 (by omega) (by omega) (by omega) (by omega) (by omega) (by omega) (by omega) (by omega) (by omega) (by omega) (by omega) (by omega) (by omega) (by omega) (by omega) (by omega) (by omega)) w948 w945 w947 w34 w72 hdX11_without ⟨rfl, rfl⟩ ⟨Nat.le_of_ble_eq_true rfl, Nat.le_of_ble_eq_true rfl⟩ rfl hl.1 (Nat.le_of_ble_eq_true rfl) dX11_made_159 ⟨Nat.le_of_ble_eq_true rfl, Nat.le_of_ble_eq_true rfl⟩) hT hS hA [3, 1] [0, 2, 4] rfl rfl rfl (by decide) (by decide) (fun r27 H locs hB J hS => ?_)
                  have hT1 := hB
                  have hT := J _ hT1
                  have hT : TP D A [(h5, aJ (k 1) 9 anJ), (h1, aI (k 0) 36 anI), (h3, aJ (k 1) 9 anJ), (h0, ob 8 [.int h0f0, .int h0f1, .int h0f2, .int h0f3, .int h0f4, .int h0f5, .ref h1, .ref h2, .int h0f8, .int h0f9, .ref h3, .ref h4, .ref h5, .ref h6, .ref h7, .ref h8, .ref h9, .int h0f17, .int h0f18, .int h0f19, .ref h10, .ref h11, .ref h12, .ref h13, .int h0f24, .int h0f25, .ref h14, .ref h15, .ref h16, .ref h17, .int h0f30, .int h0f31, .ref h18, .ref h19, .ref h20, .ref h21]), (h4, aJ (k 1) 9 anJ)] _ := hT
                  refine lv_lmul hx hb dX11_made_162 (lv_topl (fun v28 e_v28 => ?_))
                  refine lv_aload_n hx hb dX11_made_163 rfl (lv_at hl 1 rfl) ?_
                  refine lv_aload_n hx hb dX11_made_164 rfl (lv_at hl 1 rfl) ?_
                  refine tz_get (ci := 8) (v := .ref h4) (C := RX11) (F := TX11) (N := 36) hx hb hU iX11 hown hK hT 3 rfl rfl 11 (by decide) w796 (fun _ h9 => h9) rfl dX11_made_165 ?_
                  refine tcL (Tc := [(h0, ob 8 [.int h0f0, .int h0f1, .int h0f2, .int h0f3, .int h0f4, .int h0f5, .ref h1, .ref h2, .int h0f8, .int h0f9, .ref h3, .ref h4, .ref h5, .ref h6, .ref h7, .ref h8, .ref h9, .int h0f17, .int h0f18, .int h0f19, .ref h10, .ref h11, .ref h12, .ref h13, .int h0f24, .int h0f25, .ref h14, .ref h15, .ref h16, .ref h17, .int h0f30, .int h0f31, .ref h18, .ref h19, .ref h20, .ref h21]), (h4, aJ (k 1) 9 anJ)]) (Tr := [(h5, aJ (k 1) 9 anJ), (h1, aI (k 0) 36 anI), (h3, aJ (k 1) 9 anJ)]) (as := [h0, h4]) (zcV (q0 := 3) (ci := 8) (As := [.ref h4]) (rest := [.long v28]) (Tc := [(h0, ob 8 [.int h0f0, .int h0f1, .int h0f2, .int h0f3, .int h0f4, .int h0f5, .ref h1, .ref h2, .int h0f8, .int h0f9, .ref h3, .ref h4, .ref h5, .ref h6, .ref h7, .ref h8, .ref h9, .int h0f17, .int h0f18, .int h0f19, .ref h10, .ref h11, .ref h12, .ref h13, .int h0f24, .int h0f25, .ref h14, .ref h15, .ref h16, .ref h17, .int h0f30, .int h0f31, .ref h18, .ref h19, .ref h20, .ref h21]), (h4, aJ (k 1) 9 anJ)]) hx hb hml hown hU hK hT rfl rfl [3, 4] rfl (by decide) (cX11_det_9ae4b l D k _ h0 h4 h1 h2 h3 h5 h6 h7 h8 h9 h10 h11 h12 h13 h14 h15 h16 h17 h18 h19 h20 h21 h0f0 h0f1 h0f2 h0f3 h0f4 h0f5 h0f8 h0f9 h0f17 h0f18 h0f19 h0f24 h0f25 h0f30 h0f31 (by omega) (by omega) (by omega) (by omega) (by omega) (by omega) (by omega) (by omega) (by omega) (by omega) (by omega) (by omega) (by omega) (by omega) (by omega)) w952 w949 w951 w35 w72 hdX11_det ⟨rfl, rfl⟩ ⟨Nat.le_of_ble_eq_true rfl, Nat.le_of_ble_eq_true rfl⟩ rfl hl.1 (Nat.le_of_ble_eq_true rfl) dX11_made_168 ⟨Nat.le_of_ble_eq_true rfl, Nat.le_of_ble_eq_true rfl⟩) hT hS hA [3, 4] [0, 1, 2] rfl rfl rfl (by decide) (by decide) (fun r29 H locs hB J hS => ?_)
                  have hT1 := hB
                  have hT := J _ hT1
                  have hT : TP D A [(h5, aJ (k 1) 9 anJ), (h1, aI (k 0) 36 anI), (h3, aJ (k 1) 9 anJ), (h0, ob 8 [.int h0f0, .int h0f1, .int h0f2, .int h0f3, .int h0f4, .int h0f5, .ref h1, .ref h2, .int h0f8, .int h0f9, .ref h3, .ref h4, .ref h5, .ref h6, .ref h7, .ref h8, .ref h9, .int h0f17, .int h0f18, .int h0f19, .ref h10, .ref h11, .ref h12, .ref h13, .int h0f24, .int h0f25, .ref h14, .ref h15, .ref h16, .ref h17, .int h0f30, .int h0f31, .ref h18, .ref h19, .ref h20, .ref h21]), (h4, aJ (k 1) 9 anJ)] _ := hT
                  refine lv_lmul hx hb dX11_made_171 (lv_topl (fun v30 e_v30 => ?_))
                  refine lv_lstore (lv' := [(8, .long v30), (6, .long v23), (0, .ref h0), (1, .int x1), (4, .int y3), (5, .int y17)]) hx hb dX11_made_172 hl (by decide) rfl (fun ls hl => ?_)
                  refine lv_aload_n hx hb dX11_made_174 rfl (lv_at hl 2 rfl) ?_
                  refine tz_get (ci := 8) (v := .ref h3) (C := RX11) (F := TX11) (N := 36) hx hb hU iX11 hown hK hT 3 rfl rfl 10 (by decide) w795 (fun _ h9 => h9) rfl dX11_made_175 ?_
                  refine lv_iconst (v := 3) hx hb dX11_made_178 (by decide) ?_
                  refine lv_iload hx hb dX11_made_179 (lv_at hl 4 rfl) ?_
                  refine lv_imul hx hb dX11_made_181 (lv_topi (fun v31 e_v31 => ?_))
                  have e_v31 := ai_mul e_v31 li_3 rfl (by omega)
                  refine lv_iload hx hb dX11_made_182 (lv_at hl 5 rfl) ?_
                  refine lv_iadd hx hb dX11_made_184 (lv_topi (fun v32 e_v32 => ?_))
                  have e_v32 := ai_add e_v32 rfl rfl (by omega)
                  refine lv_iload_n hx hb dX11_made_185 rfl (lv_at hl 3 rfl) ?_
                  refine lv_iconst (v := 1) hx hb dX11_made_186 (by decide) ?_
                  refine lv_icmp_ne (tgt := 195) hx hb dX11_made_187 (by decide) (fun c_33 => ?_) (fun c_33 => ?_)
                  · skip
                    have c_33 := ni_ne c_33 rfl li_1
                    refine lv_iload_n hx hb dX11_made_195 rfl (lv_at hl 3 rfl) ?_
                    refine lv_iconst (v := 2) hx hb dX11_made_196 (by decide) ?_
                    refine lv_icmp_ne (tgt := 205) hx hb dX11_made_197 (by decide) (fun c_34 => ?_) (fun c_34 => ?_)
                    · skip
                      have c_34 := ni_ne c_34 rfl li_2
                      refine lv_aload_n hx hb dX11_made_205 rfl (lv_at hl 2 rfl) ?_
                      refine tz_get (ci := 8) (v := .ref h4) (C := RX11) (F := TX11) (N := 36) hx hb hU iX11 hown hK hT 3 rfl rfl 11 (by decide) w796 (fun _ h9 => h9) rfl dX11_made_206 ?_
                      refine lv_iconst (v := 3) hx hb dX11_made_209 (by decide) ?_
                      refine lv_iload hx hb dX11_made_210 (lv_at hl 4 rfl) ?_
                      refine lv_imul hx hb dX11_made_212 (lv_topi (fun v35 e_v35 => ?_))
                      have e_v35 := ai_mul e_v35 li_3 rfl (by omega)
                      refine lv_iload hx hb dX11_made_213 (lv_at hl 5 rfl) ?_
                      refine lv_iadd hx hb dX11_made_215 (lv_topi (fun v36 e_v36 => ?_))
                      have e_v36 := ai_add e_v36 rfl rfl (by omega)
                      refine tz_lald hx hb hK hT 4 rfl (by omega) dX11_made_216 (fun v37 e_v37 => ?_)
                      clear e_v37
                      refine lv_lneg hx hb dX11_made_217 (lv_topl (fun v38 e_v38 => ?_))
                      have e_v38 := al_negz e_v38
                      refine tz_last hx hb hK hT hS 2 rfl (by omega) (fun _ _ => trivial) dX11_made_218 (fun H locs hT hS => ?_)
                      obtain ⟨v39, e_v39⟩ : ∃ x : Int32, x = y17 + Int32.ofInt 1 := ⟨_, rfl⟩
                      have f_v39 := e_v39.symm
                      have e_v39 : v39.toInt = y17.toInt + 1 := ai_add e_v39 rfl (show (Int32.ofInt 1).toInt = 1 from (by decide +kernel)) (by omega)
                      refine lv_iinc (v := v39) (lv' := [(5, .int v39), (8, .long v30), (6, .long v23), (0, .ref h0), (1, .int x1), (4, .int y3)]) hx hb dX11_made_219 hl (k := 5) rfl f_v39 (by decide) rfl (fun ls hl => ?_)
                      refine lv_goto (tgt := 110) hx hb dX11_made_222 (by decide) ?_
                      exact ih110_18 v39 _ _ _ (by omega)  (by omega) (hT.sub [0, 4, 1, 3, 2] (by decide) rfl) hS (lv_sub hl [3, 4, 5, 0] rfl)
                    · skip
                      have c_34 := ni_eq c_34 rfl li_2
                      refine lv_lload hx hb dX11_made_200 (lv_at hl 1 rfl) ?_
                      refine lv_goto (tgt := 218) hx hb dX11_made_202 (by decide) ?_
                      refine tz_last hx hb hK hT hS 2 rfl (by omega) (fun _ _ => trivial) dX11_made_218 (fun H locs hT hS => ?_)
                      obtain ⟨v40, e_v40⟩ : ∃ x : Int32, x = y17 + Int32.ofInt 1 := ⟨_, rfl⟩
                      have f_v40 := e_v40.symm
                      have e_v40 : v40.toInt = y17.toInt + 1 := ai_add e_v40 rfl (show (Int32.ofInt 1).toInt = 1 from (by decide +kernel)) (by omega)
                      refine lv_iinc (v := v40) (lv' := [(5, .int v40), (8, .long v30), (6, .long v23), (0, .ref h0), (1, .int x1), (4, .int y3)]) hx hb dX11_made_219 hl (k := 5) rfl f_v40 (by decide) rfl (fun ls hl => ?_)
                      refine lv_goto (tgt := 110) hx hb dX11_made_222 (by decide) ?_
                      exact ih110_18 v40 _ _ _ (by omega)  (by omega) (hT.sub [0, 4, 1, 3, 2] (by decide) rfl) hS (lv_sub hl [3, 4, 5, 0] rfl)
                  · skip
                    have c_33 := ni_eq c_33 rfl li_1
                    refine lv_lload hx hb dX11_made_190 (lv_at hl 0 rfl) ?_
                    refine lv_goto (tgt := 218) hx hb dX11_made_192 (by decide) ?_
                    refine tz_last hx hb hK hT hS 2 rfl (by omega) (fun _ _ => trivial) dX11_made_218 (fun H locs hT hS => ?_)
                    obtain ⟨v41, e_v41⟩ : ∃ x : Int32, x = y17 + Int32.ofInt 1 := ⟨_, rfl⟩
                    have f_v41 := e_v41.symm
                    have e_v41 : v41.toInt = y17.toInt + 1 := ai_add e_v41 rfl (show (Int32.ofInt 1).toInt = 1 from (by decide +kernel)) (by omega)
                    refine lv_iinc (v := v41) (lv' := [(5, .int v41), (8, .long v30), (6, .long v23), (0, .ref h0), (1, .int x1), (4, .int y3)]) hx hb dX11_made_219 hl (k := 5) rfl f_v41 (by decide) rfl (fun ls hl => ?_)
                    refine lv_goto (tgt := 110) hx hb dX11_made_222 (by decide) ?_
                    exact ih110_18 v41 _ _ _ (by omega)  (by omega) (hT.sub [0, 4, 1, 3, 2] (by decide) rfl) hS (lv_sub hl [3, 4, 5, 0] rfl)
                · skip
                  have c_26 := ni_eq c_26 rfl li_0
                  refine lv_lconst (v := 1) hx hb dX11_made_143 (by decide) ?_
                  refine lv_goto (tgt := 150) hx hb dX11_made_144 (by decide) ?_
                  refine lv_aload_n hx hb dX11_made_150 rfl (lv_at hl 1 rfl) ?_
                  refine lv_aload_n hx hb dX11_made_151 rfl (lv_at hl 1 rfl) ?_
                  refine tz_get (ci := 8) (v := .ref h4) (C := RX11) (F := TX11) (N := 36) hx hb hU iX11 hown hK hT 3 rfl rfl 11 (by decide) w796 (fun _ h9 => h9) rfl dX11_made_152 ?_
                  refine lv_iload hx hb dX11_made_155 (lv_at hl 4 rfl) ?_
                  refine lv_iload hx hb dX11_made_157 (lv_at hl 3 rfl) ?_
                  refine tcL (Tc := [(h0, ob 8 [.int h0f0, .int h0f1, .int h0f2, .int h0f3, .int h0f4, .int h0f5, .ref h1, .ref h2, .int h0f8, .int h0f9, .ref h3, .ref h4, .ref h5, .ref h6, .ref h7, .ref h8, .ref h9, .int h0f17, .int h0f18, .int h0f19, .ref h10, .ref h11, .ref h12, .ref h13, .int h0f24, .int h0f25, .ref h14, .ref h15, .ref h16, .ref h17, .int h0f30, .int h0f31, .ref h18, .ref h19, .ref h20, .ref h21]), (h4, aJ (k 1) 9 anJ)]) (Tr := [(h5, aJ (k 1) 9 anJ), (h1, aI (k 0) 36 anI), (h3, aJ (k 1) 9 anJ)]) (as := [h0, h4]) (zcV (q0 := 3) (ci := 8) (As := [.ref h4, .int y17, .int y3]) (rest := [.long 1]) (Tc := [(h0, ob 8 [.int h0f0, .int h0f1, .int h0f2, .int h0f3, .int h0f4, .int h0f5, .ref h1, .ref h2, .int h0f8, .int h0f9, .ref h3, .ref h4, .ref h5, .ref h6, .ref h7, .ref h8, .ref h9, .int h0f17, .int h0f18, .int h0f19, .ref h10, .ref h11, .ref h12, .ref h13, .int h0f24, .int h0f25, .ref h14, .ref h15, .ref h16, .ref h17, .int h0f30, .int h0f31, .ref h18, .ref h19, .ref h20, .ref h21]), (h4, aJ (k 1) 9 anJ)]) hx hb hml hown hU hK hT rfl rfl [3, 1] rfl (by decide) (cX11_without_7ab45 l D k _ h0 h4 h1 h2 h3 h5 h6 h7 h8 h9 h10 h11 h12 h13 h14 h15 h16 h17 h18 h19 h20 h21 y17 y3 h0f0 h0f1 h0f2 h0f3 h0f4 h0f5 h0f8 h0f9 h0f17 h0f18 h0f19 h0f24 h0f25 h0f30 h0f31 (by omega) (by omega) (by omega) (by omega) (by omega) (by omega) (by omega) (by omega) (by omega) (by omega) (by omega) (by omega) (by omega) (by omega) (by omega) (by omega) (by omega)) w948 w945 w947 w34 w72 hdX11_without ⟨rfl, rfl⟩ ⟨Nat.le_of_ble_eq_true rfl, Nat.le_of_ble_eq_true rfl⟩ rfl hl.1 (Nat.le_of_ble_eq_true rfl) dX11_made_159 ⟨Nat.le_of_ble_eq_true rfl, Nat.le_of_ble_eq_true rfl⟩) hT hS hA [3, 1] [0, 2, 4] rfl rfl rfl (by decide) (by decide) (fun r42 H locs hB J hS => ?_)
                  have hT1 := hB
                  have hT := J _ hT1
                  have hT : TP D A [(h5, aJ (k 1) 9 anJ), (h1, aI (k 0) 36 anI), (h3, aJ (k 1) 9 anJ), (h0, ob 8 [.int h0f0, .int h0f1, .int h0f2, .int h0f3, .int h0f4, .int h0f5, .ref h1, .ref h2, .int h0f8, .int h0f9, .ref h3, .ref h4, .ref h5, .ref h6, .ref h7, .ref h8, .ref h9, .int h0f17, .int h0f18, .int h0f19, .ref h10, .ref h11, .ref h12, .ref h13, .int h0f24, .int h0f25, .ref h14, .ref h15, .ref h16, .ref h17, .int h0f30, .int h0f31, .ref h18, .ref h19, .ref h20, .ref h21]), (h4, aJ (k 1) 9 anJ)] _ := hT
                  refine lv_lmul hx hb dX11_made_162 (lv_topl (fun v43 e_v43 => ?_))
                  refine lv_aload_n hx hb dX11_made_163 rfl (lv_at hl 1 rfl) ?_
                  refine lv_aload_n hx hb dX11_made_164 rfl (lv_at hl 1 rfl) ?_
                  refine tz_get (ci := 8) (v := .ref h4) (C := RX11) (F := TX11) (N := 36) hx hb hU iX11 hown hK hT 3 rfl rfl 11 (by decide) w796 (fun _ h9 => h9) rfl dX11_made_165 ?_
                  refine tcL (Tc := [(h0, ob 8 [.int h0f0, .int h0f1, .int h0f2, .int h0f3, .int h0f4, .int h0f5, .ref h1, .ref h2, .int h0f8, .int h0f9, .ref h3, .ref h4, .ref h5, .ref h6, .ref h7, .ref h8, .ref h9, .int h0f17, .int h0f18, .int h0f19, .ref h10, .ref h11, .ref h12, .ref h13, .int h0f24, .int h0f25, .ref h14, .ref h15, .ref h16, .ref h17, .int h0f30, .int h0f31, .ref h18, .ref h19, .ref h20, .ref h21]), (h4, aJ (k 1) 9 anJ)]) (Tr := [(h5, aJ (k 1) 9 anJ), (h1, aI (k 0) 36 anI), (h3, aJ (k 1) 9 anJ)]) (as := [h0, h4]) (zcV (q0 := 3) (ci := 8) (As := [.ref h4]) (rest := [.long v43]) (Tc := [(h0, ob 8 [.int h0f0, .int h0f1, .int h0f2, .int h0f3, .int h0f4, .int h0f5, .ref h1, .ref h2, .int h0f8, .int h0f9, .ref h3, .ref h4, .ref h5, .ref h6, .ref h7, .ref h8, .ref h9, .int h0f17, .int h0f18, .int h0f19, .ref h10, .ref h11, .ref h12, .ref h13, .int h0f24, .int h0f25, .ref h14, .ref h15, .ref h16, .ref h17, .int h0f30, .int h0f31, .ref h18, .ref h19, .ref h20, .ref h21]), (h4, aJ (k 1) 9 anJ)]) hx hb hml hown hU hK hT rfl rfl [3, 4] rfl (by decide) (cX11_det_9ae4b l D k _ h0 h4 h1 h2 h3 h5 h6 h7 h8 h9 h10 h11 h12 h13 h14 h15 h16 h17 h18 h19 h20 h21 h0f0 h0f1 h0f2 h0f3 h0f4 h0f5 h0f8 h0f9 h0f17 h0f18 h0f19 h0f24 h0f25 h0f30 h0f31 (by omega) (by omega) (by omega) (by omega) (by omega) (by omega) (by omega) (by omega) (by omega) (by omega) (by omega) (by omega) (by omega) (by omega) (by omega)) w952 w949 w951 w35 w72 hdX11_det ⟨rfl, rfl⟩ ⟨Nat.le_of_ble_eq_true rfl, Nat.le_of_ble_eq_true rfl⟩ rfl hl.1 (Nat.le_of_ble_eq_true rfl) dX11_made_168 ⟨Nat.le_of_ble_eq_true rfl, Nat.le_of_ble_eq_true rfl⟩) hT hS hA [3, 4] [0, 1, 2] rfl rfl rfl (by decide) (by decide) (fun r44 H locs hB J hS => ?_)
                  have hT1 := hB
                  have hT := J _ hT1
                  have hT : TP D A [(h5, aJ (k 1) 9 anJ), (h1, aI (k 0) 36 anI), (h3, aJ (k 1) 9 anJ), (h0, ob 8 [.int h0f0, .int h0f1, .int h0f2, .int h0f3, .int h0f4, .int h0f5, .ref h1, .ref h2, .int h0f8, .int h0f9, .ref h3, .ref h4, .ref h5, .ref h6, .ref h7, .ref h8, .ref h9, .int h0f17, .int h0f18, .int h0f19, .ref h10, .ref h11, .ref h12, .ref h13, .int h0f24, .int h0f25, .ref h14, .ref h15, .ref h16, .ref h17, .int h0f30, .int h0f31, .ref h18, .ref h19, .ref h20, .ref h21]), (h4, aJ (k 1) 9 anJ)] _ := hT
                  refine lv_lmul hx hb dX11_made_171 (lv_topl (fun v45 e_v45 => ?_))
                  refine lv_lstore (lv' := [(8, .long v45), (6, .long v23), (0, .ref h0), (1, .int x1), (4, .int y3), (5, .int y17)]) hx hb dX11_made_172 hl (by decide) rfl (fun ls hl => ?_)
                  refine lv_aload_n hx hb dX11_made_174 rfl (lv_at hl 2 rfl) ?_
                  refine tz_get (ci := 8) (v := .ref h3) (C := RX11) (F := TX11) (N := 36) hx hb hU iX11 hown hK hT 3 rfl rfl 10 (by decide) w795 (fun _ h9 => h9) rfl dX11_made_175 ?_
                  refine lv_iconst (v := 3) hx hb dX11_made_178 (by decide) ?_
                  refine lv_iload hx hb dX11_made_179 (lv_at hl 4 rfl) ?_
                  refine lv_imul hx hb dX11_made_181 (lv_topi (fun v46 e_v46 => ?_))
                  have e_v46 := ai_mul e_v46 li_3 rfl (by omega)
                  refine lv_iload hx hb dX11_made_182 (lv_at hl 5 rfl) ?_
                  refine lv_iadd hx hb dX11_made_184 (lv_topi (fun v47 e_v47 => ?_))
                  have e_v47 := ai_add e_v47 rfl rfl (by omega)
                  refine lv_iload_n hx hb dX11_made_185 rfl (lv_at hl 3 rfl) ?_
                  refine lv_iconst (v := 1) hx hb dX11_made_186 (by decide) ?_
                  refine lv_icmp_ne (tgt := 195) hx hb dX11_made_187 (by decide) (fun c_48 => ?_) (fun c_48 => ?_)
                  · skip
                    have c_48 := ni_ne c_48 rfl li_1
                    refine lv_iload_n hx hb dX11_made_195 rfl (lv_at hl 3 rfl) ?_
                    refine lv_iconst (v := 2) hx hb dX11_made_196 (by decide) ?_
                    refine lv_icmp_ne (tgt := 205) hx hb dX11_made_197 (by decide) (fun c_49 => ?_) (fun c_49 => ?_)
                    · skip
                      have c_49 := ni_ne c_49 rfl li_2
                      refine lv_aload_n hx hb dX11_made_205 rfl (lv_at hl 2 rfl) ?_
                      refine tz_get (ci := 8) (v := .ref h4) (C := RX11) (F := TX11) (N := 36) hx hb hU iX11 hown hK hT 3 rfl rfl 11 (by decide) w796 (fun _ h9 => h9) rfl dX11_made_206 ?_
                      refine lv_iconst (v := 3) hx hb dX11_made_209 (by decide) ?_
                      refine lv_iload hx hb dX11_made_210 (lv_at hl 4 rfl) ?_
                      refine lv_imul hx hb dX11_made_212 (lv_topi (fun v50 e_v50 => ?_))
                      have e_v50 := ai_mul e_v50 li_3 rfl (by omega)
                      refine lv_iload hx hb dX11_made_213 (lv_at hl 5 rfl) ?_
                      refine lv_iadd hx hb dX11_made_215 (lv_topi (fun v51 e_v51 => ?_))
                      have e_v51 := ai_add e_v51 rfl rfl (by omega)
                      refine tz_lald hx hb hK hT 4 rfl (by omega) dX11_made_216 (fun v52 e_v52 => ?_)
                      clear e_v52
                      refine lv_lneg hx hb dX11_made_217 (lv_topl (fun v53 e_v53 => ?_))
                      have e_v53 := al_negz e_v53
                      refine tz_last hx hb hK hT hS 2 rfl (by omega) (fun _ _ => trivial) dX11_made_218 (fun H locs hT hS => ?_)
                      obtain ⟨v54, e_v54⟩ : ∃ x : Int32, x = y17 + Int32.ofInt 1 := ⟨_, rfl⟩
                      have f_v54 := e_v54.symm
                      have e_v54 : v54.toInt = y17.toInt + 1 := ai_add e_v54 rfl (show (Int32.ofInt 1).toInt = 1 from (by decide +kernel)) (by omega)
                      refine lv_iinc (v := v54) (lv' := [(5, .int v54), (8, .long v45), (6, .long v23), (0, .ref h0), (1, .int x1), (4, .int y3)]) hx hb dX11_made_219 hl (k := 5) rfl f_v54 (by decide) rfl (fun ls hl => ?_)
                      refine lv_goto (tgt := 110) hx hb dX11_made_222 (by decide) ?_
                      exact ih110_18 v54 _ _ _ (by omega)  (by omega) (hT.sub [0, 4, 1, 3, 2] (by decide) rfl) hS (lv_sub hl [3, 4, 5, 0] rfl)
                    · skip
                      have c_49 := ni_eq c_49 rfl li_2
                      refine lv_lload hx hb dX11_made_200 (lv_at hl 1 rfl) ?_
                      refine lv_goto (tgt := 218) hx hb dX11_made_202 (by decide) ?_
                      refine tz_last hx hb hK hT hS 2 rfl (by omega) (fun _ _ => trivial) dX11_made_218 (fun H locs hT hS => ?_)
                      obtain ⟨v55, e_v55⟩ : ∃ x : Int32, x = y17 + Int32.ofInt 1 := ⟨_, rfl⟩
                      have f_v55 := e_v55.symm
                      have e_v55 : v55.toInt = y17.toInt + 1 := ai_add e_v55 rfl (show (Int32.ofInt 1).toInt = 1 from (by decide +kernel)) (by omega)
                      refine lv_iinc (v := v55) (lv' := [(5, .int v55), (8, .long v45), (6, .long v23), (0, .ref h0), (1, .int x1), (4, .int y3)]) hx hb dX11_made_219 hl (k := 5) rfl f_v55 (by decide) rfl (fun ls hl => ?_)
                      refine lv_goto (tgt := 110) hx hb dX11_made_222 (by decide) ?_
                      exact ih110_18 v55 _ _ _ (by omega)  (by omega) (hT.sub [0, 4, 1, 3, 2] (by decide) rfl) hS (lv_sub hl [3, 4, 5, 0] rfl)
                  · skip
                    have c_48 := ni_eq c_48 rfl li_1
                    refine lv_lload hx hb dX11_made_190 (lv_at hl 0 rfl) ?_
                    refine lv_goto (tgt := 218) hx hb dX11_made_192 (by decide) ?_
                    refine tz_last hx hb hK hT hS 2 rfl (by omega) (fun _ _ => trivial) dX11_made_218 (fun H locs hT hS => ?_)
                    obtain ⟨v56, e_v56⟩ : ∃ x : Int32, x = y17 + Int32.ofInt 1 := ⟨_, rfl⟩
                    have f_v56 := e_v56.symm
                    have e_v56 : v56.toInt = y17.toInt + 1 := ai_add e_v56 rfl (show (Int32.ofInt 1).toInt = 1 from (by decide +kernel)) (by omega)
                    refine lv_iinc (v := v56) (lv' := [(5, .int v56), (8, .long v45), (6, .long v23), (0, .ref h0), (1, .int x1), (4, .int y3)]) hx hb dX11_made_219 hl (k := 5) rfl f_v56 (by decide) rfl (fun ls hl => ?_)
                    refine lv_goto (tgt := 110) hx hb dX11_made_222 (by decide) ?_
                    exact ih110_18 v56 _ _ _ (by omega)  (by omega) (hT.sub [0, 4, 1, 3, 2] (by decide) rfl) hS (lv_sub hl [3, 4, 5, 0] rfl)
          exact lp110_18 ((h0f0.toInt + (-1) * (0 : Int32).toInt + 1).toNat + 1) (0) _ _ _ (by have := li_0; omega)  (Nat.lt_succ_self _) hT hS (lv_sub hl [1, 2, 3, 0] rfl)
  refine lv_iload_n hx hb dX11_made_0 rfl (lv_at hl 1 rfl) ?_
  have tb_x1 := i32b x1
  obtain ⟨v57, e_v57⟩ : ∃ x : Int64, x1.toInt64 = x := ⟨_, rfl⟩
  refine lv_i2l (v := v57) hx hb dX11_made_1 e_v57 ?_
  have e_v57 := ai_i2l e_v57 rfl
  refine lv_lconst (v := 0) hx hb dX11_made_2 (by decide) ?_
  refine lv_ldc2 hx hb hown (hU _ w898) dX11_made_3 ?_
  have q_q59 := ll_0
  have q_q60 := ll_3
  refine tcI (Tc := []) (Tr := [(h0, ob 8 [.int h0f0, .int h0f1, .int h0f2, .int h0f3, .int h0f4, .int h0f5, .ref h1, .ref h2, .int h0f8, .int h0f9, .ref h3, .ref h4, .ref h5, .ref h6, .ref h7, .ref h8, .ref h9, .int h0f17, .int h0f18, .int h0f19, .ref h10, .ref h11, .ref h12, .ref h13, .int h0f24, .int h0f25, .ref h14, .ref h15, .ref h16, .ref h17, .int h0f30, .int h0f31, .ref h18, .ref h19, .ref h20, .ref h21]), (h1, aI (k 0) 36 anI), (h3, aJ (k 1) 9 anJ), (h4, aJ (k 1) 9 anJ), (h5, aJ (k 1) 9 anJ)]) (as := []) (zcS (As := [.long v57, .long 0, .long 3]) (rest := []) (Tc := []) hx hb hml hown hU hK hT [] rfl (by decide) (cX11_in_ca3b9 l D k _ v57 (0) (3) (by have := ll_0; omega) (by have := ll_3; omega)) w901 w899 w900 w72 hdX11_in ⟨rfl, rfl⟩ ⟨Nat.le_of_ble_eq_true rfl, Nat.le_of_ble_eq_true rfl⟩ rfl hl.1 (Nat.le_of_ble_eq_true rfl) dX11_made_6 ⟨Nat.le_of_ble_eq_true rfl, Nat.le_of_ble_eq_true rfl⟩) hT hS hA [] [0, 1, 2, 3, 4] rfl rfl rfl (by decide) (by decide) (fun r58 H locs hB J hS => ?_)
  rcases hB with ⟨rfl, hT1⟩ | ⟨c_61, c_62, rfl, hT1⟩
  · skip
    have hT := J _ hT1
    have hT : TP D A [(h0, ob 8 [.int h0f0, .int h0f1, .int h0f2, .int h0f3, .int h0f4, .int h0f5, .ref h1, .ref h2, .int h0f8, .int h0f9, .ref h3, .ref h4, .ref h5, .ref h6, .ref h7, .ref h8, .ref h9, .int h0f17, .int h0f18, .int h0f19, .ref h10, .ref h11, .ref h12, .ref h13, .int h0f24, .int h0f25, .ref h14, .ref h15, .ref h16, .ref h17, .int h0f30, .int h0f31, .ref h18, .ref h19, .ref h20, .ref h21]), (h1, aI (k 0) 36 anI), (h3, aJ (k 1) 9 anJ), (h4, aJ (k 1) 9 anJ), (h5, aJ (k 1) 9 anJ)] _ := hT
    refine lv_if_eq (tgt := 32) hx hb dX11_made_9 (by decide) (fun _ => ?_) (fun cc => absurd (by decide +kernel) cc)
    refine lv_iconst (v := (-1)) hx hb dX11_made_32 (by decide) ?_
    exact tz_retI (B := B_cX11_made_6c9d1 D k h0 h1 h3 h4 h5 h2 h6 h7 h8 h9 h10 h11 h12 h13 h14 h15 h16 h17 h18 h19 h20 h21 x1 x2 x3 h0f0 h0f1 h0f2 h0f3 h0f4 h0f5 h0f8 h0f9 h0f17 h0f18 h0f19 h0f24 h0f25 h0f30 h0f31) (v := (-1)) hQ hx hb hr hlocks hS (Nat.le_of_ble_eq_true rfl) (Nat.le_of_ble_eq_true rfl) dX11_made_33 (⟨h0f1, h0f9, h0f30, (by have := li_m1; omega), (by have := li_m1; omega), (by have := li_m1; omega), (by have := li_m1; omega), (by have := li_m1; omega), (by have := li_m1; omega), hT⟩)
  · skip
    have hT := J _ hT1
    have hT : TP D A [(h0, ob 8 [.int h0f0, .int h0f1, .int h0f2, .int h0f3, .int h0f4, .int h0f5, .ref h1, .ref h2, .int h0f8, .int h0f9, .ref h3, .ref h4, .ref h5, .ref h6, .ref h7, .ref h8, .ref h9, .int h0f17, .int h0f18, .int h0f19, .ref h10, .ref h11, .ref h12, .ref h13, .int h0f24, .int h0f25, .ref h14, .ref h15, .ref h16, .ref h17, .int h0f30, .int h0f31, .ref h18, .ref h19, .ref h20, .ref h21]), (h1, aI (k 0) 36 anI), (h3, aJ (k 1) 9 anJ), (h4, aJ (k 1) 9 anJ), (h5, aJ (k 1) 9 anJ)] _ := hT
    refine lv_if_eq (tgt := 32) hx hb dX11_made_9 (by decide) (fun cc => absurd cc (by decide +kernel)) (fun _ => ?_)
    refine lv_aload_n hx hb dX11_made_12 rfl (lv_at hl 0 rfl) ?_
    refine lv_iload_n hx hb dX11_made_13 rfl (lv_at hl 2 rfl) ?_
    refine tcI (Tc := [(h0, ob 8 [.int h0f0, .int h0f1, .int h0f2, .int h0f3, .int h0f4, .int h0f5, .ref h1, .ref h2, .int h0f8, .int h0f9, .ref h3, .ref h4, .ref h5, .ref h6, .ref h7, .ref h8, .ref h9, .int h0f17, .int h0f18, .int h0f19, .ref h10, .ref h11, .ref h12, .ref h13, .int h0f24, .int h0f25, .ref h14, .ref h15, .ref h16, .ref h17, .int h0f30, .int h0f31, .ref h18, .ref h19, .ref h20, .ref h21])]) (Tr := [(h1, aI (k 0) 36 anI), (h3, aJ (k 1) 9 anJ), (h4, aJ (k 1) 9 anJ), (h5, aJ (k 1) 9 anJ)]) (as := [h0]) (zcV (q0 := 0) (ci := 8) (As := [.int x2]) (rest := []) (Tc := [(h0, ob 8 [.int h0f0, .int h0f1, .int h0f2, .int h0f3, .int h0f4, .int h0f5, .ref h1, .ref h2, .int h0f8, .int h0f9, .ref h3, .ref h4, .ref h5, .ref h6, .ref h7, .ref h8, .ref h9, .int h0f17, .int h0f18, .int h0f19, .ref h10, .ref h11, .ref h12, .ref h13, .int h0f24, .int h0f25, .ref h14, .ref h15, .ref h16, .ref h17, .int h0f30, .int h0f31, .ref h18, .ref h19, .ref h20, .ref h21])]) hx hb hml hown hU hK hT rfl rfl [0] rfl (by decide) (cX11_isGen_669e6 l D k _ h0 h1 h2 h3 h4 h5 h6 h7 h8 h9 h10 h11 h12 h13 h14 h15 h16 h17 h18 h19 h20 h21 x2 h0f0 h0f1 h0f2 h0f3 h0f4 h0f5 h0f8 h0f9 h0f17 h0f18 h0f19 h0f24 h0f25 h0f30 h0f31 (by omega) (by omega) (by omega) (by omega) (by omega) (by omega) (by omega) (by omega) (by omega) (by omega) (by omega) (by omega) (by omega) (by omega) (by omega)) w935 w932 w934 w31 w72 hdX11_isGen ⟨rfl, rfl⟩ ⟨Nat.le_of_ble_eq_true rfl, Nat.le_of_ble_eq_true rfl⟩ rfl hl.1 (Nat.le_of_ble_eq_true rfl) dX11_made_14 ⟨Nat.le_of_ble_eq_true rfl, Nat.le_of_ble_eq_true rfl⟩) hT hS hA [0] [1, 2, 3, 4] rfl rfl rfl (by decide) (by decide) (fun r63 H locs hB J hS => ?_)
    rcases hB with ⟨rfl, hT1⟩ | ⟨c_64, c_65, c_66, c_67, rfl, hT1⟩
    · skip
      have hT := J _ hT1
      have hT : TP D A [(h1, aI (k 0) 36 anI), (h3, aJ (k 1) 9 anJ), (h4, aJ (k 1) 9 anJ), (h5, aJ (k 1) 9 anJ), (h0, ob 8 [.int h0f0, .int h0f1, .int h0f2, .int h0f3, .int h0f4, .int h0f5, .ref h1, .ref h2, .int h0f8, .int h0f9, .ref h3, .ref h4, .ref h5, .ref h6, .ref h7, .ref h8, .ref h9, .int h0f17, .int h0f18, .int h0f19, .ref h10, .ref h11, .ref h12, .ref h13, .int h0f24, .int h0f25, .ref h14, .ref h15, .ref h16, .ref h17, .int h0f30, .int h0f31, .ref h18, .ref h19, .ref h20, .ref h21])] _ := hT
      refine lv_if_eq (tgt := 32) hx hb dX11_made_17 (by decide) (fun _ => ?_) (fun cc => absurd (by decide +kernel) cc)
      refine lv_iconst (v := (-1)) hx hb dX11_made_32 (by decide) ?_
      exact tz_retI (B := B_cX11_made_6c9d1 D k h0 h1 h3 h4 h5 h2 h6 h7 h8 h9 h10 h11 h12 h13 h14 h15 h16 h17 h18 h19 h20 h21 x1 x2 x3 h0f0 h0f1 h0f2 h0f3 h0f4 h0f5 h0f8 h0f9 h0f17 h0f18 h0f19 h0f24 h0f25 h0f30 h0f31) (v := (-1)) hQ hx hb hr hlocks hS (Nat.le_of_ble_eq_true rfl) (Nat.le_of_ble_eq_true rfl) dX11_made_33 (⟨h0f1, h0f9, h0f30, (by have := li_m1; omega), (by have := li_m1; omega), (by have := li_m1; omega), (by have := li_m1; omega), (by have := li_m1; omega), (by have := li_m1; omega), (hT.sub [4, 0, 1, 2, 3] (by decide) rfl)⟩)
    · skip
      have hT := J _ hT1
      have hT : TP D A [(h1, aI (k 0) 36 anI), (h3, aJ (k 1) 9 anJ), (h4, aJ (k 1) 9 anJ), (h5, aJ (k 1) 9 anJ), (h0, ob 8 [.int h0f0, .int h0f1, .int h0f2, .int h0f3, .int h0f4, .int h0f5, .ref h1, .ref h2, .int h0f8, .int h0f9, .ref h3, .ref h4, .ref h5, .ref h6, .ref h7, .ref h8, .ref h9, .int h0f17, .int h0f18, .int h0f19, .ref h10, .ref h11, .ref h12, .ref h13, .int h0f24, .int h0f25, .ref h14, .ref h15, .ref h16, .ref h17, .int h0f30, .int h0f31, .ref h18, .ref h19, .ref h20, .ref h21])] _ := hT
      refine lv_if_eq (tgt := 32) hx hb dX11_made_17 (by decide) (fun cc => absurd cc (by decide +kernel)) (fun _ => ?_)
      refine lv_iload_n hx hb dX11_made_20 rfl (lv_at hl 1 rfl) ?_
      refine lv_if_ne (tgt := 34) hx hb dX11_made_21 (by decide) (fun c_68 => ?_) (fun c_68 => ?_)
      · skip
        have c_68 := ni_ne c_68 rfl li_0
        refine lv_aload_n hx hb dX11_made_34 rfl (lv_at hl 0 rfl) ?_
        refine tz_get (ci := 8) (v := .int h0f1) (C := RX11) (F := TX11) (N := 36) hx hb hU iX11 hown hK hT 4 rfl rfl 1 (by decide) w786 (fun _ h9 => h9) rfl dX11_made_35 ?_
        refine lv_iconst (v := 4) hx hb dX11_made_38 (by decide) ?_
        refine lv_icmp_ne (tgt := 45) hx hb dX11_made_39 (by decide) (fun c_69 => ?_) (fun c_69 => ?_)
        · skip
          have c_69 := ni_ne c_69 rfl li_4
          refine lv_aload_n hx hb dX11_made_45 rfl (lv_at hl 0 rfl) ?_
          refine lv_iload_n hx hb dX11_made_46 rfl (lv_at hl 2 rfl) ?_
          refine lv_aload_n hx hb dX11_made_47 rfl (lv_at hl 0 rfl) ?_
          refine tz_get (ci := 8) (v := .ref h4) (C := RX11) (F := TX11) (N := 36) hx hb hU iX11 hown hK hT 4 rfl rfl 11 (by decide) w796 (fun _ h9 => h9) rfl dX11_made_48 ?_
          refine tcV (Tc := [(h0, ob 8 [.int h0f0, .int h0f1, .int h0f2, .int h0f3, .int h0f4, .int h0f5, .ref h1, .ref h2, .int h0f8, .int h0f9, .ref h3, .ref h4, .ref h5, .ref h6, .ref h7, .ref h8, .ref h9, .int h0f17, .int h0f18, .int h0f19, .ref h10, .ref h11, .ref h12, .ref h13, .int h0f24, .int h0f25, .ref h14, .ref h15, .ref h16, .ref h17, .int h0f30, .int h0f31, .ref h18, .ref h19, .ref h20, .ref h21]), (h4, aJ (k 1) 9 anJ), (h1, aI (k 0) 36 anI)]) (Tr := [(h3, aJ (k 1) 9 anJ), (h5, aJ (k 1) 9 anJ)]) (as := [h0, h4, h1]) (zcV (q0 := 4) (ci := 8) (As := [.int x2, .ref h4]) (rest := []) (Tc := [(h0, ob 8 [.int h0f0, .int h0f1, .int h0f2, .int h0f3, .int h0f4, .int h0f5, .ref h1, .ref h2, .int h0f8, .int h0f9, .ref h3, .ref h4, .ref h5, .ref h6, .ref h7, .ref h8, .ref h9, .int h0f17, .int h0f18, .int h0f19, .ref h10, .ref h11, .ref h12, .ref h13, .int h0f24, .int h0f25, .ref h14, .ref h15, .ref h16, .ref h17, .int h0f30, .int h0f31, .ref h18, .ref h19, .ref h20, .ref h21]), (h4, aJ (k 1) 9 anJ), (h1, aI (k 0) 36 anI)]) hx hb hml hown hU hK hT rfl rfl [4, 2, 0] rfl (by decide) (cX11_takes_35579 l D k _ h0 h4 h1 h2 h3 h5 h6 h7 h8 h9 h10 h11 h12 h13 h14 h15 h16 h17 h18 h19 h20 h21 x2 h0f0 h0f1 h0f2 h0f3 h0f4 h0f5 h0f8 h0f9 h0f17 h0f18 h0f19 h0f24 h0f25 h0f30 h0f31 (by omega) (by omega) (by omega) (by omega) (by omega) (by omega) (by omega) (by omega) (by omega) (by omega) (by omega) (by omega) (by omega) (by omega) (by omega) (by omega)) w939 w936 w938 w32 w72 hdX11_takes ⟨rfl, rfl⟩ ⟨Nat.le_of_ble_eq_true rfl, Nat.le_of_ble_eq_true rfl⟩ rfl hl.1 (Nat.le_of_ble_eq_true rfl) dX11_made_51 ⟨Nat.le_of_ble_eq_true rfl, Nat.le_of_ble_eq_true rfl⟩) hT hS hA [4, 2, 0] [1, 3] rfl rfl rfl (by decide) (by decide) (fun H locs hB J hS => ?_)
          have hT1 := hB
          have hT := J _ hT1
          have hT : TP D A [(h3, aJ (k 1) 9 anJ), (h5, aJ (k 1) 9 anJ), (h0, ob 8 [.int h0f0, .int h0f1, .int h0f2, .int h0f3, .int h0f4, .int h0f5, .ref h1, .ref h2, .int h0f8, .int h0f9, .ref h3, .ref h4, .ref h5, .ref h6, .ref h7, .ref h8, .ref h9, .int h0f17, .int h0f18, .int h0f19, .ref h10, .ref h11, .ref h12, .ref h13, .int h0f24, .int h0f25, .ref h14, .ref h15, .ref h16, .ref h17, .int h0f30, .int h0f31, .ref h18, .ref h19, .ref h20, .ref h21]), (h4, aJ (k 1) 9 anJ), (h1, aI (k 0) 36 anI)] _ := hT
          refine lv_aload_n hx hb dX11_made_54 rfl (lv_at hl 0 rfl) ?_
          refine lv_aload_n hx hb dX11_made_55 rfl (lv_at hl 0 rfl) ?_
          refine tz_get (ci := 8) (v := .ref h3) (C := RX11) (F := TX11) (N := 36) hx hb hU iX11 hown hK hT 2 rfl rfl 10 (by decide) w795 (fun _ h9 => h9) rfl dX11_made_56 ?_
          refine tcV (Tc := [(h0, ob 8 [.int h0f0, .int h0f1, .int h0f2, .int h0f3, .int h0f4, .int h0f5, .ref h1, .ref h2, .int h0f8, .int h0f9, .ref h3, .ref h4, .ref h5, .ref h6, .ref h7, .ref h8, .ref h9, .int h0f17, .int h0f18, .int h0f19, .ref h10, .ref h11, .ref h12, .ref h13, .int h0f24, .int h0f25, .ref h14, .ref h15, .ref h16, .ref h17, .int h0f30, .int h0f31, .ref h18, .ref h19, .ref h20, .ref h21]), (h3, aJ (k 1) 9 anJ)]) (Tr := [(h5, aJ (k 1) 9 anJ), (h4, aJ (k 1) 9 anJ), (h1, aI (k 0) 36 anI)]) (as := [h0, h3]) (zcV (q0 := 2) (ci := 8) (As := [.ref h3]) (rest := []) (Tc := [(h0, ob 8 [.int h0f0, .int h0f1, .int h0f2, .int h0f3, .int h0f4, .int h0f5, .ref h1, .ref h2, .int h0f8, .int h0f9, .ref h3, .ref h4, .ref h5, .ref h6, .ref h7, .ref h8, .ref h9, .int h0f17, .int h0f18, .int h0f19, .ref h10, .ref h11, .ref h12, .ref h13, .int h0f24, .int h0f25, .ref h14, .ref h15, .ref h16, .ref h17, .int h0f30, .int h0f31, .ref h18, .ref h19, .ref h20, .ref h21]), (h3, aJ (k 1) 9 anJ)]) hx hb hml hown hU hK hT rfl rfl [2, 0] rfl (by decide) (cX11_clears_d395b l D k _ h0 h3 h1 h2 h4 h5 h6 h7 h8 h9 h10 h11 h12 h13 h14 h15 h16 h17 h18 h19 h20 h21 h0f0 h0f1 h0f2 h0f3 h0f4 h0f5 h0f8 h0f9 h0f17 h0f18 h0f19 h0f24 h0f25 h0f30 h0f31 (by omega) (by omega) (by omega) (by omega) (by omega) (by omega) (by omega) (by omega) (by omega) (by omega) (by omega) (by omega) (by omega) (by omega) (by omega)) w923 w920 w922 w29 w72 hdX11_clears ⟨rfl, rfl⟩ ⟨Nat.le_of_ble_eq_true rfl, Nat.le_of_ble_eq_true rfl⟩ rfl hl.1 (Nat.le_of_ble_eq_true rfl) dX11_made_59 ⟨Nat.le_of_ble_eq_true rfl, Nat.le_of_ble_eq_true rfl⟩) hT hS hA [2, 0] [1, 3, 4] rfl rfl rfl (by decide) (by decide) (fun H locs hB J hS => ?_)
          have hT1 := hB
          have hT := J _ hT1
          have hT : TP D A [(h5, aJ (k 1) 9 anJ), (h4, aJ (k 1) 9 anJ), (h1, aI (k 0) 36 anI), (h0, ob 8 [.int h0f0, .int h0f1, .int h0f2, .int h0f3, .int h0f4, .int h0f5, .ref h1, .ref h2, .int h0f8, .int h0f9, .ref h3, .ref h4, .ref h5, .ref h6, .ref h7, .ref h8, .ref h9, .int h0f17, .int h0f18, .int h0f19, .ref h10, .ref h11, .ref h12, .ref h13, .int h0f24, .int h0f25, .ref h14, .ref h15, .ref h16, .ref h17, .int h0f30, .int h0f31, .ref h18, .ref h19, .ref h20, .ref h21]), (h3, aJ (k 1) 9 anJ)] _ := hT
          refine lv_iload_n hx hb dX11_made_62 rfl (lv_at hl 1 rfl) ?_
          refine lv_if_ne (tgt := 91) hx hb dX11_made_63 (by decide) (fun c_72 => ?_) (fun c_72 => ?_)
          · skip
            have c_72 := ni_ne c_72 rfl li_0
            refine lv_iconst (v := 0) hx hb dX11_made_91 (by decide) ?_
            refine lv_istore (lv' := [(4, .int 0), (0, .ref h0), (1, .int x1), (2, .int x2), (3, .int x3)]) hx hb dX11_made_92 hl (by decide) rfl (fun ls hl => ?_)
            exact lp94_4 ((h0f0.toInt + (-1) * (0 : Int32).toInt + 1).toNat + 1) (0) _ _ _ (by have := li_0; omega) (by have := li_0; omega) (by have := li_0; omega)  (Nat.lt_succ_self _) hT hS (lv_sub hl [1, 2, 0] rfl)
          · skip
            have c_72 := ni_eq c_72 rfl li_0
            exfalso; omega
        · skip
          have c_69 := ni_eq c_69 rfl li_4
          refine lv_bipush (v := (-2)) hx hb dX11_made_42 (by decide) ?_
          exact tz_retI (B := B_cX11_made_6c9d1 D k h0 h1 h3 h4 h5 h2 h6 h7 h8 h9 h10 h11 h12 h13 h14 h15 h16 h17 h18 h19 h20 h21 x1 x2 x3 h0f0 h0f1 h0f2 h0f3 h0f4 h0f5 h0f8 h0f9 h0f17 h0f18 h0f19 h0f24 h0f25 h0f30 h0f31) (v := (-2)) hQ hx hb hr hlocks hS (Nat.le_of_ble_eq_true rfl) (Nat.le_of_ble_eq_true rfl) dX11_made_44 (⟨h0f1, h0f9, h0f30, (by have := li_m2; omega), (by have := li_m2; omega), (by have := li_m2; omega), (by have := li_m2; omega), (by have := li_m2; omega), (by have := li_m2; omega), (hT.sub [4, 0, 1, 2, 3] (by decide) rfl)⟩)
      · skip
        have c_68 := ni_eq c_68 rfl li_0
        refine lv_aload_n hx hb dX11_made_24 rfl (lv_at hl 0 rfl) ?_
        refine lv_iload_n hx hb dX11_made_25 rfl (lv_at hl 3 rfl) ?_
        refine tcI (Tc := [(h0, ob 8 [.int h0f0, .int h0f1, .int h0f2, .int h0f3, .int h0f4, .int h0f5, .ref h1, .ref h2, .int h0f8, .int h0f9, .ref h3, .ref h4, .ref h5, .ref h6, .ref h7, .ref h8, .ref h9, .int h0f17, .int h0f18, .int h0f19, .ref h10, .ref h11, .ref h12, .ref h13, .int h0f24, .int h0f25, .ref h14, .ref h15, .ref h16, .ref h17, .int h0f30, .int h0f31, .ref h18, .ref h19, .ref h20, .ref h21])]) (Tr := [(h1, aI (k 0) 36 anI), (h3, aJ (k 1) 9 anJ), (h4, aJ (k 1) 9 anJ), (h5, aJ (k 1) 9 anJ)]) (as := [h0]) (zcV (q0 := 4) (ci := 8) (As := [.int x3]) (rest := []) (Tc := [(h0, ob 8 [.int h0f0, .int h0f1, .int h0f2, .int h0f3, .int h0f4, .int h0f5, .ref h1, .ref h2, .int h0f8, .int h0f9, .ref h3, .ref h4, .ref h5, .ref h6, .ref h7, .ref h8, .ref h9, .int h0f17, .int h0f18, .int h0f19, .ref h10, .ref h11, .ref h12, .ref h13, .int h0f24, .int h0f25, .ref h14, .ref h15, .ref h16, .ref h17, .int h0f30, .int h0f31, .ref h18, .ref h19, .ref h20, .ref h21])]) hx hb hml hown hU hK hT rfl rfl [4] rfl (by decide) (cX11_isGen_669e6 l D k _ h0 h1 h2 h3 h4 h5 h6 h7 h8 h9 h10 h11 h12 h13 h14 h15 h16 h17 h18 h19 h20 h21 x3 h0f0 h0f1 h0f2 h0f3 h0f4 h0f5 h0f8 h0f9 h0f17 h0f18 h0f19 h0f24 h0f25 h0f30 h0f31 (by omega) (by omega) (by omega) (by omega) (by omega) (by omega) (by omega) (by omega) (by omega) (by omega) (by omega) (by omega) (by omega) (by omega) (by omega)) w935 w932 w934 w31 w72 hdX11_isGen ⟨rfl, rfl⟩ ⟨Nat.le_of_ble_eq_true rfl, Nat.le_of_ble_eq_true rfl⟩ rfl hl.1 (Nat.le_of_ble_eq_true rfl) dX11_made_26 ⟨Nat.le_of_ble_eq_true rfl, Nat.le_of_ble_eq_true rfl⟩) hT hS hA [4] [0, 1, 2, 3] rfl rfl rfl (by decide) (by decide) (fun r73 H locs hB J hS => ?_)
        rcases hB with ⟨rfl, hT1⟩ | ⟨c_74, c_75, c_76, c_77, rfl, hT1⟩
        · skip
          have hT := J _ hT1
          have hT : TP D A [(h1, aI (k 0) 36 anI), (h3, aJ (k 1) 9 anJ), (h4, aJ (k 1) 9 anJ), (h5, aJ (k 1) 9 anJ), (h0, ob 8 [.int h0f0, .int h0f1, .int h0f2, .int h0f3, .int h0f4, .int h0f5, .ref h1, .ref h2, .int h0f8, .int h0f9, .ref h3, .ref h4, .ref h5, .ref h6, .ref h7, .ref h8, .ref h9, .int h0f17, .int h0f18, .int h0f19, .ref h10, .ref h11, .ref h12, .ref h13, .int h0f24, .int h0f25, .ref h14, .ref h15, .ref h16, .ref h17, .int h0f30, .int h0f31, .ref h18, .ref h19, .ref h20, .ref h21])] _ := hT
          refine lv_if_ne (tgt := 34) hx hb dX11_made_29 (by decide) (fun cc => absurd (by decide +kernel) cc) (fun _ => ?_)
          refine lv_iconst (v := (-1)) hx hb dX11_made_32 (by decide) ?_
          exact tz_retI (B := B_cX11_made_6c9d1 D k h0 h1 h3 h4 h5 h2 h6 h7 h8 h9 h10 h11 h12 h13 h14 h15 h16 h17 h18 h19 h20 h21 x1 x2 x3 h0f0 h0f1 h0f2 h0f3 h0f4 h0f5 h0f8 h0f9 h0f17 h0f18 h0f19 h0f24 h0f25 h0f30 h0f31) (v := (-1)) hQ hx hb hr hlocks hS (Nat.le_of_ble_eq_true rfl) (Nat.le_of_ble_eq_true rfl) dX11_made_33 (⟨h0f1, h0f9, h0f30, (by have := li_m1; omega), (by have := li_m1; omega), (by have := li_m1; omega), (by have := li_m1; omega), (by have := li_m1; omega), (by have := li_m1; omega), (hT.sub [4, 0, 1, 2, 3] (by decide) rfl)⟩)
        · skip
          have hT := J _ hT1
          have hT : TP D A [(h1, aI (k 0) 36 anI), (h3, aJ (k 1) 9 anJ), (h4, aJ (k 1) 9 anJ), (h5, aJ (k 1) 9 anJ), (h0, ob 8 [.int h0f0, .int h0f1, .int h0f2, .int h0f3, .int h0f4, .int h0f5, .ref h1, .ref h2, .int h0f8, .int h0f9, .ref h3, .ref h4, .ref h5, .ref h6, .ref h7, .ref h8, .ref h9, .int h0f17, .int h0f18, .int h0f19, .ref h10, .ref h11, .ref h12, .ref h13, .int h0f24, .int h0f25, .ref h14, .ref h15, .ref h16, .ref h17, .int h0f30, .int h0f31, .ref h18, .ref h19, .ref h20, .ref h21])] _ := hT
          refine lv_if_ne (tgt := 34) hx hb dX11_made_29 (by decide) (fun _ => ?_) (fun cc => absurd cc (by decide +kernel))
          refine lv_aload_n hx hb dX11_made_34 rfl (lv_at hl 0 rfl) ?_
          refine tz_get (ci := 8) (v := .int h0f1) (C := RX11) (F := TX11) (N := 36) hx hb hU iX11 hown hK hT 4 rfl rfl 1 (by decide) w786 (fun _ h9 => h9) rfl dX11_made_35 ?_
          refine lv_iconst (v := 4) hx hb dX11_made_38 (by decide) ?_
          refine lv_icmp_ne (tgt := 45) hx hb dX11_made_39 (by decide) (fun c_78 => ?_) (fun c_78 => ?_)
          · skip
            have c_78 := ni_ne c_78 rfl li_4
            refine lv_aload_n hx hb dX11_made_45 rfl (lv_at hl 0 rfl) ?_
            refine lv_iload_n hx hb dX11_made_46 rfl (lv_at hl 2 rfl) ?_
            refine lv_aload_n hx hb dX11_made_47 rfl (lv_at hl 0 rfl) ?_
            refine tz_get (ci := 8) (v := .ref h4) (C := RX11) (F := TX11) (N := 36) hx hb hU iX11 hown hK hT 4 rfl rfl 11 (by decide) w796 (fun _ h9 => h9) rfl dX11_made_48 ?_
            refine tcV (Tc := [(h0, ob 8 [.int h0f0, .int h0f1, .int h0f2, .int h0f3, .int h0f4, .int h0f5, .ref h1, .ref h2, .int h0f8, .int h0f9, .ref h3, .ref h4, .ref h5, .ref h6, .ref h7, .ref h8, .ref h9, .int h0f17, .int h0f18, .int h0f19, .ref h10, .ref h11, .ref h12, .ref h13, .int h0f24, .int h0f25, .ref h14, .ref h15, .ref h16, .ref h17, .int h0f30, .int h0f31, .ref h18, .ref h19, .ref h20, .ref h21]), (h4, aJ (k 1) 9 anJ), (h1, aI (k 0) 36 anI)]) (Tr := [(h3, aJ (k 1) 9 anJ), (h5, aJ (k 1) 9 anJ)]) (as := [h0, h4, h1]) (zcV (q0 := 4) (ci := 8) (As := [.int x2, .ref h4]) (rest := []) (Tc := [(h0, ob 8 [.int h0f0, .int h0f1, .int h0f2, .int h0f3, .int h0f4, .int h0f5, .ref h1, .ref h2, .int h0f8, .int h0f9, .ref h3, .ref h4, .ref h5, .ref h6, .ref h7, .ref h8, .ref h9, .int h0f17, .int h0f18, .int h0f19, .ref h10, .ref h11, .ref h12, .ref h13, .int h0f24, .int h0f25, .ref h14, .ref h15, .ref h16, .ref h17, .int h0f30, .int h0f31, .ref h18, .ref h19, .ref h20, .ref h21]), (h4, aJ (k 1) 9 anJ), (h1, aI (k 0) 36 anI)]) hx hb hml hown hU hK hT rfl rfl [4, 2, 0] rfl (by decide) (cX11_takes_35579 l D k _ h0 h4 h1 h2 h3 h5 h6 h7 h8 h9 h10 h11 h12 h13 h14 h15 h16 h17 h18 h19 h20 h21 x2 h0f0 h0f1 h0f2 h0f3 h0f4 h0f5 h0f8 h0f9 h0f17 h0f18 h0f19 h0f24 h0f25 h0f30 h0f31 (by omega) (by omega) (by omega) (by omega) (by omega) (by omega) (by omega) (by omega) (by omega) (by omega) (by omega) (by omega) (by omega) (by omega) (by omega) (by omega)) w939 w936 w938 w32 w72 hdX11_takes ⟨rfl, rfl⟩ ⟨Nat.le_of_ble_eq_true rfl, Nat.le_of_ble_eq_true rfl⟩ rfl hl.1 (Nat.le_of_ble_eq_true rfl) dX11_made_51 ⟨Nat.le_of_ble_eq_true rfl, Nat.le_of_ble_eq_true rfl⟩) hT hS hA [4, 2, 0] [1, 3] rfl rfl rfl (by decide) (by decide) (fun H locs hB J hS => ?_)
            have hT1 := hB
            have hT := J _ hT1
            have hT : TP D A [(h3, aJ (k 1) 9 anJ), (h5, aJ (k 1) 9 anJ), (h0, ob 8 [.int h0f0, .int h0f1, .int h0f2, .int h0f3, .int h0f4, .int h0f5, .ref h1, .ref h2, .int h0f8, .int h0f9, .ref h3, .ref h4, .ref h5, .ref h6, .ref h7, .ref h8, .ref h9, .int h0f17, .int h0f18, .int h0f19, .ref h10, .ref h11, .ref h12, .ref h13, .int h0f24, .int h0f25, .ref h14, .ref h15, .ref h16, .ref h17, .int h0f30, .int h0f31, .ref h18, .ref h19, .ref h20, .ref h21]), (h4, aJ (k 1) 9 anJ), (h1, aI (k 0) 36 anI)] _ := hT
            refine lv_aload_n hx hb dX11_made_54 rfl (lv_at hl 0 rfl) ?_
            refine lv_aload_n hx hb dX11_made_55 rfl (lv_at hl 0 rfl) ?_
            refine tz_get (ci := 8) (v := .ref h3) (C := RX11) (F := TX11) (N := 36) hx hb hU iX11 hown hK hT 2 rfl rfl 10 (by decide) w795 (fun _ h9 => h9) rfl dX11_made_56 ?_
            refine tcV (Tc := [(h0, ob 8 [.int h0f0, .int h0f1, .int h0f2, .int h0f3, .int h0f4, .int h0f5, .ref h1, .ref h2, .int h0f8, .int h0f9, .ref h3, .ref h4, .ref h5, .ref h6, .ref h7, .ref h8, .ref h9, .int h0f17, .int h0f18, .int h0f19, .ref h10, .ref h11, .ref h12, .ref h13, .int h0f24, .int h0f25, .ref h14, .ref h15, .ref h16, .ref h17, .int h0f30, .int h0f31, .ref h18, .ref h19, .ref h20, .ref h21]), (h3, aJ (k 1) 9 anJ)]) (Tr := [(h5, aJ (k 1) 9 anJ), (h4, aJ (k 1) 9 anJ), (h1, aI (k 0) 36 anI)]) (as := [h0, h3]) (zcV (q0 := 2) (ci := 8) (As := [.ref h3]) (rest := []) (Tc := [(h0, ob 8 [.int h0f0, .int h0f1, .int h0f2, .int h0f3, .int h0f4, .int h0f5, .ref h1, .ref h2, .int h0f8, .int h0f9, .ref h3, .ref h4, .ref h5, .ref h6, .ref h7, .ref h8, .ref h9, .int h0f17, .int h0f18, .int h0f19, .ref h10, .ref h11, .ref h12, .ref h13, .int h0f24, .int h0f25, .ref h14, .ref h15, .ref h16, .ref h17, .int h0f30, .int h0f31, .ref h18, .ref h19, .ref h20, .ref h21]), (h3, aJ (k 1) 9 anJ)]) hx hb hml hown hU hK hT rfl rfl [2, 0] rfl (by decide) (cX11_clears_d395b l D k _ h0 h3 h1 h2 h4 h5 h6 h7 h8 h9 h10 h11 h12 h13 h14 h15 h16 h17 h18 h19 h20 h21 h0f0 h0f1 h0f2 h0f3 h0f4 h0f5 h0f8 h0f9 h0f17 h0f18 h0f19 h0f24 h0f25 h0f30 h0f31 (by omega) (by omega) (by omega) (by omega) (by omega) (by omega) (by omega) (by omega) (by omega) (by omega) (by omega) (by omega) (by omega) (by omega) (by omega)) w923 w920 w922 w29 w72 hdX11_clears ⟨rfl, rfl⟩ ⟨Nat.le_of_ble_eq_true rfl, Nat.le_of_ble_eq_true rfl⟩ rfl hl.1 (Nat.le_of_ble_eq_true rfl) dX11_made_59 ⟨Nat.le_of_ble_eq_true rfl, Nat.le_of_ble_eq_true rfl⟩) hT hS hA [2, 0] [1, 3, 4] rfl rfl rfl (by decide) (by decide) (fun H locs hB J hS => ?_)
            have hT1 := hB
            have hT := J _ hT1
            have hT : TP D A [(h5, aJ (k 1) 9 anJ), (h4, aJ (k 1) 9 anJ), (h1, aI (k 0) 36 anI), (h0, ob 8 [.int h0f0, .int h0f1, .int h0f2, .int h0f3, .int h0f4, .int h0f5, .ref h1, .ref h2, .int h0f8, .int h0f9, .ref h3, .ref h4, .ref h5, .ref h6, .ref h7, .ref h8, .ref h9, .int h0f17, .int h0f18, .int h0f19, .ref h10, .ref h11, .ref h12, .ref h13, .int h0f24, .int h0f25, .ref h14, .ref h15, .ref h16, .ref h17, .int h0f30, .int h0f31, .ref h18, .ref h19, .ref h20, .ref h21]), (h3, aJ (k 1) 9 anJ)] _ := hT
            refine lv_iload_n hx hb dX11_made_62 rfl (lv_at hl 1 rfl) ?_
            refine lv_if_ne (tgt := 91) hx hb dX11_made_63 (by decide) (fun c_81 => ?_) (fun c_81 => ?_)
            · skip
              have c_81 := ni_ne c_81 rfl li_0
              exfalso; omega
            · skip
              have c_81 := ni_eq c_81 rfl li_0
              refine lv_aload_n hx hb dX11_made_66 rfl (lv_at hl 0 rfl) ?_
              refine lv_iload_n hx hb dX11_made_67 rfl (lv_at hl 3 rfl) ?_
              refine lv_aload_n hx hb dX11_made_68 rfl (lv_at hl 0 rfl) ?_
              refine tz_get (ci := 8) (v := .ref h5) (C := RX11) (F := TX11) (N := 36) hx hb hU iX11 hown hK hT 3 rfl rfl 12 (by decide) w797 (fun _ h9 => h9) rfl dX11_made_69 ?_
              refine tcV (Tc := [(h0, ob 8 [.int h0f0, .int h0f1, .int h0f2, .int h0f3, .int h0f4, .int h0f5, .ref h1, .ref h2, .int h0f8, .int h0f9, .ref h3, .ref h4, .ref h5, .ref h6, .ref h7, .ref h8, .ref h9, .int h0f17, .int h0f18, .int h0f19, .ref h10, .ref h11, .ref h12, .ref h13, .int h0f24, .int h0f25, .ref h14, .ref h15, .ref h16, .ref h17, .int h0f30, .int h0f31, .ref h18, .ref h19, .ref h20, .ref h21]), (h5, aJ (k 1) 9 anJ), (h1, aI (k 0) 36 anI)]) (Tr := [(h4, aJ (k 1) 9 anJ), (h3, aJ (k 1) 9 anJ)]) (as := [h0, h5, h1]) (zcV (q0 := 3) (ci := 8) (As := [.int x3, .ref h5]) (rest := []) (Tc := [(h0, ob 8 [.int h0f0, .int h0f1, .int h0f2, .int h0f3, .int h0f4, .int h0f5, .ref h1, .ref h2, .int h0f8, .int h0f9, .ref h3, .ref h4, .ref h5, .ref h6, .ref h7, .ref h8, .ref h9, .int h0f17, .int h0f18, .int h0f19, .ref h10, .ref h11, .ref h12, .ref h13, .int h0f24, .int h0f25, .ref h14, .ref h15, .ref h16, .ref h17, .int h0f30, .int h0f31, .ref h18, .ref h19, .ref h20, .ref h21]), (h5, aJ (k 1) 9 anJ), (h1, aI (k 0) 36 anI)]) hx hb hml hown hU hK hT rfl rfl [3, 0, 2] rfl (by decide) (cX11_takes_479bd l D k _ h0 h5 h1 h2 h3 h4 h6 h7 h8 h9 h10 h11 h12 h13 h14 h15 h16 h17 h18 h19 h20 h21 x3 h0f0 h0f1 h0f2 h0f3 h0f4 h0f5 h0f8 h0f9 h0f17 h0f18 h0f19 h0f24 h0f25 h0f30 h0f31 (by omega) (by omega) (by omega) (by omega) (by omega) (by omega) (by omega) (by omega) (by omega) (by omega) (by omega) (by omega) (by omega) (by omega) (by omega) (by omega)) w939 w936 w938 w32 w72 hdX11_takes ⟨rfl, rfl⟩ ⟨Nat.le_of_ble_eq_true rfl, Nat.le_of_ble_eq_true rfl⟩ rfl hl.1 (Nat.le_of_ble_eq_true rfl) dX11_made_72 ⟨Nat.le_of_ble_eq_true rfl, Nat.le_of_ble_eq_true rfl⟩) hT hS hA [3, 0, 2] [1, 4] rfl rfl rfl (by decide) (by decide) (fun H locs hB J hS => ?_)
              have hT1 := hB
              have hT := J _ hT1
              have hT : TP D A [(h4, aJ (k 1) 9 anJ), (h3, aJ (k 1) 9 anJ), (h0, ob 8 [.int h0f0, .int h0f1, .int h0f2, .int h0f3, .int h0f4, .int h0f5, .ref h1, .ref h2, .int h0f8, .int h0f9, .ref h3, .ref h4, .ref h5, .ref h6, .ref h7, .ref h8, .ref h9, .int h0f17, .int h0f18, .int h0f19, .ref h10, .ref h11, .ref h12, .ref h13, .int h0f24, .int h0f25, .ref h14, .ref h15, .ref h16, .ref h17, .int h0f30, .int h0f31, .ref h18, .ref h19, .ref h20, .ref h21]), (h5, aJ (k 1) 9 anJ), (h1, aI (k 0) 36 anI)] _ := hT
              refine lv_aload_n hx hb dX11_made_75 rfl (lv_at hl 0 rfl) ?_
              refine lv_aload_n hx hb dX11_made_76 rfl (lv_at hl 0 rfl) ?_
              refine tz_get (ci := 8) (v := .ref h4) (C := RX11) (F := TX11) (N := 36) hx hb hU iX11 hown hK hT 2 rfl rfl 11 (by decide) w796 (fun _ h9 => h9) rfl dX11_made_77 ?_
              refine lv_aload_n hx hb dX11_made_80 rfl (lv_at hl 0 rfl) ?_
              refine tz_get (ci := 8) (v := .ref h5) (C := RX11) (F := TX11) (N := 36) hx hb hU iX11 hown hK hT 2 rfl rfl 12 (by decide) w797 (fun _ h9 => h9) rfl dX11_made_81 ?_
              refine lv_aload_n hx hb dX11_made_84 rfl (lv_at hl 0 rfl) ?_
              refine tz_get (ci := 8) (v := .ref h3) (C := RX11) (F := TX11) (N := 36) hx hb hU iX11 hown hK hT 2 rfl rfl 10 (by decide) w795 (fun _ h9 => h9) rfl dX11_made_85 ?_
              refine tcV (Tc := [(h0, ob 8 [.int h0f0, .int h0f1, .int h0f2, .int h0f3, .int h0f4, .int h0f5, .ref h1, .ref h2, .int h0f8, .int h0f9, .ref h3, .ref h4, .ref h5, .ref h6, .ref h7, .ref h8, .ref h9, .int h0f17, .int h0f18, .int h0f19, .ref h10, .ref h11, .ref h12, .ref h13, .int h0f24, .int h0f25, .ref h14, .ref h15, .ref h16, .ref h17, .int h0f30, .int h0f31, .ref h18, .ref h19, .ref h20, .ref h21]), (h4, aJ (k 1) 9 anJ), (h5, aJ (k 1) 9 anJ), (h3, aJ (k 1) 9 anJ)]) (Tr := [(h1, aI (k 0) 36 anI)]) (as := [h0, h4, h5, h3]) (zcV (q0 := 2) (ci := 8) (As := [.ref h4, .ref h5, .ref h3]) (rest := []) (Tc := [(h0, ob 8 [.int h0f0, .int h0f1, .int h0f2, .int h0f3, .int h0f4, .int h0f5, .ref h1, .ref h2, .int h0f8, .int h0f9, .ref h3, .ref h4, .ref h5, .ref h6, .ref h7, .ref h8, .ref h9, .int h0f17, .int h0f18, .int h0f19, .ref h10, .ref h11, .ref h12, .ref h13, .int h0f24, .int h0f25, .ref h14, .ref h15, .ref h16, .ref h17, .int h0f30, .int h0f31, .ref h18, .ref h19, .ref h20, .ref h21]), (h4, aJ (k 1) 9 anJ), (h5, aJ (k 1) 9 anJ), (h3, aJ (k 1) 9 anJ)]) hx hb hml hown hU hK hT rfl rfl [2, 0, 3, 1] rfl (by decide) (cX11_times_965f2 l D k _ h0 h4 h5 h3 h1 h2 h6 h7 h8 h9 h10 h11 h12 h13 h14 h15 h16 h17 h18 h19 h20 h21 h0f0 h0f1 h0f2 h0f3 h0f4 h0f5 h0f8 h0f9 h0f17 h0f18 h0f19 h0f24 h0f25 h0f30 h0f31 (by omega) (by omega) (by omega) (by omega) (by omega) (by omega) (by omega) (by omega) (by omega) (by omega) (by omega) (by omega) (by omega) (by omega) (by omega)) w943 w940 w942 w33 w72 hdX11_times ⟨rfl, rfl⟩ ⟨Nat.le_of_ble_eq_true rfl, Nat.le_of_ble_eq_true rfl⟩ rfl hl.1 (Nat.le_of_ble_eq_true rfl) dX11_made_88 ⟨Nat.le_of_ble_eq_true rfl, Nat.le_of_ble_eq_true rfl⟩) hT hS hA [2, 0, 3, 1] [4] rfl rfl rfl (by decide) (by decide) (fun H locs hB J hS => ?_)
              have hT1 := hB
              have hT := J _ hT1
              have hT : TP D A [(h1, aI (k 0) 36 anI), (h0, ob 8 [.int h0f0, .int h0f1, .int h0f2, .int h0f3, .int h0f4, .int h0f5, .ref h1, .ref h2, .int h0f8, .int h0f9, .ref h3, .ref h4, .ref h5, .ref h6, .ref h7, .ref h8, .ref h9, .int h0f17, .int h0f18, .int h0f19, .ref h10, .ref h11, .ref h12, .ref h13, .int h0f24, .int h0f25, .ref h14, .ref h15, .ref h16, .ref h17, .int h0f30, .int h0f31, .ref h18, .ref h19, .ref h20, .ref h21]), (h4, aJ (k 1) 9 anJ), (h5, aJ (k 1) 9 anJ), (h3, aJ (k 1) 9 anJ)] _ := hT
              refine lv_iconst (v := 0) hx hb dX11_made_91 (by decide) ?_
              refine lv_istore (lv' := [(4, .int 0), (0, .ref h0), (1, .int x1), (2, .int x2), (3, .int x3)]) hx hb dX11_made_92 hl (by decide) rfl (fun ls hl => ?_)
              exact lp94_4 ((h0f0.toInt + (-1) * (0 : Int32).toInt + 1).toNat + 1) (0) _ _ _ (by have := li_0; omega) (by have := li_0; omega) (by have := li_0; omega)  (Nat.lt_succ_self _) (hT.sub [3, 2, 0, 1, 4] (by decide) rfl) hS (lv_sub hl [1, 2, 0] rfl)
          · skip
            have c_78 := ni_eq c_78 rfl li_4
            refine lv_bipush (v := (-2)) hx hb dX11_made_42 (by decide) ?_
            exact tz_retI (B := B_cX11_made_6c9d1 D k h0 h1 h3 h4 h5 h2 h6 h7 h8 h9 h10 h11 h12 h13 h14 h15 h16 h17 h18 h19 h20 h21 x1 x2 x3 h0f0 h0f1 h0f2 h0f3 h0f4 h0f5 h0f8 h0f9 h0f17 h0f18 h0f19 h0f24 h0f25 h0f30 h0f31) (v := (-2)) hQ hx hb hr hlocks hS (Nat.le_of_ble_eq_true rfl) (Nat.le_of_ble_eq_true rfl) dX11_made_44 (⟨h0f1, h0f9, h0f30, (by have := li_m2; omega), (by have := li_m2; omega), (by have := li_m2; omega), (by have := li_m2; omega), (by have := li_m2; omega), (by have := li_m2; omega), (hT.sub [4, 0, 1, 2, 3] (by decide) rfl)⟩)
abbrev Rm_cX10_drop_fc831 : Room := { frames := 2, cells := 0, slots := 0, locals := 43 }
abbrev B_cX10_drop_fc831 (D : va_G) (k : Nat → ClassId) (h0 h1 h7 h2 h3 h4 h5 h6 h8 h9 h10 h11 h12 h13 : Nat) (h0f2 : Int32) (h0f6 : Int32) (h0f8 : Int32) (h0f11 : Int32) (h1f0 : Int32) (h1f1 : Int32) (h1f2 : Int32) (A : Nat → Prop) (r : Int32) (H : Heap) : Prop := ∃ o0 : Int32, ∃ o1 : Int32, ∃ o2 : Int32, (0 ≤ o0.toInt ∧ o0.toInt ≤ 1) ∧ (0 ≤ o1.toInt ∧ o1.toInt ≤ 1) ∧ (0 ≤ o2.toInt ∧ o2.toInt ≤ 3) ∧ ((-3) ≤ r.toInt ∧ r.toInt ≤ 3) ∧ TP D A [(h0, ob 7 [.ref h1, .ref h2, .int h0f2, .ref h3, .ref h4, .ref h5, .int o0, .ref h6, .int o1, .null, .ref h7, .int h0f11, .ref h8, .ref h9, .ref h10, .ref h11, .ref h12]), (h1, ob 4 [.int h1f0, .int o2, .int h1f2, .ref h13]), (h7, aI (k 0) 8 anI)] H
set_option maxHeartbeats 4000000 in
set_option maxRecDepth 100000 in
theorem cX10_drop_fc831 (l : Launch) (D : va_G) (k : Nat → ClassId) (sz : Nat) (h0 h1 h7 h2 h3 h4 h5 h6 h8 h9 h10 h11 h12 h13 : Nat) (h0f2 : Int32) (h0f6 : Int32) (h0f8 : Int32) (h0f11 : Int32) (h1f0 : Int32) (h1f1 : Int32) (h1f2 : Int32) (b_h0f2 : 0 ≤ h0f2.toInt ∧ h0f2.toInt ≤ 1) (b_h0f6 : 0 ≤ h0f6.toInt ∧ h0f6.toInt ≤ 1) (b_h0f8 : 0 ≤ h0f8.toInt ∧ h0f8.toInt ≤ 1) (b_h0f11 : 0 ≤ h0f11.toInt ∧ h0f11.toInt ≤ 200) (b_h1f0 : 1 ≤ h1f0.toInt ∧ h1f0.toInt ≤ 3) (b_h1f1 : 0 ≤ h1f1.toInt ∧ h1f1.toInt ≤ 4) : Met l yX10_drop (Cond.code yX10_drop cX10_drop 1 (some .int) :: uw) Rm_cX10_drop_fc831 (pT D k sz [.ref h0] [(h0, ob 7 [.ref h1, .ref h2, .int h0f2, .ref h3, .ref h4, .ref h5, .int h0f6, .ref h6, .int h0f8, .null, .ref h7, .int h0f11, .ref h8, .ref h9, .ref h10, .ref h11, .ref h12]), (h1, ob 4 [.int h1f0, .int h1f1, .int h1f2, .ref h13]), (h7, aI (k 0) 8 anI)]) (qI (B_cX10_drop_fc831 D k h0 h1 h7 h2 h3 h4 h5 h6 h8 h9 h10 h11 h12 h13 h0f2 h0f6 h0f8 h0f11 h1f0 h1f1 h1f2 (zA [h0, h1, h7] sz)) (zA [h0, h1, h7] sz)) 0 0 (zA [h0, h1, h7] sz) := by
  refine tz_begin (as := [h0, h1, h7]) (Qc := fun A => qI (B_cX10_drop_fc831 D k h0 h1 h7 h2 h3 h4 h5 h6 h8 h9 h10 h11 h12 h13 h0f2 h0f6 h0f8 h0f11 h1f0 h1f1 h1f2 A) A) (by decide +kernel) rfl (Nat.le_of_ble_eq_true rfl) ?_
  intro p e s m args below meth c ls A Q hx hb hr hml hown hlocks hin hU hK hT hS hA hl hQ
  have hl : lv_has ls 1 [(0, .ref h0)] := hl
  have hT : TP D A [(h0, ob 7 [.ref h1, .ref h2, .int h0f2, .ref h3, .ref h4, .ref h5, .int h0f6, .ref h6, .int h0f8, .null, .ref h7, .int h0f11, .ref h8, .ref h9, .ref h10, .ref h11, .ref h12]), (h1, ob 4 [.int h1f0, .int h1f1, .int h1f2, .ref h13]), (h7, aI (k 0) 8 anI)] s.heap := hT
  refine lv_aload_n hx hb dX10_drop_0 rfl (lv_at hl 0 rfl) ?_
  refine tz_get (ci := 7) (v := .ref h1) (C := RX10) (F := TX10) (N := 17) hx hb hU iX10 hown hK hT 0 rfl rfl 0 (by decide) w249 (fun _ h9 => h9) rfl dX10_drop_1 ?_
  refine tz_get (ci := 4) (v := .int h1f1) (C := RX5) (F := TX5) (N := 4) hx hb hU iX5 hown hK hT 1 rfl rfl 1 (by decide) w97 (fun _ h9 => h9) rfl dX10_drop_4 ?_
  refine lv_if_ne (tgt := 13) hx hb dX10_drop_7 (by decide) (fun c_1 => ?_) (fun c_1 => ?_)
  · skip
    have c_1 := ni_ne c_1 rfl li_0
    refine lv_aload_n hx hb dX10_drop_13 rfl (lv_at hl 0 rfl) ?_
    refine tz_get (ci := 7) (v := .ref h1) (C := RX10) (F := TX10) (N := 17) hx hb hU iX10 hown hK hT 0 rfl rfl 0 (by decide) w249 (fun _ h9 => h9) rfl dX10_drop_14 ?_
    refine lv_dup hx hb dX10_drop_17 rfl ?_
    refine tz_get (ci := 4) (v := .int h1f1) (C := RX5) (F := TX5) (N := 4) hx hb hU iX5 hown hK hT 1 rfl rfl 1 (by decide) w97 (fun _ h9 => h9) rfl dX10_drop_18 ?_
    refine lv_iconst (v := 1) hx hb dX10_drop_21 (by decide) ?_
    refine lv_isub hx hb dX10_drop_22 (lv_topi (fun v2 e_v2 => ?_))
    have e_v2 := ai_sub e_v2 rfl li_1 (by omega)
    refine tz_put (ci := 4) (v := .int v2) (ty := .int) (C := RX5) (F := TX5) (N := 4) hx hb hU iX5 tyX5 tyX5_ok nmX5 hown hK hT hS 1 rfl rfl 1 (by decide) w97 (fun _ h9 => h9) rfl (by decide +kernel) rfl rfl (Nat.le_of_ble_eq_true rfl) dX10_drop_23 (fun H locs hT hS => ?_)
    have hT : TP D A [(h0, ob 7 [.ref h1, .ref h2, .int h0f2, .ref h3, .ref h4, .ref h5, .int h0f6, .ref h6, .int h0f8, .null, .ref h7, .int h0f11, .ref h8, .ref h9, .ref h10, .ref h11, .ref h12]), (h1, ob 4 [.int h1f0, .int v2, .int h1f2, .ref h13]), (h7, aI (k 0) 8 anI)] _ := hT
    refine lv_aload_n hx hb dX10_drop_26 rfl (lv_at hl 0 rfl) ?_
    refine tcV (Tc := [(h0, ob 7 [.ref h1, .ref h2, .int h0f2, .ref h3, .ref h4, .ref h5, .int h0f6, .ref h6, .int h0f8, .null, .ref h7, .int h0f11, .ref h8, .ref h9, .ref h10, .ref h11, .ref h12]), (h7, aI (k 0) 8 anI)]) (Tr := [(h1, ob 4 [.int h1f0, .int v2, .int h1f2, .ref h13])]) (as := [h0, h7]) (zcV (q0 := 0) (ci := 7) (As := []) (rest := []) (Tc := [(h0, ob 7 [.ref h1, .ref h2, .int h0f2, .ref h3, .ref h4, .ref h5, .int h0f6, .ref h6, .int h0f8, .null, .ref h7, .int h0f11, .ref h8, .ref h9, .ref h10, .ref h11, .ref h12]), (h7, aI (k 0) 8 anI)]) hx hb hml hown hU hK hT rfl rfl [0, 2] rfl (by decide) (cX10_forgetWhatCame_0fe65 l D k _ h0 h7 h1 h2 h3 h4 h5 h6 h8 h9 h10 h11 h12 h0f2 h0f6 h0f8 h0f11 (by omega) (by omega) (by omega) (by omega)) w308 w305 w307 w0 w63 hdX10_forgetWhatCame ⟨rfl, rfl⟩ ⟨Nat.le_of_ble_eq_true rfl, Nat.le_of_ble_eq_true rfl⟩ rfl hl.1 (Nat.le_of_ble_eq_true rfl) dX10_drop_27 ⟨Nat.le_of_ble_eq_true rfl, Nat.le_of_ble_eq_true rfl⟩) hT hS hA [0, 2] [1] rfl rfl rfl (by decide) (by decide) (fun H locs hB J hS => ?_)
    have hT1 := hB
    have hT := J _ hT1
    have hT : TP D A [(h1, ob 4 [.int h1f0, .int v2, .int h1f2, .ref h13]), (h0, ob 7 [.ref h1, .ref h2, .int h0f2, .ref h3, .ref h4, .ref h5, .int 0, .ref h6, .int 0, .null, .ref h7, .int h0f11, .ref h8, .ref h9, .ref h10, .ref h11, .ref h12]), (h7, aI (k 0) 8 anI)] _ := hT
    refine lv_aload_n hx hb dX10_drop_30 rfl (lv_at hl 0 rfl) ?_
    refine tz_get (ci := 7) (v := .ref h1) (C := RX10) (F := TX10) (N := 17) hx hb hU iX10 hown hK hT 1 rfl rfl 0 (by decide) w249 (fun _ h9 => h9) rfl dX10_drop_31 ?_
    refine tz_get (ci := 4) (v := .int v2) (C := RX5) (F := TX5) (N := 4) hx hb hU iX5 hown hK hT 0 rfl rfl 1 (by decide) w97 (fun _ h9 => h9) rfl dX10_drop_34 ?_
    exact tz_retI (B := B_cX10_drop_fc831 D k h0 h1 h7 h2 h3 h4 h5 h6 h8 h9 h10 h11 h12 h13 h0f2 h0f6 h0f8 h0f11 h1f0 h1f1 h1f2) (v := v2) hQ hx hb hr hlocks hS (Nat.le_of_ble_eq_true rfl) (Nat.le_of_ble_eq_true rfl) dX10_drop_37 (⟨0, 0, v2, (by have := li_0; omega), (by have := li_0; omega), (by have := li_0; omega), (by have := li_0; omega), (hT.sub [1, 0, 2] (by decide) rfl)⟩)
  · skip
    have c_1 := ni_eq c_1 rfl li_0
    refine lv_bipush (v := (-3)) hx hb dX10_drop_10 (by decide) ?_
    exact tz_retI (B := B_cX10_drop_fc831 D k h0 h1 h7 h2 h3 h4 h5 h6 h8 h9 h10 h11 h12 h13 h0f2 h0f6 h0f8 h0f11 h1f0 h1f1 h1f2) (v := (-3)) hQ hx hb hr hlocks hS (Nat.le_of_ble_eq_true rfl) (Nat.le_of_ble_eq_true rfl) dX10_drop_12 (⟨h0f6, h0f8, h1f1, (by have := li_m3; omega), (by have := li_m3; omega), (by have := li_m3; omega), (by have := li_m3; omega), hT⟩)
abbrev Rm_cX10_drop_7092c : Room := { frames := 2, cells := 0, slots := 0, locals := 43 }
abbrev B_cX10_drop_7092c (D : va_G) (k : Nat → ClassId) (h0 h1 h8 h2 h3 h4 h5 h6 h7 h9 h10 h11 h12 h13 h14 : Nat) (h0f2 : Int32) (h0f6 : Int32) (h0f8 : Int32) (h0f11 : Int32) (h1f0 : Int32) (h1f1 : Int32) (h1f2 : Int32) (A : Nat → Prop) (r : Int32) (H : Heap) : Prop := ∃ o0 : Int32, ∃ o1 : Int32, ∃ o2 : Int32, (0 ≤ o0.toInt ∧ o0.toInt ≤ 1) ∧ (0 ≤ o1.toInt ∧ o1.toInt ≤ 1) ∧ (0 ≤ o2.toInt ∧ o2.toInt ≤ 3) ∧ ((-3) ≤ r.toInt ∧ r.toInt ≤ 3) ∧ TP D A [(h0, ob 7 [.ref h1, .ref h2, .int h0f2, .ref h3, .ref h4, .ref h5, .int o0, .ref h6, .int o1, .ref h7, .ref h8, .int h0f11, .ref h9, .ref h10, .ref h11, .ref h12, .ref h13]), (h1, ob 4 [.int h1f0, .int o2, .int h1f2, .ref h14]), (h8, aI (k 0) 8 anI)] H
set_option maxHeartbeats 4000000 in
set_option maxRecDepth 100000 in
theorem cX10_drop_7092c (l : Launch) (D : va_G) (k : Nat → ClassId) (sz : Nat) (h0 h1 h8 h2 h3 h4 h5 h6 h7 h9 h10 h11 h12 h13 h14 : Nat) (h0f2 : Int32) (h0f6 : Int32) (h0f8 : Int32) (h0f11 : Int32) (h1f0 : Int32) (h1f1 : Int32) (h1f2 : Int32) (b_h0f2 : 0 ≤ h0f2.toInt ∧ h0f2.toInt ≤ 1) (b_h0f6 : 0 ≤ h0f6.toInt ∧ h0f6.toInt ≤ 1) (b_h0f8 : 0 ≤ h0f8.toInt ∧ h0f8.toInt ≤ 1) (b_h0f11 : 0 ≤ h0f11.toInt ∧ h0f11.toInt ≤ 200) (b_h1f0 : 1 ≤ h1f0.toInt ∧ h1f0.toInt ≤ 3) (b_h1f1 : 0 ≤ h1f1.toInt ∧ h1f1.toInt ≤ 4) : Met l yX10_drop (Cond.code yX10_drop cX10_drop 1 (some .int) :: uw) Rm_cX10_drop_7092c (pT D k sz [.ref h0] [(h0, ob 7 [.ref h1, .ref h2, .int h0f2, .ref h3, .ref h4, .ref h5, .int h0f6, .ref h6, .int h0f8, .ref h7, .ref h8, .int h0f11, .ref h9, .ref h10, .ref h11, .ref h12, .ref h13]), (h1, ob 4 [.int h1f0, .int h1f1, .int h1f2, .ref h14]), (h8, aI (k 0) 8 anI)]) (qI (B_cX10_drop_7092c D k h0 h1 h8 h2 h3 h4 h5 h6 h7 h9 h10 h11 h12 h13 h14 h0f2 h0f6 h0f8 h0f11 h1f0 h1f1 h1f2 (zA [h0, h1, h8] sz)) (zA [h0, h1, h8] sz)) 0 0 (zA [h0, h1, h8] sz) := by
  refine tz_begin (as := [h0, h1, h8]) (Qc := fun A => qI (B_cX10_drop_7092c D k h0 h1 h8 h2 h3 h4 h5 h6 h7 h9 h10 h11 h12 h13 h14 h0f2 h0f6 h0f8 h0f11 h1f0 h1f1 h1f2 A) A) (by decide +kernel) rfl (Nat.le_of_ble_eq_true rfl) ?_
  intro p e s m args below meth c ls A Q hx hb hr hml hown hlocks hin hU hK hT hS hA hl hQ
  have hl : lv_has ls 1 [(0, .ref h0)] := hl
  have hT : TP D A [(h0, ob 7 [.ref h1, .ref h2, .int h0f2, .ref h3, .ref h4, .ref h5, .int h0f6, .ref h6, .int h0f8, .ref h7, .ref h8, .int h0f11, .ref h9, .ref h10, .ref h11, .ref h12, .ref h13]), (h1, ob 4 [.int h1f0, .int h1f1, .int h1f2, .ref h14]), (h8, aI (k 0) 8 anI)] s.heap := hT
  refine lv_aload_n hx hb dX10_drop_0 rfl (lv_at hl 0 rfl) ?_
  refine tz_get (ci := 7) (v := .ref h1) (C := RX10) (F := TX10) (N := 17) hx hb hU iX10 hown hK hT 0 rfl rfl 0 (by decide) w249 (fun _ h9 => h9) rfl dX10_drop_1 ?_
  refine tz_get (ci := 4) (v := .int h1f1) (C := RX5) (F := TX5) (N := 4) hx hb hU iX5 hown hK hT 1 rfl rfl 1 (by decide) w97 (fun _ h9 => h9) rfl dX10_drop_4 ?_
  refine lv_if_ne (tgt := 13) hx hb dX10_drop_7 (by decide) (fun c_1 => ?_) (fun c_1 => ?_)
  · skip
    have c_1 := ni_ne c_1 rfl li_0
    refine lv_aload_n hx hb dX10_drop_13 rfl (lv_at hl 0 rfl) ?_
    refine tz_get (ci := 7) (v := .ref h1) (C := RX10) (F := TX10) (N := 17) hx hb hU iX10 hown hK hT 0 rfl rfl 0 (by decide) w249 (fun _ h9 => h9) rfl dX10_drop_14 ?_
    refine lv_dup hx hb dX10_drop_17 rfl ?_
    refine tz_get (ci := 4) (v := .int h1f1) (C := RX5) (F := TX5) (N := 4) hx hb hU iX5 hown hK hT 1 rfl rfl 1 (by decide) w97 (fun _ h9 => h9) rfl dX10_drop_18 ?_
    refine lv_iconst (v := 1) hx hb dX10_drop_21 (by decide) ?_
    refine lv_isub hx hb dX10_drop_22 (lv_topi (fun v2 e_v2 => ?_))
    have e_v2 := ai_sub e_v2 rfl li_1 (by omega)
    refine tz_put (ci := 4) (v := .int v2) (ty := .int) (C := RX5) (F := TX5) (N := 4) hx hb hU iX5 tyX5 tyX5_ok nmX5 hown hK hT hS 1 rfl rfl 1 (by decide) w97 (fun _ h9 => h9) rfl (by decide +kernel) rfl rfl (Nat.le_of_ble_eq_true rfl) dX10_drop_23 (fun H locs hT hS => ?_)
    have hT : TP D A [(h0, ob 7 [.ref h1, .ref h2, .int h0f2, .ref h3, .ref h4, .ref h5, .int h0f6, .ref h6, .int h0f8, .ref h7, .ref h8, .int h0f11, .ref h9, .ref h10, .ref h11, .ref h12, .ref h13]), (h1, ob 4 [.int h1f0, .int v2, .int h1f2, .ref h14]), (h8, aI (k 0) 8 anI)] _ := hT
    refine lv_aload_n hx hb dX10_drop_26 rfl (lv_at hl 0 rfl) ?_
    refine tcV (Tc := [(h0, ob 7 [.ref h1, .ref h2, .int h0f2, .ref h3, .ref h4, .ref h5, .int h0f6, .ref h6, .int h0f8, .ref h7, .ref h8, .int h0f11, .ref h9, .ref h10, .ref h11, .ref h12, .ref h13]), (h8, aI (k 0) 8 anI)]) (Tr := [(h1, ob 4 [.int h1f0, .int v2, .int h1f2, .ref h14])]) (as := [h0, h8]) (zcV (q0 := 0) (ci := 7) (As := []) (rest := []) (Tc := [(h0, ob 7 [.ref h1, .ref h2, .int h0f2, .ref h3, .ref h4, .ref h5, .int h0f6, .ref h6, .int h0f8, .ref h7, .ref h8, .int h0f11, .ref h9, .ref h10, .ref h11, .ref h12, .ref h13]), (h8, aI (k 0) 8 anI)]) hx hb hml hown hU hK hT rfl rfl [0, 2] rfl (by decide) (cX10_forgetWhatCame_69e3b l D k _ h0 h8 h1 h2 h3 h4 h5 h6 h7 h9 h10 h11 h12 h13 h0f2 h0f6 h0f8 h0f11 (by omega) (by omega) (by omega) (by omega)) w308 w305 w307 w0 w63 hdX10_forgetWhatCame ⟨rfl, rfl⟩ ⟨Nat.le_of_ble_eq_true rfl, Nat.le_of_ble_eq_true rfl⟩ rfl hl.1 (Nat.le_of_ble_eq_true rfl) dX10_drop_27 ⟨Nat.le_of_ble_eq_true rfl, Nat.le_of_ble_eq_true rfl⟩) hT hS hA [0, 2] [1] rfl rfl rfl (by decide) (by decide) (fun H locs hB J hS => ?_)
    have hT1 := hB
    have hT := J _ hT1
    have hT : TP D A [(h1, ob 4 [.int h1f0, .int v2, .int h1f2, .ref h14]), (h0, ob 7 [.ref h1, .ref h2, .int h0f2, .ref h3, .ref h4, .ref h5, .int 0, .ref h6, .int 0, .ref h7, .ref h8, .int h0f11, .ref h9, .ref h10, .ref h11, .ref h12, .ref h13]), (h8, aI (k 0) 8 anI)] _ := hT
    refine lv_aload_n hx hb dX10_drop_30 rfl (lv_at hl 0 rfl) ?_
    refine tz_get (ci := 7) (v := .ref h1) (C := RX10) (F := TX10) (N := 17) hx hb hU iX10 hown hK hT 1 rfl rfl 0 (by decide) w249 (fun _ h9 => h9) rfl dX10_drop_31 ?_
    refine tz_get (ci := 4) (v := .int v2) (C := RX5) (F := TX5) (N := 4) hx hb hU iX5 hown hK hT 0 rfl rfl 1 (by decide) w97 (fun _ h9 => h9) rfl dX10_drop_34 ?_
    exact tz_retI (B := B_cX10_drop_7092c D k h0 h1 h8 h2 h3 h4 h5 h6 h7 h9 h10 h11 h12 h13 h14 h0f2 h0f6 h0f8 h0f11 h1f0 h1f1 h1f2) (v := v2) hQ hx hb hr hlocks hS (Nat.le_of_ble_eq_true rfl) (Nat.le_of_ble_eq_true rfl) dX10_drop_37 (⟨0, 0, v2, (by have := li_0; omega), (by have := li_0; omega), (by have := li_0; omega), (by have := li_0; omega), (hT.sub [1, 0, 2] (by decide) rfl)⟩)
  · skip
    have c_1 := ni_eq c_1 rfl li_0
    refine lv_bipush (v := (-3)) hx hb dX10_drop_10 (by decide) ?_
    exact tz_retI (B := B_cX10_drop_7092c D k h0 h1 h8 h2 h3 h4 h5 h6 h7 h9 h10 h11 h12 h13 h14 h0f2 h0f6 h0f8 h0f11 h1f0 h1f1 h1f2) (v := (-3)) hQ hx hb hr hlocks hS (Nat.le_of_ble_eq_true rfl) (Nat.le_of_ble_eq_true rfl) dX10_drop_12 (⟨h0f6, h0f8, h1f1, (by have := li_m3; omega), (by have := li_m3; omega), (by have := li_m3; omega), (by have := li_m3; omega), hT⟩)
abbrev Rm_cX11_drop_471a0 : Room := { frames := 0, cells := 0, slots := 0, locals := 0 }
abbrev B_cX11_drop_471a0 (D : va_G) (k : Nat → ClassId) (h0 h1 h2 h3 h4 h5 h6 h7 h8 h9 h10 h11 h12 h13 h14 h15 h16 h17 h18 h19 h20 h21 : Nat) (h0f0 : Int32) (h0f1 : Int32) (h0f2 : Int32) (h0f3 : Int32) (h0f4 : Int32) (h0f5 : Int32) (h0f8 : Int32) (h0f9 : Int32) (h0f17 : Int32) (h0f18 : Int32) (h0f19 : Int32) (h0f24 : Int32) (h0f25 : Int32) (h0f30 : Int32) (h0f31 : Int32) (A : Nat → Prop) (r : Int32) (H : Heap) : Prop := ∃ o0 : Int32, ∃ o1 : Int32, ∃ o2 : Int32, (0 ≤ o0.toInt ∧ o0.toInt ≤ 3) ∧ (0 ≤ o1.toInt ∧ o1.toInt ≤ 1) ∧ (0 ≤ o2.toInt ∧ o2.toInt ≤ 60) ∧ ((-3) ≤ r.toInt ∧ r.toInt ≤ 3) ∧ (o2.toInt = 0 ∨ (o2.toInt = h0f30.toInt ∧ o0.toInt = h0f1.toInt ∧ h0f31.toInt = h0f31.toInt)) ∧ (o1.toInt = 0 ∨ o1.toInt = h0f9.toInt) ∧ TP D A [(h0, ob 8 [.int h0f0, .int o0, .int h0f2, .int h0f3, .int h0f4, .int h0f5, .ref h1, .ref h2, .int h0f8, .int o1, .ref h3, .ref h4, .ref h5, .ref h6, .ref h7, .ref h8, .ref h9, .int h0f17, .int h0f18, .int h0f19, .ref h10, .ref h11, .ref h12, .ref h13, .int h0f24, .int h0f25, .ref h14, .ref h15, .ref h16, .ref h17, .int o2, .int h0f31, .ref h18, .ref h19, .ref h20, .ref h21])] H
set_option maxHeartbeats 4000000 in
set_option maxRecDepth 100000 in
theorem cX11_drop_471a0 (l : Launch) (D : va_G) (k : Nat → ClassId) (sz : Nat) (h0 h1 h2 h3 h4 h5 h6 h7 h8 h9 h10 h11 h12 h13 h14 h15 h16 h17 h18 h19 h20 h21 : Nat) (h0f0 : Int32) (h0f1 : Int32) (h0f2 : Int32) (h0f3 : Int32) (h0f4 : Int32) (h0f5 : Int32) (h0f8 : Int32) (h0f9 : Int32) (h0f17 : Int32) (h0f18 : Int32) (h0f19 : Int32) (h0f24 : Int32) (h0f25 : Int32) (h0f30 : Int32) (h0f31 : Int32) (b_h0f0 : 1 ≤ h0f0.toInt ∧ h0f0.toInt ≤ 3) (b_h0f1 : 0 ≤ h0f1.toInt ∧ h0f1.toInt ≤ 4) (b_h0f3 : 0 ≤ h0f3.toInt ∧ h0f3.toInt ≤ 3) (b_h0f4 : 0 ≤ h0f4.toInt ∧ h0f4.toInt ≤ 4) (b_h0f8 : 0 ≤ h0f8.toInt ∧ h0f8.toInt ≤ 1) (b_h0f9 : 0 ≤ h0f9.toInt ∧ h0f9.toInt ≤ 1) (b_h0f17 : 0 ≤ h0f17.toInt ∧ h0f17.toInt ≤ 120) (b_h0f18 : 0 ≤ h0f18.toInt ∧ h0f18.toInt ≤ 120) (b_h0f19 : 0 ≤ h0f19.toInt ∧ h0f19.toInt ≤ 4) (b_h0f24 : 0 ≤ h0f24.toInt ∧ h0f24.toInt ≤ 100) (b_h0f25 : 0 ≤ h0f25.toInt ∧ h0f25.toInt ≤ 1) (b_h0f30 : 0 ≤ h0f30.toInt ∧ h0f30.toInt ≤ 60) (b_h0f31 : 0 ≤ h0f31.toInt ∧ h0f31.toInt ≤ 1) (i_0 : h0f8.toInt ≤ h0f3.toInt) (i_1 : h0f9.toInt ≤ h0f24.toInt) : Met l yX11_drop (Cond.code yX11_drop cX11_drop 1 (some .int) :: uw) Rm_cX11_drop_471a0 (pT D k sz [.ref h0] [(h0, ob 8 [.int h0f0, .int h0f1, .int h0f2, .int h0f3, .int h0f4, .int h0f5, .ref h1, .ref h2, .int h0f8, .int h0f9, .ref h3, .ref h4, .ref h5, .ref h6, .ref h7, .ref h8, .ref h9, .int h0f17, .int h0f18, .int h0f19, .ref h10, .ref h11, .ref h12, .ref h13, .int h0f24, .int h0f25, .ref h14, .ref h15, .ref h16, .ref h17, .int h0f30, .int h0f31, .ref h18, .ref h19, .ref h20, .ref h21])]) (qI (B_cX11_drop_471a0 D k h0 h1 h2 h3 h4 h5 h6 h7 h8 h9 h10 h11 h12 h13 h14 h15 h16 h17 h18 h19 h20 h21 h0f0 h0f1 h0f2 h0f3 h0f4 h0f5 h0f8 h0f9 h0f17 h0f18 h0f19 h0f24 h0f25 h0f30 h0f31 (zA [h0] sz)) (zA [h0] sz)) 0 0 (zA [h0] sz) := by
  refine tz_begin (as := [h0]) (Qc := fun A => qI (B_cX11_drop_471a0 D k h0 h1 h2 h3 h4 h5 h6 h7 h8 h9 h10 h11 h12 h13 h14 h15 h16 h17 h18 h19 h20 h21 h0f0 h0f1 h0f2 h0f3 h0f4 h0f5 h0f8 h0f9 h0f17 h0f18 h0f19 h0f24 h0f25 h0f30 h0f31 A) A) (by decide +kernel) rfl (Nat.le_of_ble_eq_true rfl) ?_
  intro p e s m args below meth c ls A Q hx hb hr hml hown hlocks hin hU hK hT hS hA hl hQ
  have hl : lv_has ls 1 [(0, .ref h0)] := hl
  have hT : TP D A [(h0, ob 8 [.int h0f0, .int h0f1, .int h0f2, .int h0f3, .int h0f4, .int h0f5, .ref h1, .ref h2, .int h0f8, .int h0f9, .ref h3, .ref h4, .ref h5, .ref h6, .ref h7, .ref h8, .ref h9, .int h0f17, .int h0f18, .int h0f19, .ref h10, .ref h11, .ref h12, .ref h13, .int h0f24, .int h0f25, .ref h14, .ref h15, .ref h16, .ref h17, .int h0f30, .int h0f31, .ref h18, .ref h19, .ref h20, .ref h21])] s.heap := hT
  refine lv_aload_n hx hb dX11_drop_0 rfl (lv_at hl 0 rfl) ?_
  refine tz_get (ci := 8) (v := .int h0f1) (C := RX11) (F := TX11) (N := 36) hx hb hU iX11 hown hK hT 0 rfl rfl 1 (by decide) w786 (fun _ h9 => h9) rfl dX11_drop_1 ?_
  refine lv_if_ne (tgt := 10) hx hb dX11_drop_4 (by decide) (fun c_1 => ?_) (fun c_1 => ?_)
  · skip
    have c_1 := ni_ne c_1 rfl li_0
    refine lv_aload_n hx hb dX11_drop_10 rfl (lv_at hl 0 rfl) ?_
    refine lv_dup hx hb dX11_drop_11 rfl ?_
    refine tz_get (ci := 8) (v := .int h0f1) (C := RX11) (F := TX11) (N := 36) hx hb hU iX11 hown hK hT 0 rfl rfl 1 (by decide) w786 (fun _ h9 => h9) rfl dX11_drop_12 ?_
    refine lv_iconst (v := 1) hx hb dX11_drop_15 (by decide) ?_
    refine lv_isub hx hb dX11_drop_16 (lv_topi (fun v2 e_v2 => ?_))
    have e_v2 := ai_sub e_v2 rfl li_1 (by omega)
    refine tz_put (ci := 8) (v := .int v2) (ty := .int) (C := RX11) (F := TX11) (N := 36) hx hb hU iX11 tyX11 tyX11_ok nmX11 hown hK hT hS 0 rfl rfl 1 (by decide) w786 (fun _ h9 => h9) rfl (by decide +kernel) rfl rfl (Nat.le_of_ble_eq_true rfl) dX11_drop_17 (fun H locs hT hS => ?_)
    have hT : TP D A [(h0, ob 8 [.int h0f0, .int v2, .int h0f2, .int h0f3, .int h0f4, .int h0f5, .ref h1, .ref h2, .int h0f8, .int h0f9, .ref h3, .ref h4, .ref h5, .ref h6, .ref h7, .ref h8, .ref h9, .int h0f17, .int h0f18, .int h0f19, .ref h10, .ref h11, .ref h12, .ref h13, .int h0f24, .int h0f25, .ref h14, .ref h15, .ref h16, .ref h17, .int h0f30, .int h0f31, .ref h18, .ref h19, .ref h20, .ref h21])] _ := hT
    refine lv_aload_n hx hb dX11_drop_20 rfl (lv_at hl 0 rfl) ?_
    refine lv_iconst (v := 0) hx hb dX11_drop_21 (by decide) ?_
    refine tz_put (ci := 8) (v := .int 0) (ty := .boolean) (C := RX11) (F := TX11) (N := 36) hx hb hU iX11 tyX11 tyX11_ok nmX11 hown hK hT hS 0 rfl rfl 9 (by decide) w794 (fun _ h9 => h9) rfl (by decide +kernel) rfl rfl (Nat.le_of_ble_eq_true rfl) dX11_drop_22 (fun H locs hT hS => ?_)
    have hT : TP D A [(h0, ob 8 [.int h0f0, .int v2, .int h0f2, .int h0f3, .int h0f4, .int h0f5, .ref h1, .ref h2, .int h0f8, .int 0, .ref h3, .ref h4, .ref h5, .ref h6, .ref h7, .ref h8, .ref h9, .int h0f17, .int h0f18, .int h0f19, .ref h10, .ref h11, .ref h12, .ref h13, .int h0f24, .int h0f25, .ref h14, .ref h15, .ref h16, .ref h17, .int h0f30, .int h0f31, .ref h18, .ref h19, .ref h20, .ref h21])] _ := hT
    refine lv_aload_n hx hb dX11_drop_25 rfl (lv_at hl 0 rfl) ?_
    refine lv_iconst (v := 0) hx hb dX11_drop_26 (by decide) ?_
    refine tz_put (ci := 8) (v := .int 0) (ty := .int) (C := RX11) (F := TX11) (N := 36) hx hb hU iX11 tyX11 tyX11_ok nmX11 hown hK hT hS 0 rfl rfl 30 (by decide) w815 (fun _ h9 => h9) rfl (by decide +kernel) rfl rfl (Nat.le_of_ble_eq_true rfl) dX11_drop_27 (fun H locs hT hS => ?_)
    have hT : TP D A [(h0, ob 8 [.int h0f0, .int v2, .int h0f2, .int h0f3, .int h0f4, .int h0f5, .ref h1, .ref h2, .int h0f8, .int 0, .ref h3, .ref h4, .ref h5, .ref h6, .ref h7, .ref h8, .ref h9, .int h0f17, .int h0f18, .int h0f19, .ref h10, .ref h11, .ref h12, .ref h13, .int h0f24, .int h0f25, .ref h14, .ref h15, .ref h16, .ref h17, .int 0, .int h0f31, .ref h18, .ref h19, .ref h20, .ref h21])] _ := hT
    refine lv_aload_n hx hb dX11_drop_30 rfl (lv_at hl 0 rfl) ?_
    refine tz_get (ci := 8) (v := .int v2) (C := RX11) (F := TX11) (N := 36) hx hb hU iX11 hown hK hT 0 rfl rfl 1 (by decide) w786 (fun _ h9 => h9) rfl dX11_drop_31 ?_
    exact tz_retI (B := B_cX11_drop_471a0 D k h0 h1 h2 h3 h4 h5 h6 h7 h8 h9 h10 h11 h12 h13 h14 h15 h16 h17 h18 h19 h20 h21 h0f0 h0f1 h0f2 h0f3 h0f4 h0f5 h0f8 h0f9 h0f17 h0f18 h0f19 h0f24 h0f25 h0f30 h0f31) (v := v2) hQ hx hb hr hlocks hS (Nat.le_of_ble_eq_true rfl) (Nat.le_of_ble_eq_true rfl) dX11_drop_34 (⟨v2, 0, 0, (by have := li_0; omega), (by have := li_0; omega), (by have := li_0; omega), (by have := li_0; omega), (by have := li_0; omega), (by have := li_0; omega), hT⟩)
  · skip
    have c_1 := ni_eq c_1 rfl li_0
    refine lv_bipush (v := (-3)) hx hb dX11_drop_7 (by decide) ?_
    exact tz_retI (B := B_cX11_drop_471a0 D k h0 h1 h2 h3 h4 h5 h6 h7 h8 h9 h10 h11 h12 h13 h14 h15 h16 h17 h18 h19 h20 h21 h0f0 h0f1 h0f2 h0f3 h0f4 h0f5 h0f8 h0f9 h0f17 h0f18 h0f19 h0f24 h0f25 h0f30 h0f31) (v := (-3)) hQ hx hb hr hlocks hS (Nat.le_of_ble_eq_true rfl) (Nat.le_of_ble_eq_true rfl) dX11_drop_9 (⟨h0f1, h0f9, h0f30, (by have := li_m3; omega), (by have := li_m3; omega), (by have := li_m3; omega), (by have := li_m3; omega), (by have := li_m3; omega), (by have := li_m3; omega), hT⟩)
abbrev Rm_cX10_at_086d4 : Room := { frames := 1, cells := 0, slots := 0, locals := 22 }
abbrev B_cX10_at_086d4 (D : va_G) (k : Nat → ClassId) (h0 h1 h13 h2 h3 h4 h5 h6 h7 h8 h9 h10 h11 h12 : Nat) (x1 : Int32) (x2 : Int32) (x3 : Int32) (h0f2 : Int32) (h0f6 : Int32) (h0f8 : Int32) (h0f11 : Int32) (h1f0 : Int32) (h1f1 : Int32) (h1f2 : Int32) (A : Nat → Prop) (r : Int32) (H : Heap) : Prop := TP D A [(h0, ob 7 [.ref h1, .ref h2, .int h0f2, .ref h3, .ref h4, .ref h5, .int h0f6, .ref h6, .int h0f8, .null, .ref h7, .int h0f11, .ref h8, .ref h9, .ref h10, .ref h11, .ref h12]), (h1, ob 4 [.int h1f0, .int h1f1, .int h1f2, .ref h13]), (h13, aJ (k 1) 36 anJ)] H
set_option maxHeartbeats 4000000 in
set_option maxRecDepth 100000 in
theorem cX10_at_086d4 (l : Launch) (D : va_G) (k : Nat → ClassId) (sz : Nat) (h0 h1 h13 h2 h3 h4 h5 h6 h7 h8 h9 h10 h11 h12 : Nat) (x1 : Int32) (x2 : Int32) (x3 : Int32) (h0f2 : Int32) (h0f6 : Int32) (h0f8 : Int32) (h0f11 : Int32) (h1f0 : Int32) (h1f1 : Int32) (h1f2 : Int32) (b_h0f2 : 0 ≤ h0f2.toInt ∧ h0f2.toInt ≤ 1) (b_h0f6 : 0 ≤ h0f6.toInt ∧ h0f6.toInt ≤ 1) (b_h0f8 : 0 ≤ h0f8.toInt ∧ h0f8.toInt ≤ 1) (b_h0f11 : 0 ≤ h0f11.toInt ∧ h0f11.toInt ≤ 200) (b_h1f0 : 1 ≤ h1f0.toInt ∧ h1f0.toInt ≤ 3) (b_h1f1 : 0 ≤ h1f1.toInt ∧ h1f1.toInt ≤ 4) : Met l yX10_at (Cond.code yX10_at cX10_at 4 (some .int) :: uw) Rm_cX10_at_086d4 (pT D k sz [.ref h0, .int x1, .int x2, .int x3] [(h0, ob 7 [.ref h1, .ref h2, .int h0f2, .ref h3, .ref h4, .ref h5, .int h0f6, .ref h6, .int h0f8, .null, .ref h7, .int h0f11, .ref h8, .ref h9, .ref h10, .ref h11, .ref h12]), (h1, ob 4 [.int h1f0, .int h1f1, .int h1f2, .ref h13]), (h13, aJ (k 1) 36 anJ)]) (qI (B_cX10_at_086d4 D k h0 h1 h13 h2 h3 h4 h5 h6 h7 h8 h9 h10 h11 h12 x1 x2 x3 h0f2 h0f6 h0f8 h0f11 h1f0 h1f1 h1f2 (zA [h0, h1, h13] sz)) (zA [h0, h1, h13] sz)) 0 0 (zA [h0, h1, h13] sz) := by
  refine tz_begin (as := [h0, h1, h13]) (Qc := fun A => qI (B_cX10_at_086d4 D k h0 h1 h13 h2 h3 h4 h5 h6 h7 h8 h9 h10 h11 h12 x1 x2 x3 h0f2 h0f6 h0f8 h0f11 h1f0 h1f1 h1f2 A) A) (by decide +kernel) rfl (Nat.le_of_ble_eq_true rfl) ?_
  intro p e s m args below meth c ls A Q hx hb hr hml hown hlocks hin hU hK hT hS hA hl hQ
  have hl : lv_has ls 4 [(0, .ref h0), (1, .int x1), (2, .int x2), (3, .int x3)] := hl
  have hT : TP D A [(h0, ob 7 [.ref h1, .ref h2, .int h0f2, .ref h3, .ref h4, .ref h5, .int h0f6, .ref h6, .int h0f8, .null, .ref h7, .int h0f11, .ref h8, .ref h9, .ref h10, .ref h11, .ref h12]), (h1, ob 4 [.int h1f0, .int h1f1, .int h1f2, .ref h13]), (h13, aJ (k 1) 36 anJ)] s.heap := hT
  refine lv_aload_n hx hb dX10_at_0 rfl (lv_at hl 0 rfl) ?_
  refine tz_get (ci := 7) (v := .ref h1) (C := RX10) (F := TX10) (N := 17) hx hb hU iX10 hown hK hT 0 rfl rfl 0 (by decide) w249 (fun _ h9 => h9) rfl dX10_at_1 ?_
  refine lv_iload_n hx hb dX10_at_4 rfl (lv_at hl 1 rfl) ?_
  refine tcI (Tc := [(h1, ob 4 [.int h1f0, .int h1f1, .int h1f2, .ref h13])]) (Tr := [(h0, ob 7 [.ref h1, .ref h2, .int h0f2, .ref h3, .ref h4, .ref h5, .int h0f6, .ref h6, .int h0f8, .null, .ref h7, .int h0f11, .ref h8, .ref h9, .ref h10, .ref h11, .ref h12]), (h13, aJ (k 1) 36 anJ)]) (as := [h1]) (zcV (q0 := 1) (ci := 4) (As := [.int x1]) (rest := []) (Tc := [(h1, ob 4 [.int h1f0, .int h1f1, .int h1f2, .ref h13])]) hx hb hml hown hU hK hT rfl rfl [1] rfl (by decide) (cX5_has_64567 l D k _ h1 h13 x1 h1f0 h1f1 h1f2 (by omega) (by omega)) w356 w353 w354 w355 w64 hdX5_has ⟨rfl, rfl⟩ ⟨Nat.le_of_ble_eq_true rfl, Nat.le_of_ble_eq_true rfl⟩ rfl hl.1 (Nat.le_of_ble_eq_true rfl) dX10_at_5 ⟨Nat.le_of_ble_eq_true rfl, Nat.le_of_ble_eq_true rfl⟩) hT hS hA [1] [0, 2] rfl rfl rfl (by decide) (by decide) (fun r1 H locs hB J hS => ?_)
  rcases hB with ⟨rfl, hT1⟩ | ⟨c_2, c_3, rfl, hT1⟩
  · skip
    have hT := J _ hT1
    have hT : TP D A [(h0, ob 7 [.ref h1, .ref h2, .int h0f2, .ref h3, .ref h4, .ref h5, .int h0f6, .ref h6, .int h0f8, .null, .ref h7, .int h0f11, .ref h8, .ref h9, .ref h10, .ref h11, .ref h12]), (h13, aJ (k 1) 36 anJ), (h1, ob 4 [.int h1f0, .int h1f1, .int h1f2, .ref h13])] _ := hT
    refine lv_if_eq (tgt := 23) hx hb dX10_at_8 (by decide) (fun _ => ?_) (fun cc => absurd (by decide +kernel) cc)
    refine lv_iconst (v := (-1)) hx hb dX10_at_23 (by decide) ?_
    exact tz_retI (B := B_cX10_at_086d4 D k h0 h1 h13 h2 h3 h4 h5 h6 h7 h8 h9 h10 h11 h12 x1 x2 x3 h0f2 h0f6 h0f8 h0f11 h1f0 h1f1 h1f2) (v := (-1)) hQ hx hb hr hlocks hS (Nat.le_of_ble_eq_true rfl) (Nat.le_of_ble_eq_true rfl) dX10_at_24 ((hT.sub [0, 2, 1] (by decide) rfl))
  · skip
    have hT := J _ hT1
    have hT : TP D A [(h0, ob 7 [.ref h1, .ref h2, .int h0f2, .ref h3, .ref h4, .ref h5, .int h0f6, .ref h6, .int h0f8, .null, .ref h7, .int h0f11, .ref h8, .ref h9, .ref h10, .ref h11, .ref h12]), (h13, aJ (k 1) 36 anJ), (h1, ob 4 [.int h1f0, .int h1f1, .int h1f2, .ref h13])] _ := hT
    refine lv_if_eq (tgt := 23) hx hb dX10_at_8 (by decide) (fun cc => absurd cc (by decide +kernel)) (fun _ => ?_)
    refine lv_aload_n hx hb dX10_at_11 rfl (lv_at hl 0 rfl) ?_
    refine tz_get (ci := 7) (v := .ref h1) (C := RX10) (F := TX10) (N := 17) hx hb hU iX10 hown hK hT 0 rfl rfl 0 (by decide) w249 (fun _ h9 => h9) rfl dX10_at_12 ?_
    refine lv_iload_n hx hb dX10_at_15 rfl (lv_at hl 2 rfl) ?_
    refine lv_iload_n hx hb dX10_at_16 rfl (lv_at hl 3 rfl) ?_
    refine tcI (Tc := [(h1, ob 4 [.int h1f0, .int h1f1, .int h1f2, .ref h13])]) (Tr := [(h0, ob 7 [.ref h1, .ref h2, .int h0f2, .ref h3, .ref h4, .ref h5, .int h0f6, .ref h6, .int h0f8, .null, .ref h7, .int h0f11, .ref h8, .ref h9, .ref h10, .ref h11, .ref h12]), (h13, aJ (k 1) 36 anJ)]) (as := [h1]) (zcV (q0 := 2) (ci := 4) (As := [.int x2, .int x3]) (rest := []) (Tc := [(h1, ob 4 [.int h1f0, .int h1f1, .int h1f2, .ref h13])]) hx hb hml hown hU hK hT rfl rfl [2] rfl (by decide) (cX5_isPlace_ce953 l D k _ h1 h13 x2 x3 h1f0 h1f1 h1f2 (by omega) (by omega)) w319 w316 w317 w318 w64 hdX5_isPlace ⟨rfl, rfl⟩ ⟨Nat.le_of_ble_eq_true rfl, Nat.le_of_ble_eq_true rfl⟩ rfl hl.1 (Nat.le_of_ble_eq_true rfl) dX10_at_17 ⟨Nat.le_of_ble_eq_true rfl, Nat.le_of_ble_eq_true rfl⟩) hT hS hA [2] [0, 1] rfl rfl rfl (by decide) (by decide) (fun r4 H locs hB J hS => ?_)
    rcases hB with ⟨rfl, hT1⟩ | ⟨c_5, c_6, c_7, c_8, rfl, hT1⟩
    · skip
      have hT := J _ hT1
      have hT : TP D A [(h0, ob 7 [.ref h1, .ref h2, .int h0f2, .ref h3, .ref h4, .ref h5, .int h0f6, .ref h6, .int h0f8, .null, .ref h7, .int h0f11, .ref h8, .ref h9, .ref h10, .ref h11, .ref h12]), (h13, aJ (k 1) 36 anJ), (h1, ob 4 [.int h1f0, .int h1f1, .int h1f2, .ref h13])] _ := hT
      refine lv_if_ne (tgt := 25) hx hb dX10_at_20 (by decide) (fun cc => absurd (by decide +kernel) cc) (fun _ => ?_)
      refine lv_iconst (v := (-1)) hx hb dX10_at_23 (by decide) ?_
      exact tz_retI (B := B_cX10_at_086d4 D k h0 h1 h13 h2 h3 h4 h5 h6 h7 h8 h9 h10 h11 h12 x1 x2 x3 h0f2 h0f6 h0f8 h0f11 h1f0 h1f1 h1f2) (v := (-1)) hQ hx hb hr hlocks hS (Nat.le_of_ble_eq_true rfl) (Nat.le_of_ble_eq_true rfl) dX10_at_24 ((hT.sub [0, 2, 1] (by decide) rfl))
    · skip
      have hT := J _ hT1
      have hT : TP D A [(h0, ob 7 [.ref h1, .ref h2, .int h0f2, .ref h3, .ref h4, .ref h5, .int h0f6, .ref h6, .int h0f8, .null, .ref h7, .int h0f11, .ref h8, .ref h9, .ref h10, .ref h11, .ref h12]), (h13, aJ (k 1) 36 anJ), (h1, ob 4 [.int h1f0, .int h1f1, .int h1f2, .ref h13])] _ := hT
      refine lv_if_ne (tgt := 25) hx hb dX10_at_20 (by decide) (fun _ => ?_) (fun cc => absurd cc (by decide +kernel))
      refine lv_sipush (v := 1000) hx hb dX10_at_25 (by decide) ?_
      refine lv_aload_n hx hb dX10_at_28 rfl (lv_at hl 0 rfl) ?_
      refine tz_get (ci := 7) (v := .ref h1) (C := RX10) (F := TX10) (N := 17) hx hb hU iX10 hown hK hT 0 rfl rfl 0 (by decide) w249 (fun _ h9 => h9) rfl dX10_at_29 ?_
      refine tz_get (ci := 4) (v := .ref h13) (C := RX5) (F := TX5) (N := 4) hx hb hU iX5 hown hK hT 2 rfl rfl 3 (by decide) w103 (fun _ h9 => h9) rfl dX10_at_32 ?_
      refine lv_iload_n hx hb dX10_at_35 rfl (lv_at hl 1 rfl) ?_
      refine lv_bipush (v := 9) hx hb dX10_at_36 (by decide) ?_
      refine lv_imul hx hb dX10_at_38 (lv_topi (fun v9 e_v9 => ?_))
      have e_v9 := ai_mul e_v9 rfl li_9 (by omega)
      refine lv_iload_n hx hb dX10_at_39 rfl (lv_at hl 2 rfl) ?_
      refine lv_aload_n hx hb dX10_at_40 rfl (lv_at hl 0 rfl) ?_
      refine tz_get (ci := 7) (v := .ref h1) (C := RX10) (F := TX10) (N := 17) hx hb hU iX10 hown hK hT 0 rfl rfl 0 (by decide) w249 (fun _ h9 => h9) rfl dX10_at_41 ?_
      refine tz_get (ci := 4) (v := .int h1f0) (C := RX5) (F := TX5) (N := 4) hx hb hU iX5 hown hK hT 2 rfl rfl 0 (by decide) w93 (fun _ h9 => h9) rfl dX10_at_44 ?_
      refine lv_imul hx hb dX10_at_47 (lv_topi (fun v10 e_v10 => ?_))
      have e_v10 := ai_mm (la := 0) (ua := 2) (lb := 1) (ub := 3) e_v10 rfl rfl (by omega) (by decide)
      refine lv_iadd hx hb dX10_at_48 (lv_topi (fun v11 e_v11 => ?_))
      have e_v11 := ai_add e_v11 rfl rfl (by omega)
      refine lv_iload_n hx hb dX10_at_49 rfl (lv_at hl 3 rfl) ?_
      refine lv_iadd hx hb dX10_at_50 (lv_topi (fun v12 e_v12 => ?_))
      have e_v12 := ai_add e_v12 rfl rfl (by omega)
      refine tz_lald hx hb hK hT 1 rfl (by omega) dX10_at_51 (fun v13 e_v13 => ?_)
      clear e_v13
      refine lv_l2i hx hb dX10_at_52 rfl (lv_topi (fun v14 _ => ?_))
      refine lv_iadd hx hb dX10_at_53 (lv_topi (fun v15 e_v15 => ?_))
      exact tz_retI (B := B_cX10_at_086d4 D k h0 h1 h13 h2 h3 h4 h5 h6 h7 h8 h9 h10 h11 h12 x1 x2 x3 h0f2 h0f6 h0f8 h0f11 h1f0 h1f1 h1f2) (v := v15) hQ hx hb hr hlocks hS (Nat.le_of_ble_eq_true rfl) (Nat.le_of_ble_eq_true rfl) dX10_at_54 ((hT.sub [0, 2, 1] (by decide) rfl))
abbrev Rm_cX10_at_f1d06 : Room := { frames := 1, cells := 0, slots := 0, locals := 22 }
abbrev B_cX10_at_f1d06 (D : va_G) (k : Nat → ClassId) (h0 h1 h14 h2 h3 h4 h5 h6 h7 h8 h9 h10 h11 h12 h13 : Nat) (x1 : Int32) (x2 : Int32) (x3 : Int32) (h0f2 : Int32) (h0f6 : Int32) (h0f8 : Int32) (h0f11 : Int32) (h1f0 : Int32) (h1f1 : Int32) (h1f2 : Int32) (A : Nat → Prop) (r : Int32) (H : Heap) : Prop := TP D A [(h0, ob 7 [.ref h1, .ref h2, .int h0f2, .ref h3, .ref h4, .ref h5, .int h0f6, .ref h6, .int h0f8, .ref h7, .ref h8, .int h0f11, .ref h9, .ref h10, .ref h11, .ref h12, .ref h13]), (h1, ob 4 [.int h1f0, .int h1f1, .int h1f2, .ref h14]), (h14, aJ (k 1) 36 anJ)] H
set_option maxHeartbeats 4000000 in
set_option maxRecDepth 100000 in
theorem cX10_at_f1d06 (l : Launch) (D : va_G) (k : Nat → ClassId) (sz : Nat) (h0 h1 h14 h2 h3 h4 h5 h6 h7 h8 h9 h10 h11 h12 h13 : Nat) (x1 : Int32) (x2 : Int32) (x3 : Int32) (h0f2 : Int32) (h0f6 : Int32) (h0f8 : Int32) (h0f11 : Int32) (h1f0 : Int32) (h1f1 : Int32) (h1f2 : Int32) (b_h0f2 : 0 ≤ h0f2.toInt ∧ h0f2.toInt ≤ 1) (b_h0f6 : 0 ≤ h0f6.toInt ∧ h0f6.toInt ≤ 1) (b_h0f8 : 0 ≤ h0f8.toInt ∧ h0f8.toInt ≤ 1) (b_h0f11 : 0 ≤ h0f11.toInt ∧ h0f11.toInt ≤ 200) (b_h1f0 : 1 ≤ h1f0.toInt ∧ h1f0.toInt ≤ 3) (b_h1f1 : 0 ≤ h1f1.toInt ∧ h1f1.toInt ≤ 4) : Met l yX10_at (Cond.code yX10_at cX10_at 4 (some .int) :: uw) Rm_cX10_at_f1d06 (pT D k sz [.ref h0, .int x1, .int x2, .int x3] [(h0, ob 7 [.ref h1, .ref h2, .int h0f2, .ref h3, .ref h4, .ref h5, .int h0f6, .ref h6, .int h0f8, .ref h7, .ref h8, .int h0f11, .ref h9, .ref h10, .ref h11, .ref h12, .ref h13]), (h1, ob 4 [.int h1f0, .int h1f1, .int h1f2, .ref h14]), (h14, aJ (k 1) 36 anJ)]) (qI (B_cX10_at_f1d06 D k h0 h1 h14 h2 h3 h4 h5 h6 h7 h8 h9 h10 h11 h12 h13 x1 x2 x3 h0f2 h0f6 h0f8 h0f11 h1f0 h1f1 h1f2 (zA [h0, h1, h14] sz)) (zA [h0, h1, h14] sz)) 0 0 (zA [h0, h1, h14] sz) := by
  refine tz_begin (as := [h0, h1, h14]) (Qc := fun A => qI (B_cX10_at_f1d06 D k h0 h1 h14 h2 h3 h4 h5 h6 h7 h8 h9 h10 h11 h12 h13 x1 x2 x3 h0f2 h0f6 h0f8 h0f11 h1f0 h1f1 h1f2 A) A) (by decide +kernel) rfl (Nat.le_of_ble_eq_true rfl) ?_
  intro p e s m args below meth c ls A Q hx hb hr hml hown hlocks hin hU hK hT hS hA hl hQ
  have hl : lv_has ls 4 [(0, .ref h0), (1, .int x1), (2, .int x2), (3, .int x3)] := hl
  have hT : TP D A [(h0, ob 7 [.ref h1, .ref h2, .int h0f2, .ref h3, .ref h4, .ref h5, .int h0f6, .ref h6, .int h0f8, .ref h7, .ref h8, .int h0f11, .ref h9, .ref h10, .ref h11, .ref h12, .ref h13]), (h1, ob 4 [.int h1f0, .int h1f1, .int h1f2, .ref h14]), (h14, aJ (k 1) 36 anJ)] s.heap := hT
  refine lv_aload_n hx hb dX10_at_0 rfl (lv_at hl 0 rfl) ?_
  refine tz_get (ci := 7) (v := .ref h1) (C := RX10) (F := TX10) (N := 17) hx hb hU iX10 hown hK hT 0 rfl rfl 0 (by decide) w249 (fun _ h9 => h9) rfl dX10_at_1 ?_
  refine lv_iload_n hx hb dX10_at_4 rfl (lv_at hl 1 rfl) ?_
  refine tcI (Tc := [(h1, ob 4 [.int h1f0, .int h1f1, .int h1f2, .ref h14])]) (Tr := [(h0, ob 7 [.ref h1, .ref h2, .int h0f2, .ref h3, .ref h4, .ref h5, .int h0f6, .ref h6, .int h0f8, .ref h7, .ref h8, .int h0f11, .ref h9, .ref h10, .ref h11, .ref h12, .ref h13]), (h14, aJ (k 1) 36 anJ)]) (as := [h1]) (zcV (q0 := 1) (ci := 4) (As := [.int x1]) (rest := []) (Tc := [(h1, ob 4 [.int h1f0, .int h1f1, .int h1f2, .ref h14])]) hx hb hml hown hU hK hT rfl rfl [1] rfl (by decide) (cX5_has_64567 l D k _ h1 h14 x1 h1f0 h1f1 h1f2 (by omega) (by omega)) w356 w353 w354 w355 w64 hdX5_has ⟨rfl, rfl⟩ ⟨Nat.le_of_ble_eq_true rfl, Nat.le_of_ble_eq_true rfl⟩ rfl hl.1 (Nat.le_of_ble_eq_true rfl) dX10_at_5 ⟨Nat.le_of_ble_eq_true rfl, Nat.le_of_ble_eq_true rfl⟩) hT hS hA [1] [0, 2] rfl rfl rfl (by decide) (by decide) (fun r1 H locs hB J hS => ?_)
  rcases hB with ⟨rfl, hT1⟩ | ⟨c_2, c_3, rfl, hT1⟩
  · skip
    have hT := J _ hT1
    have hT : TP D A [(h0, ob 7 [.ref h1, .ref h2, .int h0f2, .ref h3, .ref h4, .ref h5, .int h0f6, .ref h6, .int h0f8, .ref h7, .ref h8, .int h0f11, .ref h9, .ref h10, .ref h11, .ref h12, .ref h13]), (h14, aJ (k 1) 36 anJ), (h1, ob 4 [.int h1f0, .int h1f1, .int h1f2, .ref h14])] _ := hT
    refine lv_if_eq (tgt := 23) hx hb dX10_at_8 (by decide) (fun _ => ?_) (fun cc => absurd (by decide +kernel) cc)
    refine lv_iconst (v := (-1)) hx hb dX10_at_23 (by decide) ?_
    exact tz_retI (B := B_cX10_at_f1d06 D k h0 h1 h14 h2 h3 h4 h5 h6 h7 h8 h9 h10 h11 h12 h13 x1 x2 x3 h0f2 h0f6 h0f8 h0f11 h1f0 h1f1 h1f2) (v := (-1)) hQ hx hb hr hlocks hS (Nat.le_of_ble_eq_true rfl) (Nat.le_of_ble_eq_true rfl) dX10_at_24 ((hT.sub [0, 2, 1] (by decide) rfl))
  · skip
    have hT := J _ hT1
    have hT : TP D A [(h0, ob 7 [.ref h1, .ref h2, .int h0f2, .ref h3, .ref h4, .ref h5, .int h0f6, .ref h6, .int h0f8, .ref h7, .ref h8, .int h0f11, .ref h9, .ref h10, .ref h11, .ref h12, .ref h13]), (h14, aJ (k 1) 36 anJ), (h1, ob 4 [.int h1f0, .int h1f1, .int h1f2, .ref h14])] _ := hT
    refine lv_if_eq (tgt := 23) hx hb dX10_at_8 (by decide) (fun cc => absurd cc (by decide +kernel)) (fun _ => ?_)
    refine lv_aload_n hx hb dX10_at_11 rfl (lv_at hl 0 rfl) ?_
    refine tz_get (ci := 7) (v := .ref h1) (C := RX10) (F := TX10) (N := 17) hx hb hU iX10 hown hK hT 0 rfl rfl 0 (by decide) w249 (fun _ h9 => h9) rfl dX10_at_12 ?_
    refine lv_iload_n hx hb dX10_at_15 rfl (lv_at hl 2 rfl) ?_
    refine lv_iload_n hx hb dX10_at_16 rfl (lv_at hl 3 rfl) ?_
    refine tcI (Tc := [(h1, ob 4 [.int h1f0, .int h1f1, .int h1f2, .ref h14])]) (Tr := [(h0, ob 7 [.ref h1, .ref h2, .int h0f2, .ref h3, .ref h4, .ref h5, .int h0f6, .ref h6, .int h0f8, .ref h7, .ref h8, .int h0f11, .ref h9, .ref h10, .ref h11, .ref h12, .ref h13]), (h14, aJ (k 1) 36 anJ)]) (as := [h1]) (zcV (q0 := 2) (ci := 4) (As := [.int x2, .int x3]) (rest := []) (Tc := [(h1, ob 4 [.int h1f0, .int h1f1, .int h1f2, .ref h14])]) hx hb hml hown hU hK hT rfl rfl [2] rfl (by decide) (cX5_isPlace_ce953 l D k _ h1 h14 x2 x3 h1f0 h1f1 h1f2 (by omega) (by omega)) w319 w316 w317 w318 w64 hdX5_isPlace ⟨rfl, rfl⟩ ⟨Nat.le_of_ble_eq_true rfl, Nat.le_of_ble_eq_true rfl⟩ rfl hl.1 (Nat.le_of_ble_eq_true rfl) dX10_at_17 ⟨Nat.le_of_ble_eq_true rfl, Nat.le_of_ble_eq_true rfl⟩) hT hS hA [2] [0, 1] rfl rfl rfl (by decide) (by decide) (fun r4 H locs hB J hS => ?_)
    rcases hB with ⟨rfl, hT1⟩ | ⟨c_5, c_6, c_7, c_8, rfl, hT1⟩
    · skip
      have hT := J _ hT1
      have hT : TP D A [(h0, ob 7 [.ref h1, .ref h2, .int h0f2, .ref h3, .ref h4, .ref h5, .int h0f6, .ref h6, .int h0f8, .ref h7, .ref h8, .int h0f11, .ref h9, .ref h10, .ref h11, .ref h12, .ref h13]), (h14, aJ (k 1) 36 anJ), (h1, ob 4 [.int h1f0, .int h1f1, .int h1f2, .ref h14])] _ := hT
      refine lv_if_ne (tgt := 25) hx hb dX10_at_20 (by decide) (fun cc => absurd (by decide +kernel) cc) (fun _ => ?_)
      refine lv_iconst (v := (-1)) hx hb dX10_at_23 (by decide) ?_
      exact tz_retI (B := B_cX10_at_f1d06 D k h0 h1 h14 h2 h3 h4 h5 h6 h7 h8 h9 h10 h11 h12 h13 x1 x2 x3 h0f2 h0f6 h0f8 h0f11 h1f0 h1f1 h1f2) (v := (-1)) hQ hx hb hr hlocks hS (Nat.le_of_ble_eq_true rfl) (Nat.le_of_ble_eq_true rfl) dX10_at_24 ((hT.sub [0, 2, 1] (by decide) rfl))
    · skip
      have hT := J _ hT1
      have hT : TP D A [(h0, ob 7 [.ref h1, .ref h2, .int h0f2, .ref h3, .ref h4, .ref h5, .int h0f6, .ref h6, .int h0f8, .ref h7, .ref h8, .int h0f11, .ref h9, .ref h10, .ref h11, .ref h12, .ref h13]), (h14, aJ (k 1) 36 anJ), (h1, ob 4 [.int h1f0, .int h1f1, .int h1f2, .ref h14])] _ := hT
      refine lv_if_ne (tgt := 25) hx hb dX10_at_20 (by decide) (fun _ => ?_) (fun cc => absurd cc (by decide +kernel))
      refine lv_sipush (v := 1000) hx hb dX10_at_25 (by decide) ?_
      refine lv_aload_n hx hb dX10_at_28 rfl (lv_at hl 0 rfl) ?_
      refine tz_get (ci := 7) (v := .ref h1) (C := RX10) (F := TX10) (N := 17) hx hb hU iX10 hown hK hT 0 rfl rfl 0 (by decide) w249 (fun _ h9 => h9) rfl dX10_at_29 ?_
      refine tz_get (ci := 4) (v := .ref h14) (C := RX5) (F := TX5) (N := 4) hx hb hU iX5 hown hK hT 2 rfl rfl 3 (by decide) w103 (fun _ h9 => h9) rfl dX10_at_32 ?_
      refine lv_iload_n hx hb dX10_at_35 rfl (lv_at hl 1 rfl) ?_
      refine lv_bipush (v := 9) hx hb dX10_at_36 (by decide) ?_
      refine lv_imul hx hb dX10_at_38 (lv_topi (fun v9 e_v9 => ?_))
      have e_v9 := ai_mul e_v9 rfl li_9 (by omega)
      refine lv_iload_n hx hb dX10_at_39 rfl (lv_at hl 2 rfl) ?_
      refine lv_aload_n hx hb dX10_at_40 rfl (lv_at hl 0 rfl) ?_
      refine tz_get (ci := 7) (v := .ref h1) (C := RX10) (F := TX10) (N := 17) hx hb hU iX10 hown hK hT 0 rfl rfl 0 (by decide) w249 (fun _ h9 => h9) rfl dX10_at_41 ?_
      refine tz_get (ci := 4) (v := .int h1f0) (C := RX5) (F := TX5) (N := 4) hx hb hU iX5 hown hK hT 2 rfl rfl 0 (by decide) w93 (fun _ h9 => h9) rfl dX10_at_44 ?_
      refine lv_imul hx hb dX10_at_47 (lv_topi (fun v10 e_v10 => ?_))
      have e_v10 := ai_mm (la := 0) (ua := 2) (lb := 1) (ub := 3) e_v10 rfl rfl (by omega) (by decide)
      refine lv_iadd hx hb dX10_at_48 (lv_topi (fun v11 e_v11 => ?_))
      have e_v11 := ai_add e_v11 rfl rfl (by omega)
      refine lv_iload_n hx hb dX10_at_49 rfl (lv_at hl 3 rfl) ?_
      refine lv_iadd hx hb dX10_at_50 (lv_topi (fun v12 e_v12 => ?_))
      have e_v12 := ai_add e_v12 rfl rfl (by omega)
      refine tz_lald hx hb hK hT 1 rfl (by omega) dX10_at_51 (fun v13 e_v13 => ?_)
      clear e_v13
      refine lv_l2i hx hb dX10_at_52 rfl (lv_topi (fun v14 _ => ?_))
      refine lv_iadd hx hb dX10_at_53 (lv_topi (fun v15 e_v15 => ?_))
      exact tz_retI (B := B_cX10_at_f1d06 D k h0 h1 h14 h2 h3 h4 h5 h6 h7 h8 h9 h10 h11 h12 h13 x1 x2 x3 h0f2 h0f6 h0f8 h0f11 h1f0 h1f1 h1f2) (v := v15) hQ hx hb hr hlocks hS (Nat.le_of_ble_eq_true rfl) (Nat.le_of_ble_eq_true rfl) dX10_at_54 ((hT.sub [0, 2, 1] (by decide) rfl))
abbrev Rm_cX11_at_bac7e : Room := { frames := 2, cells := 0, slots := 0, locals := 46 }
abbrev B_cX11_at_bac7e (D : va_G) (k : Nat → ClassId) (h0 h1 h2 h3 h4 h5 h6 h7 h8 h9 h10 h11 h12 h13 h14 h15 h16 h17 h18 h19 h20 h21 : Nat) (x1 : Int32) (x2 : Int32) (x3 : Int32) (h0f0 : Int32) (h0f1 : Int32) (h0f2 : Int32) (h0f3 : Int32) (h0f4 : Int32) (h0f5 : Int32) (h0f8 : Int32) (h0f9 : Int32) (h0f17 : Int32) (h0f18 : Int32) (h0f19 : Int32) (h0f24 : Int32) (h0f25 : Int32) (h0f30 : Int32) (h0f31 : Int32) (A : Nat → Prop) (r : Int32) (H : Heap) : Prop := TP D A [(h0, ob 8 [.int h0f0, .int h0f1, .int h0f2, .int h0f3, .int h0f4, .int h0f5, .ref h1, .ref h2, .int h0f8, .int h0f9, .ref h3, .ref h4, .ref h5, .ref h6, .ref h7, .ref h8, .ref h9, .int h0f17, .int h0f18, .int h0f19, .ref h10, .ref h11, .ref h12, .ref h13, .int h0f24, .int h0f25, .ref h14, .ref h15, .ref h16, .ref h17, .int h0f30, .int h0f31, .ref h18, .ref h19, .ref h20, .ref h21]), (h1, aI (k 0) 36 anI)] H
set_option maxHeartbeats 4000000 in
set_option maxRecDepth 100000 in
theorem cX11_at_bac7e (l : Launch) (D : va_G) (k : Nat → ClassId) (sz : Nat) (h0 h1 h2 h3 h4 h5 h6 h7 h8 h9 h10 h11 h12 h13 h14 h15 h16 h17 h18 h19 h20 h21 : Nat) (x1 : Int32) (x2 : Int32) (x3 : Int32) (h0f0 : Int32) (h0f1 : Int32) (h0f2 : Int32) (h0f3 : Int32) (h0f4 : Int32) (h0f5 : Int32) (h0f8 : Int32) (h0f9 : Int32) (h0f17 : Int32) (h0f18 : Int32) (h0f19 : Int32) (h0f24 : Int32) (h0f25 : Int32) (h0f30 : Int32) (h0f31 : Int32) (b_h0f0 : 1 ≤ h0f0.toInt ∧ h0f0.toInt ≤ 3) (b_h0f1 : 0 ≤ h0f1.toInt ∧ h0f1.toInt ≤ 4) (b_h0f3 : 0 ≤ h0f3.toInt ∧ h0f3.toInt ≤ 3) (b_h0f4 : 0 ≤ h0f4.toInt ∧ h0f4.toInt ≤ 4) (b_h0f8 : 0 ≤ h0f8.toInt ∧ h0f8.toInt ≤ 1) (b_h0f9 : 0 ≤ h0f9.toInt ∧ h0f9.toInt ≤ 1) (b_h0f17 : 0 ≤ h0f17.toInt ∧ h0f17.toInt ≤ 120) (b_h0f18 : 0 ≤ h0f18.toInt ∧ h0f18.toInt ≤ 120) (b_h0f19 : 0 ≤ h0f19.toInt ∧ h0f19.toInt ≤ 4) (b_h0f24 : 0 ≤ h0f24.toInt ∧ h0f24.toInt ≤ 100) (b_h0f25 : 0 ≤ h0f25.toInt ∧ h0f25.toInt ≤ 1) (b_h0f30 : 0 ≤ h0f30.toInt ∧ h0f30.toInt ≤ 60) (b_h0f31 : 0 ≤ h0f31.toInt ∧ h0f31.toInt ≤ 1) (i_0 : h0f8.toInt ≤ h0f3.toInt) (i_1 : h0f9.toInt ≤ h0f24.toInt) : Met l yX11_at (Cond.code yX11_at cX11_at 4 (some .int) :: uw) Rm_cX11_at_bac7e (pT D k sz [.ref h0, .int x1, .int x2, .int x3] [(h0, ob 8 [.int h0f0, .int h0f1, .int h0f2, .int h0f3, .int h0f4, .int h0f5, .ref h1, .ref h2, .int h0f8, .int h0f9, .ref h3, .ref h4, .ref h5, .ref h6, .ref h7, .ref h8, .ref h9, .int h0f17, .int h0f18, .int h0f19, .ref h10, .ref h11, .ref h12, .ref h13, .int h0f24, .int h0f25, .ref h14, .ref h15, .ref h16, .ref h17, .int h0f30, .int h0f31, .ref h18, .ref h19, .ref h20, .ref h21]), (h1, aI (k 0) 36 anI)]) (qI (B_cX11_at_bac7e D k h0 h1 h2 h3 h4 h5 h6 h7 h8 h9 h10 h11 h12 h13 h14 h15 h16 h17 h18 h19 h20 h21 x1 x2 x3 h0f0 h0f1 h0f2 h0f3 h0f4 h0f5 h0f8 h0f9 h0f17 h0f18 h0f19 h0f24 h0f25 h0f30 h0f31 (zA [h0, h1] sz)) (zA [h0, h1] sz)) 0 0 (zA [h0, h1] sz) := by
  refine tz_begin (as := [h0, h1]) (Qc := fun A => qI (B_cX11_at_bac7e D k h0 h1 h2 h3 h4 h5 h6 h7 h8 h9 h10 h11 h12 h13 h14 h15 h16 h17 h18 h19 h20 h21 x1 x2 x3 h0f0 h0f1 h0f2 h0f3 h0f4 h0f5 h0f8 h0f9 h0f17 h0f18 h0f19 h0f24 h0f25 h0f30 h0f31 A) A) (by decide +kernel) rfl (Nat.le_of_ble_eq_true rfl) ?_
  intro p e s m args below meth c ls A Q hx hb hr hml hown hlocks hin hU hK hT hS hA hl hQ
  have hl : lv_has ls 4 [(0, .ref h0), (1, .int x1), (2, .int x2), (3, .int x3)] := hl
  have hT : TP D A [(h0, ob 8 [.int h0f0, .int h0f1, .int h0f2, .int h0f3, .int h0f4, .int h0f5, .ref h1, .ref h2, .int h0f8, .int h0f9, .ref h3, .ref h4, .ref h5, .ref h6, .ref h7, .ref h8, .ref h9, .int h0f17, .int h0f18, .int h0f19, .ref h10, .ref h11, .ref h12, .ref h13, .int h0f24, .int h0f25, .ref h14, .ref h15, .ref h16, .ref h17, .int h0f30, .int h0f31, .ref h18, .ref h19, .ref h20, .ref h21]), (h1, aI (k 0) 36 anI)] s.heap := hT
  refine lv_aload_n hx hb dX11_at_0 rfl (lv_at hl 0 rfl) ?_
  refine lv_iload_n hx hb dX11_at_1 rfl (lv_at hl 1 rfl) ?_
  refine tcI (Tc := [(h0, ob 8 [.int h0f0, .int h0f1, .int h0f2, .int h0f3, .int h0f4, .int h0f5, .ref h1, .ref h2, .int h0f8, .int h0f9, .ref h3, .ref h4, .ref h5, .ref h6, .ref h7, .ref h8, .ref h9, .int h0f17, .int h0f18, .int h0f19, .ref h10, .ref h11, .ref h12, .ref h13, .int h0f24, .int h0f25, .ref h14, .ref h15, .ref h16, .ref h17, .int h0f30, .int h0f31, .ref h18, .ref h19, .ref h20, .ref h21])]) (Tr := [(h1, aI (k 0) 36 anI)]) (as := [h0]) (zcV (q0 := 0) (ci := 8) (As := [.int x1]) (rest := []) (Tc := [(h0, ob 8 [.int h0f0, .int h0f1, .int h0f2, .int h0f3, .int h0f4, .int h0f5, .ref h1, .ref h2, .int h0f8, .int h0f9, .ref h3, .ref h4, .ref h5, .ref h6, .ref h7, .ref h8, .ref h9, .int h0f17, .int h0f18, .int h0f19, .ref h10, .ref h11, .ref h12, .ref h13, .int h0f24, .int h0f25, .ref h14, .ref h15, .ref h16, .ref h17, .int h0f30, .int h0f31, .ref h18, .ref h19, .ref h20, .ref h21])]) hx hb hml hown hU hK hT rfl rfl [0] rfl (by decide) (cX11_isGen_669e6 l D k _ h0 h1 h2 h3 h4 h5 h6 h7 h8 h9 h10 h11 h12 h13 h14 h15 h16 h17 h18 h19 h20 h21 x1 h0f0 h0f1 h0f2 h0f3 h0f4 h0f5 h0f8 h0f9 h0f17 h0f18 h0f19 h0f24 h0f25 h0f30 h0f31 (by omega) (by omega) (by omega) (by omega) (by omega) (by omega) (by omega) (by omega) (by omega) (by omega) (by omega) (by omega) (by omega) (by omega) (by omega)) w935 w932 w934 w31 w72 hdX11_isGen ⟨rfl, rfl⟩ ⟨Nat.le_of_ble_eq_true rfl, Nat.le_of_ble_eq_true rfl⟩ rfl hl.1 (Nat.le_of_ble_eq_true rfl) dX11_at_2 ⟨Nat.le_of_ble_eq_true rfl, Nat.le_of_ble_eq_true rfl⟩) hT hS hA [0] [1] rfl rfl rfl (by decide) (by decide) (fun r1 H locs hB J hS => ?_)
  rcases hB with ⟨rfl, hT1⟩ | ⟨c_2, c_3, c_4, c_5, rfl, hT1⟩
  · skip
    have hT := J _ hT1
    have hT : TP D A [(h1, aI (k 0) 36 anI), (h0, ob 8 [.int h0f0, .int h0f1, .int h0f2, .int h0f3, .int h0f4, .int h0f5, .ref h1, .ref h2, .int h0f8, .int h0f9, .ref h3, .ref h4, .ref h5, .ref h6, .ref h7, .ref h8, .ref h9, .int h0f17, .int h0f18, .int h0f19, .ref h10, .ref h11, .ref h12, .ref h13, .int h0f24, .int h0f25, .ref h14, .ref h15, .ref h16, .ref h17, .int h0f30, .int h0f31, .ref h18, .ref h19, .ref h20, .ref h21])] _ := hT
    refine lv_if_eq (tgt := 46) hx hb dX11_at_5 (by decide) (fun _ => ?_) (fun cc => absurd (by decide +kernel) cc)
    refine lv_iconst (v := (-1)) hx hb dX11_at_46 (by decide) ?_
    exact tz_retI (B := B_cX11_at_bac7e D k h0 h1 h2 h3 h4 h5 h6 h7 h8 h9 h10 h11 h12 h13 h14 h15 h16 h17 h18 h19 h20 h21 x1 x2 x3 h0f0 h0f1 h0f2 h0f3 h0f4 h0f5 h0f8 h0f9 h0f17 h0f18 h0f19 h0f24 h0f25 h0f30 h0f31) (v := (-1)) hQ hx hb hr hlocks hS (Nat.le_of_ble_eq_true rfl) (Nat.le_of_ble_eq_true rfl) dX11_at_47 ((hT.sub [1, 0] (by decide) rfl))
  · skip
    have hT := J _ hT1
    have hT : TP D A [(h1, aI (k 0) 36 anI), (h0, ob 8 [.int h0f0, .int h0f1, .int h0f2, .int h0f3, .int h0f4, .int h0f5, .ref h1, .ref h2, .int h0f8, .int h0f9, .ref h3, .ref h4, .ref h5, .ref h6, .ref h7, .ref h8, .ref h9, .int h0f17, .int h0f18, .int h0f19, .ref h10, .ref h11, .ref h12, .ref h13, .int h0f24, .int h0f25, .ref h14, .ref h15, .ref h16, .ref h17, .int h0f30, .int h0f31, .ref h18, .ref h19, .ref h20, .ref h21])] _ := hT
    refine lv_if_eq (tgt := 46) hx hb dX11_at_5 (by decide) (fun cc => absurd cc (by decide +kernel)) (fun _ => ?_)
    refine lv_aload_n hx hb dX11_at_8 rfl (lv_at hl 0 rfl) ?_
    refine lv_iload_n hx hb dX11_at_9 rfl (lv_at hl 2 rfl) ?_
    refine tcI (Tc := [(h0, ob 8 [.int h0f0, .int h0f1, .int h0f2, .int h0f3, .int h0f4, .int h0f5, .ref h1, .ref h2, .int h0f8, .int h0f9, .ref h3, .ref h4, .ref h5, .ref h6, .ref h7, .ref h8, .ref h9, .int h0f17, .int h0f18, .int h0f19, .ref h10, .ref h11, .ref h12, .ref h13, .int h0f24, .int h0f25, .ref h14, .ref h15, .ref h16, .ref h17, .int h0f30, .int h0f31, .ref h18, .ref h19, .ref h20, .ref h21])]) (Tr := [(h1, aI (k 0) 36 anI)]) (as := [h0]) (zcV (q0 := 1) (ci := 8) (As := [.int x2]) (rest := []) (Tc := [(h0, ob 8 [.int h0f0, .int h0f1, .int h0f2, .int h0f3, .int h0f4, .int h0f5, .ref h1, .ref h2, .int h0f8, .int h0f9, .ref h3, .ref h4, .ref h5, .ref h6, .ref h7, .ref h8, .ref h9, .int h0f17, .int h0f18, .int h0f19, .ref h10, .ref h11, .ref h12, .ref h13, .int h0f24, .int h0f25, .ref h14, .ref h15, .ref h16, .ref h17, .int h0f30, .int h0f31, .ref h18, .ref h19, .ref h20, .ref h21])]) hx hb hml hown hU hK hT rfl rfl [1] rfl (by decide) (cX11_isPlace_24f09 l D k _ h0 h1 h2 h3 h4 h5 h6 h7 h8 h9 h10 h11 h12 h13 h14 h15 h16 h17 h18 h19 h20 h21 x2 h0f0 h0f1 h0f2 h0f3 h0f4 h0f5 h0f8 h0f9 h0f17 h0f18 h0f19 h0f24 h0f25 h0f30 h0f31 (by omega) (by omega) (by omega) (by omega) (by omega) (by omega) (by omega) (by omega) (by omega) (by omega) (by omega) (by omega) (by omega) (by omega) (by omega)) w909 w906 w908 w26 w72 hdX11_isPlace ⟨rfl, rfl⟩ ⟨Nat.le_of_ble_eq_true rfl, Nat.le_of_ble_eq_true rfl⟩ rfl hl.1 (Nat.le_of_ble_eq_true rfl) dX11_at_10 ⟨Nat.le_of_ble_eq_true rfl, Nat.le_of_ble_eq_true rfl⟩) hT hS hA [1] [0] rfl rfl rfl (by decide) (by decide) (fun r6 H locs hB J hS => ?_)
    rcases hB with ⟨rfl, hT1⟩ | ⟨c_7, c_8, c_9, c_10, rfl, hT1⟩
    · skip
      have hT := J _ hT1
      have hT : TP D A [(h1, aI (k 0) 36 anI), (h0, ob 8 [.int h0f0, .int h0f1, .int h0f2, .int h0f3, .int h0f4, .int h0f5, .ref h1, .ref h2, .int h0f8, .int h0f9, .ref h3, .ref h4, .ref h5, .ref h6, .ref h7, .ref h8, .ref h9, .int h0f17, .int h0f18, .int h0f19, .ref h10, .ref h11, .ref h12, .ref h13, .int h0f24, .int h0f25, .ref h14, .ref h15, .ref h16, .ref h17, .int h0f30, .int h0f31, .ref h18, .ref h19, .ref h20, .ref h21])] _ := hT
      refine lv_if_eq (tgt := 46) hx hb dX11_at_13 (by decide) (fun _ => ?_) (fun cc => absurd (by decide +kernel) cc)
      refine lv_iconst (v := (-1)) hx hb dX11_at_46 (by decide) ?_
      exact tz_retI (B := B_cX11_at_bac7e D k h0 h1 h2 h3 h4 h5 h6 h7 h8 h9 h10 h11 h12 h13 h14 h15 h16 h17 h18 h19 h20 h21 x1 x2 x3 h0f0 h0f1 h0f2 h0f3 h0f4 h0f5 h0f8 h0f9 h0f17 h0f18 h0f19 h0f24 h0f25 h0f30 h0f31) (v := (-1)) hQ hx hb hr hlocks hS (Nat.le_of_ble_eq_true rfl) (Nat.le_of_ble_eq_true rfl) dX11_at_47 ((hT.sub [1, 0] (by decide) rfl))
    · skip
      have hT := J _ hT1
      have hT : TP D A [(h1, aI (k 0) 36 anI), (h0, ob 8 [.int h0f0, .int h0f1, .int h0f2, .int h0f3, .int h0f4, .int h0f5, .ref h1, .ref h2, .int h0f8, .int h0f9, .ref h3, .ref h4, .ref h5, .ref h6, .ref h7, .ref h8, .ref h9, .int h0f17, .int h0f18, .int h0f19, .ref h10, .ref h11, .ref h12, .ref h13, .int h0f24, .int h0f25, .ref h14, .ref h15, .ref h16, .ref h17, .int h0f30, .int h0f31, .ref h18, .ref h19, .ref h20, .ref h21])] _ := hT
      refine lv_if_eq (tgt := 46) hx hb dX11_at_13 (by decide) (fun cc => absurd cc (by decide +kernel)) (fun _ => ?_)
      refine lv_aload_n hx hb dX11_at_16 rfl (lv_at hl 0 rfl) ?_
      refine lv_iload_n hx hb dX11_at_17 rfl (lv_at hl 3 rfl) ?_
      refine tcI (Tc := [(h0, ob 8 [.int h0f0, .int h0f1, .int h0f2, .int h0f3, .int h0f4, .int h0f5, .ref h1, .ref h2, .int h0f8, .int h0f9, .ref h3, .ref h4, .ref h5, .ref h6, .ref h7, .ref h8, .ref h9, .int h0f17, .int h0f18, .int h0f19, .ref h10, .ref h11, .ref h12, .ref h13, .int h0f24, .int h0f25, .ref h14, .ref h15, .ref h16, .ref h17, .int h0f30, .int h0f31, .ref h18, .ref h19, .ref h20, .ref h21])]) (Tr := [(h1, aI (k 0) 36 anI)]) (as := [h0]) (zcV (q0 := 1) (ci := 8) (As := [.int x3]) (rest := []) (Tc := [(h0, ob 8 [.int h0f0, .int h0f1, .int h0f2, .int h0f3, .int h0f4, .int h0f5, .ref h1, .ref h2, .int h0f8, .int h0f9, .ref h3, .ref h4, .ref h5, .ref h6, .ref h7, .ref h8, .ref h9, .int h0f17, .int h0f18, .int h0f19, .ref h10, .ref h11, .ref h12, .ref h13, .int h0f24, .int h0f25, .ref h14, .ref h15, .ref h16, .ref h17, .int h0f30, .int h0f31, .ref h18, .ref h19, .ref h20, .ref h21])]) hx hb hml hown hU hK hT rfl rfl [1] rfl (by decide) (cX11_isPlace_24f09 l D k _ h0 h1 h2 h3 h4 h5 h6 h7 h8 h9 h10 h11 h12 h13 h14 h15 h16 h17 h18 h19 h20 h21 x3 h0f0 h0f1 h0f2 h0f3 h0f4 h0f5 h0f8 h0f9 h0f17 h0f18 h0f19 h0f24 h0f25 h0f30 h0f31 (by omega) (by omega) (by omega) (by omega) (by omega) (by omega) (by omega) (by omega) (by omega) (by omega) (by omega) (by omega) (by omega) (by omega) (by omega)) w909 w906 w908 w26 w72 hdX11_isPlace ⟨rfl, rfl⟩ ⟨Nat.le_of_ble_eq_true rfl, Nat.le_of_ble_eq_true rfl⟩ rfl hl.1 (Nat.le_of_ble_eq_true rfl) dX11_at_18 ⟨Nat.le_of_ble_eq_true rfl, Nat.le_of_ble_eq_true rfl⟩) hT hS hA [1] [0] rfl rfl rfl (by decide) (by decide) (fun r11 H locs hB J hS => ?_)
      rcases hB with ⟨rfl, hT1⟩ | ⟨c_12, c_13, c_14, c_15, rfl, hT1⟩
      · skip
        have hT := J _ hT1
        have hT : TP D A [(h1, aI (k 0) 36 anI), (h0, ob 8 [.int h0f0, .int h0f1, .int h0f2, .int h0f3, .int h0f4, .int h0f5, .ref h1, .ref h2, .int h0f8, .int h0f9, .ref h3, .ref h4, .ref h5, .ref h6, .ref h7, .ref h8, .ref h9, .int h0f17, .int h0f18, .int h0f19, .ref h10, .ref h11, .ref h12, .ref h13, .int h0f24, .int h0f25, .ref h14, .ref h15, .ref h16, .ref h17, .int h0f30, .int h0f31, .ref h18, .ref h19, .ref h20, .ref h21])] _ := hT
        refine lv_if_eq (tgt := 46) hx hb dX11_at_21 (by decide) (fun _ => ?_) (fun cc => absurd (by decide +kernel) cc)
        refine lv_iconst (v := (-1)) hx hb dX11_at_46 (by decide) ?_
        exact tz_retI (B := B_cX11_at_bac7e D k h0 h1 h2 h3 h4 h5 h6 h7 h8 h9 h10 h11 h12 h13 h14 h15 h16 h17 h18 h19 h20 h21 x1 x2 x3 h0f0 h0f1 h0f2 h0f3 h0f4 h0f5 h0f8 h0f9 h0f17 h0f18 h0f19 h0f24 h0f25 h0f30 h0f31) (v := (-1)) hQ hx hb hr hlocks hS (Nat.le_of_ble_eq_true rfl) (Nat.le_of_ble_eq_true rfl) dX11_at_47 ((hT.sub [1, 0] (by decide) rfl))
      · skip
        have hT := J _ hT1
        have hT : TP D A [(h1, aI (k 0) 36 anI), (h0, ob 8 [.int h0f0, .int h0f1, .int h0f2, .int h0f3, .int h0f4, .int h0f5, .ref h1, .ref h2, .int h0f8, .int h0f9, .ref h3, .ref h4, .ref h5, .ref h6, .ref h7, .ref h8, .ref h9, .int h0f17, .int h0f18, .int h0f19, .ref h10, .ref h11, .ref h12, .ref h13, .int h0f24, .int h0f25, .ref h14, .ref h15, .ref h16, .ref h17, .int h0f30, .int h0f31, .ref h18, .ref h19, .ref h20, .ref h21])] _ := hT
        refine lv_if_eq (tgt := 46) hx hb dX11_at_21 (by decide) (fun cc => absurd cc (by decide +kernel)) (fun _ => ?_)
        refine lv_sipush (v := 1000) hx hb dX11_at_24 (by decide) ?_
        refine lv_aload_n hx hb dX11_at_27 rfl (lv_at hl 0 rfl) ?_
        refine tz_get (ci := 8) (v := .ref h1) (C := RX11) (F := TX11) (N := 36) hx hb hU iX11 hown hK hT 1 rfl rfl 6 (by decide) w791 (fun _ h9 => h9) rfl dX11_at_28 ?_
        refine lv_bipush (v := 9) hx hb dX11_at_31 (by decide) ?_
        refine lv_iload_n hx hb dX11_at_33 rfl (lv_at hl 1 rfl) ?_
        refine lv_imul hx hb dX11_at_34 (lv_topi (fun v16 e_v16 => ?_))
        have e_v16 := ai_mul e_v16 li_9 rfl (by omega)
        refine lv_iconst (v := 3) hx hb dX11_at_35 (by decide) ?_
        refine lv_iload_n hx hb dX11_at_36 rfl (lv_at hl 2 rfl) ?_
        refine lv_imul hx hb dX11_at_37 (lv_topi (fun v17 e_v17 => ?_))
        have e_v17 := ai_mul e_v17 li_3 rfl (by omega)
        refine lv_iadd hx hb dX11_at_38 (lv_topi (fun v18 e_v18 => ?_))
        have e_v18 := ai_add e_v18 rfl rfl (by omega)
        refine lv_iload_n hx hb dX11_at_39 rfl (lv_at hl 3 rfl) ?_
        refine lv_iadd hx hb dX11_at_40 (lv_topi (fun v19 e_v19 => ?_))
        have e_v19 := ai_add e_v19 rfl rfl (by omega)
        refine tz_iald hx hb hK hT 0 rfl (by omega) dX11_at_41 (fun v20 e_v20 => ?_)
        clear e_v20
        refine lv_iadd hx hb dX11_at_42 (lv_topi (fun v21 e_v21 => ?_))
        refine lv_goto (tgt := 47) hx hb dX11_at_43 (by decide) ?_
        exact tz_retI (B := B_cX11_at_bac7e D k h0 h1 h2 h3 h4 h5 h6 h7 h8 h9 h10 h11 h12 h13 h14 h15 h16 h17 h18 h19 h20 h21 x1 x2 x3 h0f0 h0f1 h0f2 h0f3 h0f4 h0f5 h0f8 h0f9 h0f17 h0f18 h0f19 h0f24 h0f25 h0f30 h0f31) (v := v21) hQ hx hb hr hlocks hS (Nat.le_of_ble_eq_true rfl) (Nat.le_of_ble_eq_true rfl) dX11_at_47 ((hT.sub [1, 0] (by decide) rfl))
abbrev Rm_cX7_isOne_2ccf3 : Room := { frames := 0, cells := 0, slots := 0, locals := 0 }
abbrev B_cX7_isOne_2ccf3 (D : va_G) (k : Nat → ClassId) (h0 : Nat) (x1 : Int32) (A : Nat → Prop) (r : Int32) (H : Heap) : Prop := (0 ≤ r.toInt ∧ r.toInt ≤ 1) ∧ TP D A [(h0, aJ (k 1) 9 anJ)] H
set_option maxHeartbeats 4000000 in
set_option maxRecDepth 100000 in
theorem cX7_isOne_2ccf3 (l : Launch) (D : va_G) (k : Nat → ClassId) (sz : Nat) (h0 : Nat) (x1 : Int32) (b_x1 : 1 ≤ x1.toInt ∧ x1.toInt ≤ 3) : Met l yX7_isOne (Cond.code yX7_isOne cX7_isOne 4 (some .boolean) :: uw) Rm_cX7_isOne_2ccf3 (pT D k sz [.ref h0, .int x1] [(h0, aJ (k 1) 9 anJ)]) (qI (B_cX7_isOne_2ccf3 D k h0 x1 (zA [h0] sz)) (zA [h0] sz)) 0 0 (zA [h0] sz) := by
  refine tz_begin (as := [h0]) (Qc := fun A => qI (B_cX7_isOne_2ccf3 D k h0 x1 A) A) (by decide +kernel) rfl (Nat.le_of_ble_eq_true rfl) ?_
  intro p e s m args below meth c ls A Q hx hb hr hml hown hlocks hin hU hK hT hS hA hl hQ
  have hl : lv_has ls 4 [(0, .ref h0), (1, .int x1)] := hl
  have hT : TP D A [(h0, aJ (k 1) 9 anJ)] s.heap := hT
  refine lv_iconst (v := 0) hx hb dX7_isOne_0 (by decide) ?_
  refine lv_istore_n (lv' := [(2, .int 0), (0, .ref h0), (1, .int x1)]) hx hb dX7_isOne_1 rfl hl (by decide) rfl (fun ls hl => ?_)
  have lp2_4 : ∀ (n : Nat) (y3 : Int32) (H : Heap) (locs : List Loc) (ls : Array Slot), (0 ≤ y3.toInt ∧ y3.toInt ≤ 3) → (x1.toInt + (-1) * y3.toInt + 1).toNat < n → TP D A [(h0, aJ (k 1) 9 anJ)] H → va_S A s.heap H locs → lv_has ls 4 [(0, .ref h0), (1, .int x1), (2, .int y3)] → W p l e Rm_cX7_isOne_2ccf3 s m args below meth c H locs 0 0 Q (F0 m 2 ls []) := by
    intro n
    induction n with
    | zero => intro y3 H locs ls b_y3 hm hT hS hl; exact absurd hm (Nat.not_lt_zero _)
    | succ n ih =>
      intro y3 H locs ls b_y3 hm hT hS hl
      have ih2_4 := ih
      clear ih
      refine lv_iload_n hx hb dX7_isOne_2 rfl (lv_at hl 2 rfl) ?_
      refine lv_iload_n hx hb dX7_isOne_3 rfl (lv_at hl 1 rfl) ?_
      refine lv_icmp_ge (tgt := 50) hx hb dX7_isOne_4 (by decide) (fun c_5 => ?_) (fun c_5 => ?_)
      · skip
        have c_5 := ni_le c_5 rfl rfl
        refine lv_iconst (v := 1) hx hb dX7_isOne_50 (by decide) ?_
        exact tz_retZ (B := B_cX7_isOne_2ccf3 D k h0 x1) (v := 1) hQ hx hb hr hlocks hS (Nat.le_of_ble_eq_true rfl) (Nat.le_of_ble_eq_true rfl) dX7_isOne_51 (by have := li_1; omega) (⟨(by have := li_1; omega), hT⟩)
      · skip
        have c_5 := ni_nle c_5 rfl rfl
        refine lv_iconst (v := 0) hx hb dX7_isOne_7 (by decide) ?_
        refine lv_istore_n (lv' := [(3, .int 0), (0, .ref h0), (1, .int x1), (2, .int y3)]) hx hb dX7_isOne_8 rfl hl (by decide) rfl (fun ls hl => ?_)
        have lp9_9 : ∀ (n : Nat) (y8 : Int32) (H : Heap) (locs : List Loc) (ls : Array Slot), (0 ≤ y8.toInt ∧ y8.toInt ≤ 3) → (x1.toInt + (-1) * y8.toInt + 1).toNat < n → TP D A [(h0, aJ (k 1) 9 anJ)] H → va_S A s.heap H locs → lv_has ls 4 [(0, .ref h0), (1, .int x1), (2, .int y3), (3, .int y8)] → W p l e Rm_cX7_isOne_2ccf3 s m args below meth c H locs 0 0 Q (F0 m 9 ls []) := by
          intro n
          induction n with
          | zero => intro y8 H locs ls b_y8 hm hT hS hl; exact absurd hm (Nat.not_lt_zero _)
          | succ n ih =>
            intro y8 H locs ls b_y8 hm hT hS hl
            have ih9_9 := ih
            clear ih
            refine lv_iload_n hx hb dX7_isOne_9 rfl (lv_at hl 3 rfl) ?_
            refine lv_iload_n hx hb dX7_isOne_10 rfl (lv_at hl 1 rfl) ?_
            refine lv_icmp_ge (tgt := 44) hx hb dX7_isOne_11 (by decide) (fun c_10 => ?_) (fun c_10 => ?_)
            · skip
              have c_10 := ni_le c_10 rfl rfl
              obtain ⟨v11, e_v11⟩ : ∃ x : Int32, x = y3 + Int32.ofInt 1 := ⟨_, rfl⟩
              have f_v11 := e_v11.symm
              have e_v11 : v11.toInt = y3.toInt + 1 := ai_add e_v11 rfl (show (Int32.ofInt 1).toInt = 1 from (by decide +kernel)) (by omega)
              refine lv_iinc (v := v11) (lv' := [(2, .int v11), (0, .ref h0), (1, .int x1), (3, .int y8)]) hx hb dX7_isOne_44 hl (k := 2) rfl f_v11 (by decide) rfl (fun ls hl => ?_)
              refine lv_goto (tgt := 2) hx hb dX7_isOne_47 (by decide) ?_
              exact ih2_4 v11 _ _ _ (by omega)  (by omega) hT hS (lv_sub hl [1, 2, 0] rfl)
            · skip
              have c_10 := ni_nle c_10 rfl rfl
              refine lv_aload_n hx hb dX7_isOne_14 rfl (lv_at hl 0 rfl) ?_
              refine lv_iload_n hx hb dX7_isOne_15 rfl (lv_at hl 2 rfl) ?_
              refine lv_iload_n hx hb dX7_isOne_16 rfl (lv_at hl 1 rfl) ?_
              refine lv_imul hx hb dX7_isOne_17 (lv_topi (fun v12 e_v12 => ?_))
              have e_v12 := ai_mm (la := 0) (ua := 2) (lb := 1) (ub := 3) e_v12 rfl rfl (by omega) (by decide)
              refine lv_iload_n hx hb dX7_isOne_18 rfl (lv_at hl 3 rfl) ?_
              refine lv_iadd hx hb dX7_isOne_19 (lv_topi (fun v13 e_v13 => ?_))
              have e_v13 := ai_add e_v13 rfl rfl (by omega)
              refine tz_lald hx hb hK hT 0 rfl (by omega) dX7_isOne_20 (fun v14 e_v14 => ?_)
              clear e_v14
              refine lv_iload_n hx hb dX7_isOne_21 rfl (lv_at hl 2 rfl) ?_
              refine lv_iload_n hx hb dX7_isOne_22 rfl (lv_at hl 3 rfl) ?_
              refine lv_icmp_ne (tgt := 30) hx hb dX7_isOne_23 (by decide) (fun c_15 => ?_) (fun c_15 => ?_)
              · skip
                have c_15 := ni_ne c_15 rfl rfl
                refine lv_iconst (v := 0) hx hb dX7_isOne_30 (by decide) ?_
                refine lv_i2l (v := 0) hx hb dX7_isOne_31 (by decide +kernel) ?_
                refine W.lcmp hx hb dX7_isOne_32 ?_
                refine lv_if_eq (tgt := 38) hx hb dX7_isOne_33 (by decide) (fun c_16 => ?_) (fun c_16 => ?_)
                · skip
                  have c_16 := nl_eq c_16 rfl ll_0
                  obtain ⟨v17, e_v17⟩ : ∃ x : Int32, x = y8 + Int32.ofInt 1 := ⟨_, rfl⟩
                  have f_v17 := e_v17.symm
                  have e_v17 : v17.toInt = y8.toInt + 1 := ai_add e_v17 rfl (show (Int32.ofInt 1).toInt = 1 from (by decide +kernel)) (by omega)
                  refine lv_iinc (v := v17) (lv' := [(3, .int v17), (0, .ref h0), (1, .int x1), (2, .int y3)]) hx hb dX7_isOne_38 hl (k := 3) rfl f_v17 (by decide) rfl (fun ls hl => ?_)
                  refine lv_goto (tgt := 9) hx hb dX7_isOne_41 (by decide) ?_
                  exact ih9_9 v17 _ _ _ (by omega)  (by omega) hT hS (lv_sub hl [1, 2, 3, 0] rfl)
                · skip
                  have c_16 := nl_ne c_16 rfl ll_0
                  refine lv_iconst (v := 0) hx hb dX7_isOne_36 (by decide) ?_
                  exact tz_retZ (B := B_cX7_isOne_2ccf3 D k h0 x1) (v := 0) hQ hx hb hr hlocks hS (Nat.le_of_ble_eq_true rfl) (Nat.le_of_ble_eq_true rfl) dX7_isOne_37 (by have := li_0; omega) (⟨(by have := li_0; omega), hT⟩)
              · skip
                have c_15 := ni_eq c_15 rfl rfl
                refine lv_iconst (v := 1) hx hb dX7_isOne_26 (by decide) ?_
                refine lv_goto (tgt := 31) hx hb dX7_isOne_27 (by decide) ?_
                refine lv_i2l (v := 1) hx hb dX7_isOne_31 (by decide +kernel) ?_
                refine W.lcmp hx hb dX7_isOne_32 ?_
                refine lv_if_eq (tgt := 38) hx hb dX7_isOne_33 (by decide) (fun c_18 => ?_) (fun c_18 => ?_)
                · skip
                  have c_18 := nl_eq c_18 rfl ll_1
                  obtain ⟨v19, e_v19⟩ : ∃ x : Int32, x = y8 + Int32.ofInt 1 := ⟨_, rfl⟩
                  have f_v19 := e_v19.symm
                  have e_v19 : v19.toInt = y8.toInt + 1 := ai_add e_v19 rfl (show (Int32.ofInt 1).toInt = 1 from (by decide +kernel)) (by omega)
                  refine lv_iinc (v := v19) (lv' := [(3, .int v19), (0, .ref h0), (1, .int x1), (2, .int y3)]) hx hb dX7_isOne_38 hl (k := 3) rfl f_v19 (by decide) rfl (fun ls hl => ?_)
                  refine lv_goto (tgt := 9) hx hb dX7_isOne_41 (by decide) ?_
                  exact ih9_9 v19 _ _ _ (by omega)  (by omega) hT hS (lv_sub hl [1, 2, 3, 0] rfl)
                · skip
                  have c_18 := nl_ne c_18 rfl ll_1
                  refine lv_iconst (v := 0) hx hb dX7_isOne_36 (by decide) ?_
                  exact tz_retZ (B := B_cX7_isOne_2ccf3 D k h0 x1) (v := 0) hQ hx hb hr hlocks hS (Nat.le_of_ble_eq_true rfl) (Nat.le_of_ble_eq_true rfl) dX7_isOne_37 (by have := li_0; omega) (⟨(by have := li_0; omega), hT⟩)
        exact lp9_9 ((x1.toInt + (-1) * (0 : Int32).toInt + 1).toNat + 1) (0) _ _ _ (by have := li_0; omega)  (Nat.lt_succ_self _) hT hS (lv_sub hl [1, 2, 3, 0] rfl)
  exact lp2_4 ((x1.toInt + (-1) * (0 : Int32).toInt + 1).toNat + 1) (0) _ _ _ (by have := li_0; omega)  (Nat.lt_succ_self _) hT hS (lv_sub hl [1, 2, 0] rfl)
abbrev Rm_cX7_addUp_7c0a2 : Room := { frames := 0, cells := 0, slots := 0, locals := 0 }
abbrev B_cX7_addUp_7c0a2 (D : va_G) (k : Nat → ClassId) (h0 h1 : Nat) (x1 : Int32) (x4 : Int32) (x5 : Int32) (x6 : Int32) (A : Nat → Prop) (r : Int64) (H : Heap) : Prop := TP D A [(h0, aJ (k 1) 9 anJ), (h1, aJ (k 1) 36 anJ)] H
set_option maxHeartbeats 4000000 in
set_option maxRecDepth 100000 in
theorem cX7_addUp_7c0a2 (l : Launch) (D : va_G) (k : Nat → ClassId) (sz : Nat) (h0 h1 : Nat) (x1 : Int32) (x4 : Int32) (x5 : Int32) (x6 : Int32) (b_x1 : 0 ≤ x1.toInt ∧ x1.toInt ≤ 6) (b_x4 : 0 ≤ x4.toInt ∧ x4.toInt ≤ 29) (b_x5 : 1 ≤ x5.toInt ∧ x5.toInt ≤ 3) (b_x6 : 1 ≤ x6.toInt ∧ x6.toInt ≤ 3) : Met l yX7_addUp (Cond.code yX7_addUp cX7_addUp 10 (some .long) :: uw) Rm_cX7_addUp_7c0a2 (pT D k sz [.ref h0, .int x1, .int 1, .ref h1, .int x4, .int x5, .int x6] [(h0, aJ (k 1) 9 anJ), (h1, aJ (k 1) 36 anJ)]) (qL (B_cX7_addUp_7c0a2 D k h0 h1 x1 x4 x5 x6 (zA [h0, h1] sz)) (zA [h0, h1] sz)) 0 0 (zA [h0, h1] sz) := by
  refine tz_begin (as := [h0, h1]) (Qc := fun A => qL (B_cX7_addUp_7c0a2 D k h0 h1 x1 x4 x5 x6 A) A) (by decide +kernel) rfl (Nat.le_of_ble_eq_true rfl) ?_
  intro p e s m args below meth c ls A Q hx hb hr hml hown hlocks hin hU hK hT hS hA hl hQ
  have hl : lv_has ls 10 [(0, .ref h0), (1, .int x1), (2, .int 1), (3, .ref h1), (4, .int x4), (5, .int x5), (6, .int x6)] := hl
  have hT : TP D A [(h0, aJ (k 1) 9 anJ), (h1, aJ (k 1) 36 anJ)] s.heap := hT
  refine lv_lconst (v := 0) hx hb dX7_addUp_0 (by decide) ?_
  refine lv_lstore (lv' := [(7, .long 0), (0, .ref h0), (1, .int x1), (2, .int 1), (3, .ref h1), (4, .int x4), (5, .int x5), (6, .int x6)]) hx hb dX7_addUp_1 hl (by decide) rfl (fun ls hl => ?_)
  refine lv_iconst (v := 0) hx hb dX7_addUp_3 (by decide) ?_
  refine lv_istore (lv' := [(9, .int 0), (7, .long 0), (0, .ref h0), (1, .int x1), (2, .int 1), (3, .ref h1), (4, .int x4), (5, .int x5), (6, .int x6)]) hx hb dX7_addUp_4 hl (by decide) rfl (fun ls hl => ?_)
  have lp6_7 : ∀ (n : Nat) (y5 : Int32) (y6 : Int64) (H : Heap) (locs : List Loc) (ls : Array Slot), (0 ≤ y5.toInt ∧ y5.toInt ≤ 3) → (x6.toInt + (-1) * y5.toInt + 1).toNat < n → TP D A [(h0, aJ (k 1) 9 anJ), (h1, aJ (k 1) 36 anJ)] H → va_S A s.heap H locs → lv_has ls 10 [(0, .ref h0), (1, .int x1), (2, .int 1), (3, .ref h1), (4, .int x4), (5, .int x5), (6, .int x6), (7, .long y6), (9, .int y5)] → W p l e Rm_cX7_addUp_7c0a2 s m args below meth c H locs 0 0 Q (F0 m 6 ls []) := by
    intro n
    induction n with
    | zero => intro y5 y6 H locs ls b_y5 hm hT hS hl; exact absurd hm (Nat.not_lt_zero _)
    | succ n ih =>
      intro y5 y6 H locs ls b_y5 hm hT hS hl
      have ih6_7 := ih
      clear ih
      refine lv_iload hx hb dX7_addUp_6 (lv_at hl 8 rfl) ?_
      refine lv_iload hx hb dX7_addUp_8 (lv_at hl 6 rfl) ?_
      refine lv_icmp_ge (tgt := 43) hx hb dX7_addUp_10 (by decide) (fun c_8 => ?_) (fun c_8 => ?_)
      · skip
        have c_8 := ni_le c_8 rfl rfl
        refine lv_lload hx hb dX7_addUp_43 (lv_at hl 7 rfl) ?_
        exact tz_retL (B := B_cX7_addUp_7c0a2 D k h0 h1 x1 x4 x5 x6) (v := y6) hQ hx hb hr hlocks hS (Nat.le_of_ble_eq_true rfl) (Nat.le_of_ble_eq_true rfl) dX7_addUp_45 (hT)
      · skip
        have c_8 := ni_nle c_8 rfl rfl
        refine lv_lload hx hb dX7_addUp_13 (lv_at hl 7 rfl) ?_
        refine lv_aload_n hx hb dX7_addUp_15 rfl (lv_at hl 0 rfl) ?_
        refine lv_iload_n hx hb dX7_addUp_16 rfl (lv_at hl 1 rfl) ?_
        refine lv_iload hx hb dX7_addUp_17 (lv_at hl 8 rfl) ?_
        refine lv_iload_n hx hb dX7_addUp_19 rfl (lv_at hl 2 rfl) ?_
        refine lv_imul hx hb dX7_addUp_20 (lv_topi (fun v9 e_v9 => ?_))
        have e_v9 := ai_mul e_v9 rfl li_1 (by omega)
        refine lv_iadd hx hb dX7_addUp_21 (lv_topi (fun v10 e_v10 => ?_))
        have e_v10 := ai_add e_v10 rfl rfl (by omega)
        refine tz_lald hx hb hK hT 0 rfl (by omega) dX7_addUp_22 (fun v11 e_v11 => ?_)
        clear e_v11
        refine lv_aload_n hx hb dX7_addUp_23 rfl (lv_at hl 3 rfl) ?_
        refine lv_iload hx hb dX7_addUp_24 (lv_at hl 4 rfl) ?_
        refine lv_iload hx hb dX7_addUp_26 (lv_at hl 8 rfl) ?_
        refine lv_iload hx hb dX7_addUp_28 (lv_at hl 5 rfl) ?_
        refine lv_imul hx hb dX7_addUp_30 (lv_topi (fun v12 e_v12 => ?_))
        have e_v12 := ai_mm (la := 0) (ua := 2) (lb := 1) (ub := 3) e_v12 rfl rfl (by omega) (by decide)
        refine lv_iadd hx hb dX7_addUp_31 (lv_topi (fun v13 e_v13 => ?_))
        have e_v13 := ai_add e_v13 rfl rfl (by omega)
        refine tz_lald hx hb hK hT 1 rfl (by omega) dX7_addUp_32 (fun v14 e_v14 => ?_)
        clear e_v14
        refine lv_lmul hx hb dX7_addUp_33 (lv_topl (fun v15 e_v15 => ?_))
        refine lv_ladd hx hb dX7_addUp_34 (lv_topl (fun v16 e_v16 => ?_))
        refine lv_lstore (lv' := [(7, .long v16), (0, .ref h0), (1, .int x1), (2, .int 1), (3, .ref h1), (4, .int x4), (5, .int x5), (6, .int x6), (9, .int y5)]) hx hb dX7_addUp_35 hl (by decide) rfl (fun ls hl => ?_)
        obtain ⟨v17, e_v17⟩ : ∃ x : Int32, x = y5 + Int32.ofInt 1 := ⟨_, rfl⟩
        have f_v17 := e_v17.symm
        have e_v17 : v17.toInt = y5.toInt + 1 := ai_add e_v17 rfl (show (Int32.ofInt 1).toInt = 1 from (by decide +kernel)) (by omega)
        refine lv_iinc (v := v17) (lv' := [(9, .int v17), (7, .long v16), (0, .ref h0), (1, .int x1), (2, .int 1), (3, .ref h1), (4, .int x4), (5, .int x5), (6, .int x6)]) hx hb dX7_addUp_37 hl (k := 8) rfl f_v17 (by decide) rfl (fun ls hl => ?_)
        refine lv_goto (tgt := 6) hx hb dX7_addUp_40 (by decide) ?_
        exact ih6_7 v17 v16 _ _ _ (by omega)  (by omega) hT hS (lv_sub hl [2, 3, 4, 5, 6, 7, 8, 1, 0] rfl)
  exact lp6_7 ((x6.toInt + (-1) * (0 : Int32).toInt + 1).toNat + 1) (0) (0) _ _ _ (by have := li_0; have := ll_0; omega)  (Nat.lt_succ_self _) hT hS (lv_sub hl [2, 3, 4, 5, 6, 7, 8, 1, 0] rfl)
abbrev Rm_cX7_multiply_a4f9f : Room := { frames := 1, cells := 0, slots := 0, locals := 29 }
abbrev B_cX7_multiply_a4f9f (D : va_G) (k : Nat → ClassId) (h0 h1 h2 : Nat) (x1 : Int32) (x3 : Int32) (x5 : Int32) (A : Nat → Prop) (H : Heap) : Prop := TP D A [(h0, aJ (k 1) 9 anJ), (h1, aJ (k 1) 36 anJ), (h2, aJ (k 1) 9 anJ)] H
set_option maxHeartbeats 4000000 in
set_option maxRecDepth 100000 in
theorem cX7_multiply_a4f9f (l : Launch) (D : va_G) (k : Nat → ClassId) (sz : Nat) (h0 h1 h2 : Nat) (x1 : Int32) (x3 : Int32) (x5 : Int32) (b_x1 : 0 ≤ x1.toInt ∧ x1.toInt ≤ 0) (b_x3 : 0 ≤ x3.toInt ∧ x3.toInt ≤ 27) (b_x5 : 1 ≤ x5.toInt ∧ x5.toInt ≤ 3) : Met l yX7_multiply (Cond.code yX7_multiply cX7_multiply 8 none :: uw) Rm_cX7_multiply_a4f9f (pT D k sz [.ref h0, .int x1, .ref h1, .int x3, .ref h2, .int x5] [(h0, aJ (k 1) 9 anJ), (h1, aJ (k 1) 36 anJ), (h2, aJ (k 1) 9 anJ)]) (qV (B_cX7_multiply_a4f9f D k h0 h1 h2 x1 x3 x5 (zA [h0, h1, h2] sz)) (zA [h0, h1, h2] sz)) 0 0 (zA [h0, h1, h2] sz) := by
  refine tz_begin (as := [h0, h1, h2]) (Qc := fun A => qV (B_cX7_multiply_a4f9f D k h0 h1 h2 x1 x3 x5 A) A) (by decide +kernel) rfl (Nat.le_of_ble_eq_true rfl) ?_
  intro p e s m args below meth c ls A Q hx hb hr hml hown hlocks hin hU hK hT hS hA hl hQ
  have hl : lv_has ls 8 [(0, .ref h0), (1, .int x1), (2, .ref h1), (3, .int x3), (4, .ref h2), (5, .int x5)] := hl
  have hT : TP D A [(h0, aJ (k 1) 9 anJ), (h1, aJ (k 1) 36 anJ), (h2, aJ (k 1) 9 anJ)] s.heap := hT
  refine lv_iconst (v := 0) hx hb dX7_multiply_0 (by decide) ?_
  refine lv_istore (lv' := [(6, .int 0), (0, .ref h0), (1, .int x1), (2, .ref h1), (3, .int x3), (4, .ref h2), (5, .int x5)]) hx hb dX7_multiply_1 hl (by decide) rfl (fun ls hl => ?_)
  have lp3_4 : ∀ (n : Nat) (y3 : Int32) (H : Heap) (locs : List Loc) (ls : Array Slot), (0 ≤ y3.toInt ∧ y3.toInt ≤ 3) → (x5.toInt + (-1) * y3.toInt + 1).toNat < n → TP D A [(h0, aJ (k 1) 9 anJ), (h1, aJ (k 1) 36 anJ), (h2, aJ (k 1) 9 anJ)] H → va_S A s.heap H locs → lv_has ls 8 [(0, .ref h0), (1, .int x1), (2, .ref h1), (3, .int x3), (4, .ref h2), (5, .int x5), (6, .int y3)] → W p l e Rm_cX7_multiply_a4f9f s m args below meth c H locs 0 0 Q (F0 m 3 ls []) := by
    intro n
    induction n with
    | zero => intro y3 H locs ls b_y3 hm hT hS hl; exact absurd hm (Nat.not_lt_zero _)
    | succ n ih =>
      intro y3 H locs ls b_y3 hm hT hS hl
      have ih3_4 := ih
      clear ih
      refine lv_iload hx hb dX7_multiply_3 (lv_at hl 6 rfl) ?_
      refine lv_iload hx hb dX7_multiply_5 (lv_at hl 5 rfl) ?_
      refine lv_icmp_ge (tgt := 64) hx hb dX7_multiply_7 (by decide) (fun c_5 => ?_) (fun c_5 => ?_)
      · skip
        have c_5 := ni_le c_5 rfl rfl
        exact tz_retV (B := B_cX7_multiply_a4f9f D k h0 h1 h2 x1 x3 x5) hQ hx hb hr hlocks hS (Nat.le_of_ble_eq_true rfl) (Nat.le_of_ble_eq_true rfl) dX7_multiply_64 (hT)
      · skip
        have c_5 := ni_nle c_5 rfl rfl
        refine lv_iconst (v := 0) hx hb dX7_multiply_10 (by decide) ?_
        refine lv_istore (lv' := [(7, .int 0), (0, .ref h0), (1, .int x1), (2, .ref h1), (3, .int x3), (4, .ref h2), (5, .int x5), (6, .int y3)]) hx hb dX7_multiply_11 hl (by decide) rfl (fun ls hl => ?_)
        have lp13_9 : ∀ (n : Nat) (y8 : Int32) (H : Heap) (locs : List Loc) (ls : Array Slot), (0 ≤ y8.toInt ∧ y8.toInt ≤ 3) → (x5.toInt + (-1) * y8.toInt + 1).toNat < n → TP D A [(h0, aJ (k 1) 9 anJ), (h1, aJ (k 1) 36 anJ), (h2, aJ (k 1) 9 anJ)] H → va_S A s.heap H locs → lv_has ls 8 [(0, .ref h0), (1, .int x1), (2, .ref h1), (3, .int x3), (4, .ref h2), (5, .int x5), (6, .int y3), (7, .int y8)] → W p l e Rm_cX7_multiply_a4f9f s m args below meth c H locs 0 0 Q (F0 m 13 ls []) := by
          intro n
          induction n with
          | zero => intro y8 H locs ls b_y8 hm hT hS hl; exact absurd hm (Nat.not_lt_zero _)
          | succ n ih =>
            intro y8 H locs ls b_y8 hm hT hS hl
            have ih13_9 := ih
            clear ih
            refine lv_iload hx hb dX7_multiply_13 (lv_at hl 7 rfl) ?_
            refine lv_iload hx hb dX7_multiply_15 (lv_at hl 5 rfl) ?_
            refine lv_icmp_ge (tgt := 58) hx hb dX7_multiply_17 (by decide) (fun c_10 => ?_) (fun c_10 => ?_)
            · skip
              have c_10 := ni_le c_10 rfl rfl
              obtain ⟨v11, e_v11⟩ : ∃ x : Int32, x = y3 + Int32.ofInt 1 := ⟨_, rfl⟩
              have f_v11 := e_v11.symm
              have e_v11 : v11.toInt = y3.toInt + 1 := ai_add e_v11 rfl (show (Int32.ofInt 1).toInt = 1 from (by decide +kernel)) (by omega)
              refine lv_iinc (v := v11) (lv' := [(6, .int v11), (0, .ref h0), (1, .int x1), (2, .ref h1), (3, .int x3), (4, .ref h2), (5, .int x5), (7, .int y8)]) hx hb dX7_multiply_58 hl (k := 6) rfl f_v11 (by decide) rfl (fun ls hl => ?_)
              refine lv_goto (tgt := 3) hx hb dX7_multiply_61 (by decide) ?_
              exact ih3_4 v11 _ _ _ (by omega)  (by omega) hT hS (lv_sub hl [1, 2, 3, 4, 5, 6, 0] rfl)
            · skip
              have c_10 := ni_nle c_10 rfl rfl
              refine lv_aload hx hb dX7_multiply_20 (lv_at hl 4 rfl) ?_
              refine lv_iload hx hb dX7_multiply_22 (lv_at hl 6 rfl) ?_
              refine lv_iload hx hb dX7_multiply_24 (lv_at hl 5 rfl) ?_
              refine lv_imul hx hb dX7_multiply_26 (lv_topi (fun v12 e_v12 => ?_))
              have e_v12 := ai_mm (la := 0) (ua := 2) (lb := 1) (ub := 3) e_v12 rfl rfl (by omega) (by decide)
              refine lv_iload hx hb dX7_multiply_27 (lv_at hl 7 rfl) ?_
              refine lv_iadd hx hb dX7_multiply_29 (lv_topi (fun v13 e_v13 => ?_))
              have e_v13 := ai_add e_v13 rfl rfl (by omega)
              refine lv_aload_n hx hb dX7_multiply_30 rfl (lv_at hl 0 rfl) ?_
              refine lv_iload_n hx hb dX7_multiply_31 rfl (lv_at hl 1 rfl) ?_
              refine lv_iload hx hb dX7_multiply_32 (lv_at hl 6 rfl) ?_
              refine lv_iload hx hb dX7_multiply_34 (lv_at hl 5 rfl) ?_
              refine lv_imul hx hb dX7_multiply_36 (lv_topi (fun v14 e_v14 => ?_))
              have e_v14 := ai_mm (la := 0) (ua := 2) (lb := 1) (ub := 3) e_v14 rfl rfl (by omega) (by decide)
              have hq15 : x1.toInt = 0 := by omega
              refine lv_iadd hx hb dX7_multiply_37 (lv_topi (fun v16 e_v16 => ?_))
              have e_v16 := ai_add e_v16 hq15 rfl (by omega)
              refine lv_iconst (v := 1) hx hb dX7_multiply_38 (by decide) ?_
              refine lv_aload_n hx hb dX7_multiply_39 rfl (lv_at hl 2 rfl) ?_
              refine lv_iload_n hx hb dX7_multiply_40 rfl (lv_at hl 3 rfl) ?_
              refine lv_iload hx hb dX7_multiply_41 (lv_at hl 7 rfl) ?_
              refine lv_iadd hx hb dX7_multiply_43 (lv_topi (fun v17 e_v17 => ?_))
              have e_v17 := ai_add e_v17 rfl rfl (by omega)
              refine lv_iload hx hb dX7_multiply_44 (lv_at hl 5 rfl) ?_
              refine lv_iload hx hb dX7_multiply_46 (lv_at hl 5 rfl) ?_
              refine tcL (Tc := [(h0, aJ (k 1) 9 anJ), (h1, aJ (k 1) 36 anJ)]) (Tr := [(h2, aJ (k 1) 9 anJ)]) (as := [h0, h1]) (zcS (As := [.ref h0, .int v16, .int 1, .ref h1, .int v17, .int x5, .int x5]) (rest := [.int v13, .ref h2]) (Tc := [(h0, aJ (k 1) 9 anJ), (h1, aJ (k 1) 36 anJ)]) hx hb hml hown hU hK hT [0, 1] rfl (by decide) (cX7_addUp_7c0a2 l D k _ h0 h1 v16 v17 x5 x5 (by omega) (by omega) (by omega) (by omega)) w366 w364 w365 w74 hdX7_addUp ⟨rfl, rfl⟩ ⟨Nat.le_of_ble_eq_true rfl, Nat.le_of_ble_eq_true rfl⟩ rfl hl.1 (Nat.le_of_ble_eq_true rfl) dX7_multiply_48 ⟨Nat.le_of_ble_eq_true rfl, Nat.le_of_ble_eq_true rfl⟩) hT hS hA [0, 1] [2] rfl rfl rfl (by decide) (by decide) (fun r18 H locs hB J hS => ?_)
              have hT1 := hB
              have hT := J _ hT1
              have hT : TP D A [(h2, aJ (k 1) 9 anJ), (h0, aJ (k 1) 9 anJ), (h1, aJ (k 1) 36 anJ)] _ := hT
              refine tz_last hx hb hK hT hS 0 rfl (by omega) (fun _ _ => trivial) dX7_multiply_51 (fun H locs hT hS => ?_)
              obtain ⟨v19, e_v19⟩ : ∃ x : Int32, x = y8 + Int32.ofInt 1 := ⟨_, rfl⟩
              have f_v19 := e_v19.symm
              have e_v19 : v19.toInt = y8.toInt + 1 := ai_add e_v19 rfl (show (Int32.ofInt 1).toInt = 1 from (by decide +kernel)) (by omega)
              refine lv_iinc (v := v19) (lv' := [(7, .int v19), (0, .ref h0), (1, .int x1), (2, .ref h1), (3, .int x3), (4, .ref h2), (5, .int x5), (6, .int y3)]) hx hb dX7_multiply_52 hl (k := 7) rfl f_v19 (by decide) rfl (fun ls hl => ?_)
              refine lv_goto (tgt := 13) hx hb dX7_multiply_55 (by decide) ?_
              exact ih13_9 v19 _ _ _ (by omega)  (by omega) (hT.sub [1, 2, 0] (by decide) rfl) hS (lv_sub hl [1, 2, 3, 4, 5, 6, 7, 0] rfl)
        exact lp13_9 ((x5.toInt + (-1) * (0 : Int32).toInt + 1).toNat + 1) (0) _ _ _ (by have := li_0; omega)  (Nat.lt_succ_self _) hT hS (lv_sub hl [1, 2, 3, 4, 5, 6, 7, 0] rfl)
  exact lp3_4 ((x5.toInt + (-1) * (0 : Int32).toInt + 1).toNat + 1) (0) _ _ _ (by have := li_0; omega)  (Nat.lt_succ_self _) hT hS (lv_sub hl [1, 2, 3, 4, 5, 6, 0] rfl)
abbrev Rm_cX10_orderOf_9632f : Room := { frames := 2, cells := 0, slots := 0, locals := 56 }
abbrev B_cX10_orderOf_9632f (D : va_G) (k : Nat → ClassId) (h0 h1 h2 h12 h13 h3 h4 h5 h6 h7 h8 h9 h10 h11 : Nat) (x2 : Int32) (h0f2 : Int32) (h0f6 : Int32) (h0f8 : Int32) (h0f11 : Int32) (h2f0 : Int32) (h2f1 : Int32) (h2f2 : Int32) (A : Nat → Prop) (r : Int32) (H : Heap) : Prop := ((-3) ≤ r.toInt ∧ r.toInt ≤ 12) ∧ TP D A [(h0, ob 7 [.ref h2, .ref h3, .int h0f2, .ref h4, .ref h5, .ref h6, .int h0f6, .ref h7, .int h0f8, .null, .ref h8, .int h0f11, .ref h9, .ref h10, .ref h11, .ref h12, .ref h13]), (h1, aJ (k 1) 36 anJ), (h2, ob 4 [.int h2f0, .int h2f1, .int h2f2, .ref h1]), (h12, aJ (k 1) 9 anJ), (h13, aJ (k 1) 9 anJ)] H
set_option maxHeartbeats 4000000 in
set_option maxRecDepth 100000 in
theorem cX10_orderOf_9632f (l : Launch) (D : va_G) (k : Nat → ClassId) (sz : Nat) (h0 h1 h2 h12 h13 h3 h4 h5 h6 h7 h8 h9 h10 h11 : Nat) (x2 : Int32) (h0f2 : Int32) (h0f6 : Int32) (h0f8 : Int32) (h0f11 : Int32) (h2f0 : Int32) (h2f1 : Int32) (h2f2 : Int32) (b_x2 : 0 ≤ x2.toInt ∧ x2.toInt ≤ 27) (b_h0f2 : 0 ≤ h0f2.toInt ∧ h0f2.toInt ≤ 1) (b_h0f6 : 0 ≤ h0f6.toInt ∧ h0f6.toInt ≤ 1) (b_h0f8 : 0 ≤ h0f8.toInt ∧ h0f8.toInt ≤ 1) (b_h0f11 : 0 ≤ h0f11.toInt ∧ h0f11.toInt ≤ 200) (b_h2f0 : 1 ≤ h2f0.toInt ∧ h2f0.toInt ≤ 3) (b_h2f1 : 1 ≤ h2f1.toInt ∧ h2f1.toInt ≤ 4) : Met l yX10_orderOf (Cond.code yX10_orderOf cX10_orderOf 5 (some .int) :: uw) Rm_cX10_orderOf_9632f (pT D k sz [.ref h0, .ref h1, .int x2] [(h0, ob 7 [.ref h2, .ref h3, .int h0f2, .ref h4, .ref h5, .ref h6, .int h0f6, .ref h7, .int h0f8, .null, .ref h8, .int h0f11, .ref h9, .ref h10, .ref h11, .ref h12, .ref h13]), (h1, aJ (k 1) 36 anJ), (h2, ob 4 [.int h2f0, .int h2f1, .int h2f2, .ref h1]), (h12, aJ (k 1) 9 anJ), (h13, aJ (k 1) 9 anJ)]) (qI (B_cX10_orderOf_9632f D k h0 h1 h2 h12 h13 h3 h4 h5 h6 h7 h8 h9 h10 h11 x2 h0f2 h0f6 h0f8 h0f11 h2f0 h2f1 h2f2 (zA [h0, h1, h2, h12, h13] sz)) (zA [h0, h1, h2, h12, h13] sz)) 0 0 (zA [h0, h1, h2, h12, h13] sz) := by
  refine tz_begin (as := [h0, h1, h2, h12, h13]) (Qc := fun A => qI (B_cX10_orderOf_9632f D k h0 h1 h2 h12 h13 h3 h4 h5 h6 h7 h8 h9 h10 h11 x2 h0f2 h0f6 h0f8 h0f11 h2f0 h2f1 h2f2 A) A) (by decide +kernel) rfl (Nat.le_of_ble_eq_true rfl) ?_
  intro p e s m args below meth c ls A Q hx hb hr hml hown hlocks hin hU hK hT hS hA hl hQ
  have hl : lv_has ls 5 [(0, .ref h0), (1, .ref h1), (2, .int x2)] := hl
  have hT : TP D A [(h0, ob 7 [.ref h2, .ref h3, .int h0f2, .ref h4, .ref h5, .ref h6, .int h0f6, .ref h7, .int h0f8, .null, .ref h8, .int h0f11, .ref h9, .ref h10, .ref h11, .ref h12, .ref h13]), (h1, aJ (k 1) 36 anJ), (h2, ob 4 [.int h2f0, .int h2f1, .int h2f2, .ref h1]), (h12, aJ (k 1) 9 anJ), (h13, aJ (k 1) 9 anJ)] s.heap := hT
  refine lv_aload_n hx hb dX10_orderOf_0 rfl (lv_at hl 0 rfl) ?_
  refine tz_get (ci := 7) (v := .ref h2) (C := RX10) (F := TX10) (N := 17) hx hb hU iX10 hown hK hT 0 rfl rfl 0 (by decide) w249 (fun _ h9 => h9) rfl dX10_orderOf_1 ?_
  refine tcI (Tc := [(h2, ob 4 [.int h2f0, .int h2f1, .int h2f2, .ref h1])]) (Tr := [(h0, ob 7 [.ref h2, .ref h3, .int h0f2, .ref h4, .ref h5, .ref h6, .int h0f6, .ref h7, .int h0f8, .null, .ref h8, .int h0f11, .ref h9, .ref h10, .ref h11, .ref h12, .ref h13]), (h1, aJ (k 1) 36 anJ), (h12, aJ (k 1) 9 anJ), (h13, aJ (k 1) 9 anJ)]) (as := [h2]) (zcV (q0 := 2) (ci := 4) (As := []) (rest := []) (Tc := [(h2, ob 4 [.int h2f0, .int h2f1, .int h2f2, .ref h1])]) hx hb hml hown hU hK hT rfl rfl [2] rfl (by decide) (cX5_cellCount_642c9 l D k _ h2 h1 h2f0 h2f1 h2f2 (by omega) (by omega)) w385 w382 w383 w384 w64 hdX5_cellCount ⟨rfl, rfl⟩ ⟨Nat.le_of_ble_eq_true rfl, Nat.le_of_ble_eq_true rfl⟩ rfl hl.1 (Nat.le_of_ble_eq_true rfl) dX10_orderOf_4 ⟨Nat.le_of_ble_eq_true rfl, Nat.le_of_ble_eq_true rfl⟩) hT hS hA [2] [0, 1, 3, 4] rfl rfl rfl (by decide) (by decide) (fun r1 H locs hB J hS => ?_)
  obtain ⟨b_r1, hT1⟩ := hB
  have hT := J _ hT1
  have hT : TP D A [(h0, ob 7 [.ref h2, .ref h3, .int h0f2, .ref h4, .ref h5, .ref h6, .int h0f6, .ref h7, .int h0f8, .null, .ref h8, .int h0f11, .ref h9, .ref h10, .ref h11, .ref h12, .ref h13]), (h1, aJ (k 1) 36 anJ), (h12, aJ (k 1) 9 anJ), (h13, aJ (k 1) 9 anJ), (h2, ob 4 [.int h2f0, .int h2f1, .int h2f2, .ref h1])] _ := hT
  refine lv_istore_n (lv' := [(3, .int r1), (0, .ref h0), (1, .ref h1), (2, .int x2)]) hx hb dX10_orderOf_7 rfl hl (by decide) rfl (fun ls hl => ?_)
  refine lv_aload_n hx hb dX10_orderOf_8 rfl (lv_at hl 2 rfl) ?_
  refine lv_iload_n hx hb dX10_orderOf_9 rfl (lv_at hl 3 rfl) ?_
  refine lv_aload_n hx hb dX10_orderOf_10 rfl (lv_at hl 1 rfl) ?_
  refine tz_get (ci := 7) (v := .ref h12) (C := RX10) (F := TX10) (N := 17) hx hb hU iX10 hown hK hT 0 rfl rfl 15 (by decide) w264 (fun _ h9 => h9) rfl dX10_orderOf_11 ?_
  refine lv_iconst (v := 0) hx hb dX10_orderOf_14 (by decide) ?_
  refine lv_iload_n hx hb dX10_orderOf_15 rfl (lv_at hl 0 rfl) ?_
  refine tz_copyl hx hb (by rw [hml]; exact hl.1.symm) hown hU w410 w348 w347 w75 hK hT hS 1 2 rfl rfl (by have := li_0; omega) (fun _ _ _ _ => trivial) (Nat.le_of_ble_eq_true rfl) (Nat.le_of_ble_eq_true rfl) dX10_orderOf_16 (fun H locs hT hS => ?_)
  refine lv_iconst (v := 1) hx hb dX10_orderOf_19 (by decide) ?_
  refine lv_istore (lv' := [(4, .int 1), (3, .int r1), (0, .ref h0), (1, .ref h1), (2, .int x2)]) hx hb dX10_orderOf_20 hl (by decide) rfl (fun ls hl => ?_)
  have lp22_11 : ∀ (n : Nat) (y10 : Int32) (H : Heap) (locs : List Loc) (ls : Array Slot), (1 ≤ y10.toInt ∧ y10.toInt ≤ 13) → ((-1) * y10.toInt + 12 + 1).toNat < n → TP D A [(h0, ob 7 [.ref h2, .ref h3, .int h0f2, .ref h4, .ref h5, .ref h6, .int h0f6, .ref h7, .int h0f8, .null, .ref h8, .int h0f11, .ref h9, .ref h10, .ref h11, .ref h12, .ref h13]), (h1, aJ (k 1) 36 anJ), (h12, aJ (k 1) 9 anJ), (h13, aJ (k 1) 9 anJ), (h2, ob 4 [.int h2f0, .int h2f1, .int h2f2, .ref h1])] H → va_S A s.heap H locs → lv_has ls 5 [(0, .ref h0), (1, .ref h1), (2, .int x2), (3, .int r1), (4, .int y10)] → W p l e Rm_cX10_orderOf_9632f s m args below meth c H locs 0 0 Q (F0 m 22 ls []) := by
    intro n
    induction n with
    | zero => intro y10 H locs ls b_y10 hm hT hS hl; exact absurd hm (Nat.not_lt_zero _)
    | succ n ih =>
      intro y10 H locs ls b_y10 hm hT hS hl
      have ih22_11 := ih
      clear ih
      refine lv_iload hx hb dX10_orderOf_22 (lv_at hl 4 rfl) ?_
      refine lv_bipush (v := 12) hx hb dX10_orderOf_24 (by decide) ?_
      refine lv_icmp_gt (tgt := 107) hx hb dX10_orderOf_26 (by decide) (fun c_12 => ?_) (fun c_12 => ?_)
      · skip
        have c_12 := ni_lt c_12 li_12 rfl
        refine lv_bipush (v := (-3)) hx hb dX10_orderOf_107 (by decide) ?_
        exact tz_retI (B := B_cX10_orderOf_9632f D k h0 h1 h2 h12 h13 h3 h4 h5 h6 h7 h8 h9 h10 h11 x2 h0f2 h0f6 h0f8 h0f11 h2f0 h2f1 h2f2) (v := (-3)) hQ hx hb hr hlocks hS (Nat.le_of_ble_eq_true rfl) (Nat.le_of_ble_eq_true rfl) dX10_orderOf_109 (⟨(by have := li_m3; omega), (hT.sub [0, 1, 4, 2, 3] (by decide) rfl)⟩)
      · skip
        have c_12 := ni_nlt c_12 li_12 rfl
        refine lv_aload_n hx hb dX10_orderOf_29 rfl (lv_at hl 0 rfl) ?_
        refine tz_get (ci := 7) (v := .ref h12) (C := RX10) (F := TX10) (N := 17) hx hb hU iX10 hown hK hT 0 rfl rfl 15 (by decide) w264 (fun _ h9 => h9) rfl dX10_orderOf_30 ?_
        refine lv_aload_n hx hb dX10_orderOf_33 rfl (lv_at hl 0 rfl) ?_
        refine tz_get (ci := 7) (v := .ref h2) (C := RX10) (F := TX10) (N := 17) hx hb hU iX10 hown hK hT 0 rfl rfl 0 (by decide) w249 (fun _ h9 => h9) rfl dX10_orderOf_34 ?_
        refine tz_get (ci := 4) (v := .int h2f0) (C := RX5) (F := TX5) (N := 4) hx hb hU iX5 hown hK hT 4 rfl rfl 0 (by decide) w93 (fun _ h9 => h9) rfl dX10_orderOf_37 ?_
        refine tcI (Tc := [(h12, aJ (k 1) 9 anJ)]) (Tr := [(h0, ob 7 [.ref h2, .ref h3, .int h0f2, .ref h4, .ref h5, .ref h6, .int h0f6, .ref h7, .int h0f8, .null, .ref h8, .int h0f11, .ref h9, .ref h10, .ref h11, .ref h12, .ref h13]), (h1, aJ (k 1) 36 anJ), (h13, aJ (k 1) 9 anJ), (h2, ob 4 [.int h2f0, .int h2f1, .int h2f2, .ref h1])]) (as := [h12]) (zcS (As := [.ref h12, .int h2f0]) (rest := []) (Tc := [(h12, aJ (k 1) 9 anJ)]) hx hb hml hown hU hK hT [2] rfl (by decide) (cX7_isOne_2ccf3 l D k _ h12 h2f0 (by omega)) w413 w411 w412 w74 hdX7_isOne ⟨rfl, rfl⟩ ⟨Nat.le_of_ble_eq_true rfl, Nat.le_of_ble_eq_true rfl⟩ rfl hl.1 (Nat.le_of_ble_eq_true rfl) dX10_orderOf_40 ⟨Nat.le_of_ble_eq_true rfl, Nat.le_of_ble_eq_true rfl⟩) hT hS hA [2] [0, 1, 3, 4] rfl rfl rfl (by decide) (by decide) (fun r13 H locs hB J hS => ?_)
        obtain ⟨b_r13, hT1⟩ := hB
        have hT := J _ hT1
        have hT : TP D A [(h0, ob 7 [.ref h2, .ref h3, .int h0f2, .ref h4, .ref h5, .ref h6, .int h0f6, .ref h7, .int h0f8, .null, .ref h8, .int h0f11, .ref h9, .ref h10, .ref h11, .ref h12, .ref h13]), (h1, aJ (k 1) 36 anJ), (h13, aJ (k 1) 9 anJ), (h2, ob 4 [.int h2f0, .int h2f1, .int h2f2, .ref h1]), (h12, aJ (k 1) 9 anJ)] _ := hT
        refine lv_if_eq (tgt := 49) hx hb dX10_orderOf_43 (by decide) (fun c_14 => ?_) (fun c_14 => ?_)
        · skip
          have c_14 := ni_eq c_14 rfl li_0
          refine lv_aload_n hx hb dX10_orderOf_49 rfl (lv_at hl 0 rfl) ?_
          refine tz_get (ci := 7) (v := .ref h12) (C := RX10) (F := TX10) (N := 17) hx hb hU iX10 hown hK hT 0 rfl rfl 15 (by decide) w264 (fun _ h9 => h9) rfl dX10_orderOf_50 ?_
          refine lv_iload_n hx hb dX10_orderOf_53 rfl (lv_at hl 3 rfl) ?_
          refine lv_ldc2 hx hb hown (hU _ w414) dX10_orderOf_54 ?_
          have q_q16 := ll_1000000000
          refine tcI (Tc := [(h12, aJ (k 1) 9 anJ)]) (Tr := [(h0, ob 7 [.ref h2, .ref h3, .int h0f2, .ref h4, .ref h5, .ref h6, .int h0f6, .ref h7, .int h0f8, .null, .ref h8, .int h0f11, .ref h9, .ref h10, .ref h11, .ref h12, .ref h13]), (h1, aJ (k 1) 36 anJ), (h13, aJ (k 1) 9 anJ), (h2, ob 4 [.int h2f0, .int h2f1, .int h2f2, .ref h1])]) (as := [h12]) (zcS (As := [.ref h12, .int r1, .long 1000000000]) (rest := []) (Tc := [(h12, aJ (k 1) 9 anJ)]) hx hb hml hown hU hK hT [4] rfl (by decide) (cX7_isWithin_443ab l D k _ h12 r1 (1000000000) (by omega) (by have := ll_1000000000; omega)) w389 w387 w388 w74 hdX7_isWithin ⟨rfl, rfl⟩ ⟨Nat.le_of_ble_eq_true rfl, Nat.le_of_ble_eq_true rfl⟩ rfl hl.1 (Nat.le_of_ble_eq_true rfl) dX10_orderOf_57 ⟨Nat.le_of_ble_eq_true rfl, Nat.le_of_ble_eq_true rfl⟩) hT hS hA [4] [0, 1, 2, 3] rfl rfl rfl (by decide) (by decide) (fun r15 H locs hB J hS => ?_)
          obtain ⟨b_r15, hT1⟩ := hB
          have hT := J _ hT1
          have hT : TP D A [(h0, ob 7 [.ref h2, .ref h3, .int h0f2, .ref h4, .ref h5, .ref h6, .int h0f6, .ref h7, .int h0f8, .null, .ref h8, .int h0f11, .ref h9, .ref h10, .ref h11, .ref h12, .ref h13]), (h1, aJ (k 1) 36 anJ), (h13, aJ (k 1) 9 anJ), (h2, ob 4 [.int h2f0, .int h2f1, .int h2f2, .ref h1]), (h12, aJ (k 1) 9 anJ)] _ := hT
          refine lv_if_ne (tgt := 66) hx hb dX10_orderOf_60 (by decide) (fun c_17 => ?_) (fun c_17 => ?_)
          · skip
            have c_17 := ni_ne c_17 rfl li_0
            refine lv_aload_n hx hb dX10_orderOf_66 rfl (lv_at hl 0 rfl) ?_
            refine tz_get (ci := 7) (v := .ref h12) (C := RX10) (F := TX10) (N := 17) hx hb hU iX10 hown hK hT 0 rfl rfl 15 (by decide) w264 (fun _ h9 => h9) rfl dX10_orderOf_67 ?_
            refine lv_iconst (v := 0) hx hb dX10_orderOf_70 (by decide) ?_
            refine lv_aload_n hx hb dX10_orderOf_71 rfl (lv_at hl 1 rfl) ?_
            refine lv_iload_n hx hb dX10_orderOf_72 rfl (lv_at hl 2 rfl) ?_
            refine lv_aload_n hx hb dX10_orderOf_73 rfl (lv_at hl 0 rfl) ?_
            refine tz_get (ci := 7) (v := .ref h13) (C := RX10) (F := TX10) (N := 17) hx hb hU iX10 hown hK hT 0 rfl rfl 16 (by decide) w265 (fun _ h9 => h9) rfl dX10_orderOf_74 ?_
            refine lv_aload_n hx hb dX10_orderOf_77 rfl (lv_at hl 0 rfl) ?_
            refine tz_get (ci := 7) (v := .ref h2) (C := RX10) (F := TX10) (N := 17) hx hb hU iX10 hown hK hT 0 rfl rfl 0 (by decide) w249 (fun _ h9 => h9) rfl dX10_orderOf_78 ?_
            refine tz_get (ci := 4) (v := .int h2f0) (C := RX5) (F := TX5) (N := 4) hx hb hU iX5 hown hK hT 3 rfl rfl 0 (by decide) w93 (fun _ h9 => h9) rfl dX10_orderOf_81 ?_
            have q_q19 := li_0
            refine tcV (Tc := [(h12, aJ (k 1) 9 anJ), (h1, aJ (k 1) 36 anJ), (h13, aJ (k 1) 9 anJ)]) (Tr := [(h0, ob 7 [.ref h2, .ref h3, .int h0f2, .ref h4, .ref h5, .ref h6, .int h0f6, .ref h7, .int h0f8, .null, .ref h8, .int h0f11, .ref h9, .ref h10, .ref h11, .ref h12, .ref h13]), (h2, ob 4 [.int h2f0, .int h2f1, .int h2f2, .ref h1])]) (as := [h12, h1, h13]) (zcS (As := [.ref h12, .int 0, .ref h1, .int x2, .ref h13, .int h2f0]) (rest := []) (Tc := [(h12, aJ (k 1) 9 anJ), (h1, aJ (k 1) 36 anJ), (h13, aJ (k 1) 9 anJ)]) hx hb hml hown hU hK hT [4, 1, 2] rfl (by decide) (cX7_multiply_a4f9f l D k _ h12 h1 h13 (0) x2 h2f0 (by have := li_0; omega) (by omega) (by omega)) w363 w361 w362 w74 hdX7_multiply ⟨rfl, rfl⟩ ⟨Nat.le_of_ble_eq_true rfl, Nat.le_of_ble_eq_true rfl⟩ rfl hl.1 (Nat.le_of_ble_eq_true rfl) dX10_orderOf_84 ⟨Nat.le_of_ble_eq_true rfl, Nat.le_of_ble_eq_true rfl⟩) hT hS hA [4, 1, 2] [0, 3] rfl rfl rfl (by decide) (by decide) (fun H locs hB J hS => ?_)
            have hT1 := hB
            have hT := J _ hT1
            have hT : TP D A [(h0, ob 7 [.ref h2, .ref h3, .int h0f2, .ref h4, .ref h5, .ref h6, .int h0f6, .ref h7, .int h0f8, .null, .ref h8, .int h0f11, .ref h9, .ref h10, .ref h11, .ref h12, .ref h13]), (h2, ob 4 [.int h2f0, .int h2f1, .int h2f2, .ref h1]), (h12, aJ (k 1) 9 anJ), (h1, aJ (k 1) 36 anJ), (h13, aJ (k 1) 9 anJ)] _ := hT
            refine lv_aload_n hx hb dX10_orderOf_87 rfl (lv_at hl 0 rfl) ?_
            refine tz_get (ci := 7) (v := .ref h13) (C := RX10) (F := TX10) (N := 17) hx hb hU iX10 hown hK hT 0 rfl rfl 16 (by decide) w265 (fun _ h9 => h9) rfl dX10_orderOf_88 ?_
            refine lv_iconst (v := 0) hx hb dX10_orderOf_91 (by decide) ?_
            refine lv_aload_n hx hb dX10_orderOf_92 rfl (lv_at hl 0 rfl) ?_
            refine tz_get (ci := 7) (v := .ref h12) (C := RX10) (F := TX10) (N := 17) hx hb hU iX10 hown hK hT 0 rfl rfl 15 (by decide) w264 (fun _ h9 => h9) rfl dX10_orderOf_93 ?_
            refine lv_iconst (v := 0) hx hb dX10_orderOf_96 (by decide) ?_
            refine lv_iload_n hx hb dX10_orderOf_97 rfl (lv_at hl 3 rfl) ?_
            refine tz_copyl hx hb (by rw [hml]; exact hl.1.symm) hown hU w410 w348 w347 w75 hK hT hS 4 2 rfl rfl (by have := li_0; omega) (fun _ _ _ _ => trivial) (Nat.le_of_ble_eq_true rfl) (Nat.le_of_ble_eq_true rfl) dX10_orderOf_98 (fun H locs hT hS => ?_)
            obtain ⟨v20, e_v20⟩ : ∃ x : Int32, x = y10 + Int32.ofInt 1 := ⟨_, rfl⟩
            have f_v20 := e_v20.symm
            have e_v20 : v20.toInt = y10.toInt + 1 := ai_add e_v20 rfl (show (Int32.ofInt 1).toInt = 1 from (by decide +kernel)) (by omega)
            refine lv_iinc (v := v20) (lv' := [(4, .int v20), (0, .ref h0), (1, .ref h1), (2, .int x2), (3, .int r1)]) hx hb dX10_orderOf_101 hl (k := 4) rfl f_v20 (by decide) rfl (fun ls hl => ?_)
            refine lv_goto (tgt := 22) hx hb dX10_orderOf_104 (by decide) ?_
            exact ih22_11 v20 _ _ _ (by omega)  (by omega) (hT.sub [0, 3, 2, 4, 1] (by decide) rfl) hS (lv_sub hl [1, 2, 3, 4, 0] rfl)
          · skip
            have c_17 := ni_eq c_17 rfl li_0
            refine lv_bipush (v := (-3)) hx hb dX10_orderOf_63 (by decide) ?_
            exact tz_retI (B := B_cX10_orderOf_9632f D k h0 h1 h2 h12 h13 h3 h4 h5 h6 h7 h8 h9 h10 h11 x2 h0f2 h0f6 h0f8 h0f11 h2f0 h2f1 h2f2) (v := (-3)) hQ hx hb hr hlocks hS (Nat.le_of_ble_eq_true rfl) (Nat.le_of_ble_eq_true rfl) dX10_orderOf_65 (⟨(by have := li_m3; omega), (hT.sub [0, 1, 3, 4, 2] (by decide) rfl)⟩)
        · skip
          have c_14 := ni_ne c_14 rfl li_0
          refine lv_iload hx hb dX10_orderOf_46 (lv_at hl 4 rfl) ?_
          exact tz_retI (B := B_cX10_orderOf_9632f D k h0 h1 h2 h12 h13 h3 h4 h5 h6 h7 h8 h9 h10 h11 x2 h0f2 h0f6 h0f8 h0f11 h2f0 h2f1 h2f2) (v := y10) hQ hx hb hr hlocks hS (Nat.le_of_ble_eq_true rfl) (Nat.le_of_ble_eq_true rfl) dX10_orderOf_48 (⟨(by omega), (hT.sub [0, 1, 3, 4, 2] (by decide) rfl)⟩)
  exact lp22_11 (((-1) * (1 : Int32).toInt + 12 + 1).toNat + 1) (1) _ _ _ (by have := li_1; omega)  (Nat.lt_succ_self _) hT hS (lv_sub hl [2, 3, 4, 1, 0] rfl)
abbrev Rm_cX7_trace_e2d54 : Room := { frames := 0, cells := 0, slots := 0, locals := 0 }
abbrev B_cX7_trace_e2d54 (D : va_G) (k : Nat → ClassId) (h0 : Nat) (x1 : Int32) (x2 : Int32) (A : Nat → Prop) (r : Int64) (H : Heap) : Prop := TP D A [(h0, aJ (k 1) 36 anJ)] H
set_option maxHeartbeats 4000000 in
set_option maxRecDepth 100000 in
theorem cX7_trace_e2d54 (l : Launch) (D : va_G) (k : Nat → ClassId) (sz : Nat) (h0 : Nat) (x1 : Int32) (x2 : Int32) (b_x1 : 0 ≤ x1.toInt ∧ x1.toInt ≤ 27) (b_x2 : 1 ≤ x2.toInt ∧ x2.toInt ≤ 3) : Met l yX7_trace (Cond.code yX7_trace cX7_trace 6 (some .long) :: uw) Rm_cX7_trace_e2d54 (pT D k sz [.ref h0, .int x1, .int x2] [(h0, aJ (k 1) 36 anJ)]) (qL (B_cX7_trace_e2d54 D k h0 x1 x2 (zA [h0] sz)) (zA [h0] sz)) 0 0 (zA [h0] sz) := by
  refine tz_begin (as := [h0]) (Qc := fun A => qL (B_cX7_trace_e2d54 D k h0 x1 x2 A) A) (by decide +kernel) rfl (Nat.le_of_ble_eq_true rfl) ?_
  intro p e s m args below meth c ls A Q hx hb hr hml hown hlocks hin hU hK hT hS hA hl hQ
  have hl : lv_has ls 6 [(0, .ref h0), (1, .int x1), (2, .int x2)] := hl
  have hT : TP D A [(h0, aJ (k 1) 36 anJ)] s.heap := hT
  refine lv_lconst (v := 0) hx hb dX7_trace_0 (by decide) ?_
  refine lv_lstore_n (lv' := [(3, .long 0), (0, .ref h0), (1, .int x1), (2, .int x2)]) hx hb dX7_trace_1 rfl hl (by decide) rfl (fun ls hl => ?_)
  refine lv_iconst (v := 0) hx hb dX7_trace_2 (by decide) ?_
  refine lv_istore (lv' := [(5, .int 0), (3, .long 0), (0, .ref h0), (1, .int x1), (2, .int x2)]) hx hb dX7_trace_3 hl (by decide) rfl (fun ls hl => ?_)
  have lp5_7 : ∀ (n : Nat) (y5 : Int32) (y6 : Int64) (H : Heap) (locs : List Loc) (ls : Array Slot), (0 ≤ y5.toInt ∧ y5.toInt ≤ 3) → (x2.toInt + (-1) * y5.toInt + 1).toNat < n → TP D A [(h0, aJ (k 1) 36 anJ)] H → va_S A s.heap H locs → lv_has ls 6 [(0, .ref h0), (1, .int x1), (2, .int x2), (3, .long y6), (5, .int y5)] → W p l e Rm_cX7_trace_e2d54 s m args below meth c H locs 0 0 Q (F0 m 5 ls []) := by
    intro n
    induction n with
    | zero => intro y5 y6 H locs ls b_y5 hm hT hS hl; exact absurd hm (Nat.not_lt_zero _)
    | succ n ih =>
      intro y5 y6 H locs ls b_y5 hm hT hS hl
      have ih5_7 := ih
      clear ih
      refine lv_iload hx hb dX7_trace_5 (lv_at hl 4 rfl) ?_
      refine lv_iload_n hx hb dX7_trace_7 rfl (lv_at hl 2 rfl) ?_
      refine lv_icmp_ge (tgt := 31) hx hb dX7_trace_8 (by decide) (fun c_8 => ?_) (fun c_8 => ?_)
      · skip
        have c_8 := ni_le c_8 rfl rfl
        refine lv_lload_n hx hb dX7_trace_31 rfl (lv_at hl 3 rfl) ?_
        exact tz_retL (B := B_cX7_trace_e2d54 D k h0 x1 x2) (v := y6) hQ hx hb hr hlocks hS (Nat.le_of_ble_eq_true rfl) (Nat.le_of_ble_eq_true rfl) dX7_trace_32 (hT)
      · skip
        have c_8 := ni_nle c_8 rfl rfl
        refine lv_lload_n hx hb dX7_trace_11 rfl (lv_at hl 3 rfl) ?_
        refine lv_aload_n hx hb dX7_trace_12 rfl (lv_at hl 0 rfl) ?_
        refine lv_iload_n hx hb dX7_trace_13 rfl (lv_at hl 1 rfl) ?_
        refine lv_iload hx hb dX7_trace_14 (lv_at hl 4 rfl) ?_
        refine lv_iload_n hx hb dX7_trace_16 rfl (lv_at hl 2 rfl) ?_
        refine lv_imul hx hb dX7_trace_17 (lv_topi (fun v9 e_v9 => ?_))
        have e_v9 := ai_mm (la := 0) (ua := 2) (lb := 1) (ub := 3) e_v9 rfl rfl (by omega) (by decide)
        refine lv_iadd hx hb dX7_trace_18 (lv_topi (fun v10 e_v10 => ?_))
        have e_v10 := ai_add e_v10 rfl rfl (by omega)
        refine lv_iload hx hb dX7_trace_19 (lv_at hl 4 rfl) ?_
        refine lv_iadd hx hb dX7_trace_21 (lv_topi (fun v11 e_v11 => ?_))
        have e_v11 := ai_add e_v11 rfl rfl (by omega)
        refine tz_lald hx hb hK hT 0 rfl (by omega) dX7_trace_22 (fun v12 e_v12 => ?_)
        clear e_v12
        refine lv_ladd hx hb dX7_trace_23 (lv_topl (fun v13 e_v13 => ?_))
        refine lv_lstore_n (lv' := [(3, .long v13), (0, .ref h0), (1, .int x1), (2, .int x2), (5, .int y5)]) hx hb dX7_trace_24 rfl hl (by decide) rfl (fun ls hl => ?_)
        obtain ⟨v14, e_v14⟩ : ∃ x : Int32, x = y5 + Int32.ofInt 1 := ⟨_, rfl⟩
        have f_v14 := e_v14.symm
        have e_v14 : v14.toInt = y5.toInt + 1 := ai_add e_v14 rfl (show (Int32.ofInt 1).toInt = 1 from (by decide +kernel)) (by omega)
        refine lv_iinc (v := v14) (lv' := [(5, .int v14), (3, .long v13), (0, .ref h0), (1, .int x1), (2, .int x2)]) hx hb dX7_trace_25 hl (k := 4) rfl f_v14 (by decide) rfl (fun ls hl => ?_)
        refine lv_goto (tgt := 5) hx hb dX7_trace_28 (by decide) ?_
        exact ih5_7 v14 v13 _ _ _ (by omega)  (by omega) hT hS (lv_sub hl [2, 3, 4, 1, 0] rfl)
  exact lp5_7 ((x2.toInt + (-1) * (0 : Int32).toInt + 1).toNat + 1) (0) (0) _ _ _ (by have := li_0; have := ll_0; omega)  (Nat.lt_succ_self _) hT hS (lv_sub hl [2, 3, 4, 1, 0] rfl)
abbrev Rm_cX10_of_0ec66 : Room := { frames := 3, cells := 0, slots := 0, locals := 80 }
abbrev B_cX10_of_0ec66 (D : va_G) (k : Nat → ClassId) (h0 h1 h11 h12 h13 h2 h3 h4 h5 h6 h7 h8 h9 h10 : Nat) (x1 : Int32) (x2 : Int32) (h0f2 : Int32) (h0f6 : Int32) (h0f8 : Int32) (h0f11 : Int32) (h1f0 : Int32) (h1f1 : Int32) (h1f2 : Int32) (A : Nat → Prop) (r : Int32) (H : Heap) : Prop := TP D A [(h0, ob 7 [.ref h1, .ref h2, .int h0f2, .ref h3, .ref h4, .ref h5, .int h0f6, .ref h6, .int h0f8, .null, .ref h7, .int h0f11, .ref h8, .ref h9, .ref h10, .ref h11, .ref h12]), (h1, ob 4 [.int h1f0, .int h1f1, .int h1f2, .ref h13]), (h11, aJ (k 1) 9 anJ), (h12, aJ (k 1) 9 anJ), (h13, aJ (k 1) 36 anJ)] H
set_option maxHeartbeats 4000000 in
set_option maxRecDepth 100000 in
theorem cX10_of_0ec66 (l : Launch) (D : va_G) (k : Nat → ClassId) (sz : Nat) (h0 h1 h11 h12 h13 h2 h3 h4 h5 h6 h7 h8 h9 h10 : Nat) (x1 : Int32) (x2 : Int32) (h0f2 : Int32) (h0f6 : Int32) (h0f8 : Int32) (h0f11 : Int32) (h1f0 : Int32) (h1f1 : Int32) (h1f2 : Int32) (b_h0f2 : 0 ≤ h0f2.toInt ∧ h0f2.toInt ≤ 1) (b_h0f6 : 0 ≤ h0f6.toInt ∧ h0f6.toInt ≤ 1) (b_h0f8 : 0 ≤ h0f8.toInt ∧ h0f8.toInt ≤ 1) (b_h0f11 : 0 ≤ h0f11.toInt ∧ h0f11.toInt ≤ 200) (b_h1f0 : 1 ≤ h1f0.toInt ∧ h1f0.toInt ≤ 3) (b_h1f1 : 0 ≤ h1f1.toInt ∧ h1f1.toInt ≤ 4) : Met l yX10_of (Cond.code yX10_of cX10_of 4 (some .int) :: uw) Rm_cX10_of_0ec66 (pT D k sz [.ref h0, .int x1, .int x2] [(h0, ob 7 [.ref h1, .ref h2, .int h0f2, .ref h3, .ref h4, .ref h5, .int h0f6, .ref h6, .int h0f8, .null, .ref h7, .int h0f11, .ref h8, .ref h9, .ref h10, .ref h11, .ref h12]), (h1, ob 4 [.int h1f0, .int h1f1, .int h1f2, .ref h13]), (h11, aJ (k 1) 9 anJ), (h12, aJ (k 1) 9 anJ), (h13, aJ (k 1) 36 anJ)]) (qI (B_cX10_of_0ec66 D k h0 h1 h11 h12 h13 h2 h3 h4 h5 h6 h7 h8 h9 h10 x1 x2 h0f2 h0f6 h0f8 h0f11 h1f0 h1f1 h1f2 (zA [h0, h1, h11, h12, h13] sz)) (zA [h0, h1, h11, h12, h13] sz)) 0 0 (zA [h0, h1, h11, h12, h13] sz) := by
  refine tz_begin (as := [h0, h1, h11, h12, h13]) (Qc := fun A => qI (B_cX10_of_0ec66 D k h0 h1 h11 h12 h13 h2 h3 h4 h5 h6 h7 h8 h9 h10 x1 x2 h0f2 h0f6 h0f8 h0f11 h1f0 h1f1 h1f2 A) A) (by decide +kernel) rfl (Nat.le_of_ble_eq_true rfl) ?_
  intro p e s m args below meth c ls A Q hx hb hr hml hown hlocks hin hU hK hT hS hA hl hQ
  have hl : lv_has ls 4 [(0, .ref h0), (1, .int x1), (2, .int x2)] := hl
  have hT : TP D A [(h0, ob 7 [.ref h1, .ref h2, .int h0f2, .ref h3, .ref h4, .ref h5, .int h0f6, .ref h6, .int h0f8, .null, .ref h7, .int h0f11, .ref h8, .ref h9, .ref h10, .ref h11, .ref h12]), (h1, ob 4 [.int h1f0, .int h1f1, .int h1f2, .ref h13]), (h11, aJ (k 1) 9 anJ), (h12, aJ (k 1) 9 anJ), (h13, aJ (k 1) 36 anJ)] s.heap := hT
  refine lv_aload_n hx hb dX10_of_0 rfl (lv_at hl 0 rfl) ?_
  refine tz_get (ci := 7) (v := .ref h1) (C := RX10) (F := TX10) (N := 17) hx hb hU iX10 hown hK hT 0 rfl rfl 0 (by decide) w249 (fun _ h9 => h9) rfl dX10_of_1 ?_
  refine lv_iload_n hx hb dX10_of_4 rfl (lv_at hl 1 rfl) ?_
  refine tcI (Tc := [(h1, ob 4 [.int h1f0, .int h1f1, .int h1f2, .ref h13])]) (Tr := [(h0, ob 7 [.ref h1, .ref h2, .int h0f2, .ref h3, .ref h4, .ref h5, .int h0f6, .ref h6, .int h0f8, .null, .ref h7, .int h0f11, .ref h8, .ref h9, .ref h10, .ref h11, .ref h12]), (h11, aJ (k 1) 9 anJ), (h12, aJ (k 1) 9 anJ), (h13, aJ (k 1) 36 anJ)]) (as := [h1]) (zcV (q0 := 1) (ci := 4) (As := [.int x1]) (rest := []) (Tc := [(h1, ob 4 [.int h1f0, .int h1f1, .int h1f2, .ref h13])]) hx hb hml hown hU hK hT rfl rfl [1] rfl (by decide) (cX5_has_64567 l D k _ h1 h13 x1 h1f0 h1f1 h1f2 (by omega) (by omega)) w356 w353 w354 w355 w64 hdX5_has ⟨rfl, rfl⟩ ⟨Nat.le_of_ble_eq_true rfl, Nat.le_of_ble_eq_true rfl⟩ rfl hl.1 (Nat.le_of_ble_eq_true rfl) dX10_of_5 ⟨Nat.le_of_ble_eq_true rfl, Nat.le_of_ble_eq_true rfl⟩) hT hS hA [1] [0, 2, 3, 4] rfl rfl rfl (by decide) (by decide) (fun r1 H locs hB J hS => ?_)
  rcases hB with ⟨rfl, hT1⟩ | ⟨c_2, c_3, rfl, hT1⟩
  · skip
    have hT := J _ hT1
    have hT : TP D A [(h0, ob 7 [.ref h1, .ref h2, .int h0f2, .ref h3, .ref h4, .ref h5, .int h0f6, .ref h6, .int h0f8, .null, .ref h7, .int h0f11, .ref h8, .ref h9, .ref h10, .ref h11, .ref h12]), (h11, aJ (k 1) 9 anJ), (h12, aJ (k 1) 9 anJ), (h13, aJ (k 1) 36 anJ), (h1, ob 4 [.int h1f0, .int h1f1, .int h1f2, .ref h13])] _ := hT
    refine lv_if_eq (tgt := 20) hx hb dX10_of_8 (by decide) (fun _ => ?_) (fun cc => absurd (by decide +kernel) cc)
    refine lv_iconst (v := (-1)) hx hb dX10_of_20 (by decide) ?_
    exact tz_retI (B := B_cX10_of_0ec66 D k h0 h1 h11 h12 h13 h2 h3 h4 h5 h6 h7 h8 h9 h10 x1 x2 h0f2 h0f6 h0f8 h0f11 h1f0 h1f1 h1f2) (v := (-1)) hQ hx hb hr hlocks hS (Nat.le_of_ble_eq_true rfl) (Nat.le_of_ble_eq_true rfl) dX10_of_21 ((hT.sub [0, 4, 1, 2, 3] (by decide) rfl))
  · skip
    have hT := J _ hT1
    have hT : TP D A [(h0, ob 7 [.ref h1, .ref h2, .int h0f2, .ref h3, .ref h4, .ref h5, .int h0f6, .ref h6, .int h0f8, .null, .ref h7, .int h0f11, .ref h8, .ref h9, .ref h10, .ref h11, .ref h12]), (h11, aJ (k 1) 9 anJ), (h12, aJ (k 1) 9 anJ), (h13, aJ (k 1) 36 anJ), (h1, ob 4 [.int h1f0, .int h1f1, .int h1f2, .ref h13])] _ := hT
    refine lv_if_eq (tgt := 20) hx hb dX10_of_8 (by decide) (fun cc => absurd cc (by decide +kernel)) (fun _ => ?_)
    refine lv_iload_n hx hb dX10_of_11 rfl (lv_at hl 2 rfl) ?_
    refine lv_if_lt (tgt := 20) hx hb dX10_of_12 (by decide) (fun c_4 => ?_) (fun c_4 => ?_)
    · skip
      have c_4 := ni_lt c_4 rfl li_0
      refine lv_iconst (v := (-1)) hx hb dX10_of_20 (by decide) ?_
      exact tz_retI (B := B_cX10_of_0ec66 D k h0 h1 h11 h12 h13 h2 h3 h4 h5 h6 h7 h8 h9 h10 x1 x2 h0f2 h0f6 h0f8 h0f11 h1f0 h1f1 h1f2) (v := (-1)) hQ hx hb hr hlocks hS (Nat.le_of_ble_eq_true rfl) (Nat.le_of_ble_eq_true rfl) dX10_of_21 ((hT.sub [0, 4, 1, 2, 3] (by decide) rfl))
    · skip
      have c_4 := ni_nlt c_4 rfl li_0
      refine lv_iload_n hx hb dX10_of_15 rfl (lv_at hl 2 rfl) ?_
      refine lv_iconst (v := 2) hx hb dX10_of_16 (by decide) ?_
      refine lv_icmp_le (tgt := 22) hx hb dX10_of_17 (by decide) (fun c_5 => ?_) (fun c_5 => ?_)
      · skip
        have c_5 := ni_le c_5 rfl li_2
        refine lv_iload_n hx hb dX10_of_22 rfl (lv_at hl 1 rfl) ?_
        refine lv_bipush (v := 9) hx hb dX10_of_23 (by decide) ?_
        refine lv_imul hx hb dX10_of_25 (lv_topi (fun v6 e_v6 => ?_))
        have e_v6 := ai_mul e_v6 rfl li_9 (by omega)
        refine lv_istore_n (lv' := [(3, .int v6), (0, .ref h0), (1, .int x1), (2, .int x2)]) hx hb dX10_of_26 rfl hl (by decide) rfl (fun ls hl => ?_)
        refine lv_iload_n hx hb dX10_of_27 rfl (lv_at hl 3 rfl) ?_
        refine lv_if_ne (tgt := 62) hx hb dX10_of_28 (by decide) (fun c_7 => ?_) (fun c_7 => ?_)
        · skip
          have c_7 := ni_ne c_7 rfl li_0
          refine lv_iload_n hx hb dX10_of_62 rfl (lv_at hl 3 rfl) ?_
          refine lv_iconst (v := 1) hx hb dX10_of_63 (by decide) ?_
          refine lv_icmp_ne (tgt := 91) hx hb dX10_of_64 (by decide) (fun c_8 => ?_) (fun c_8 => ?_)
          · skip
            have c_8 := ni_ne c_8 rfl li_1
            refine lv_aload_n hx hb dX10_of_91 rfl (lv_at hl 1 rfl) ?_
            refine lv_aload_n hx hb dX10_of_92 rfl (lv_at hl 1 rfl) ?_
            refine tz_get (ci := 7) (v := .ref h1) (C := RX10) (F := TX10) (N := 17) hx hb hU iX10 hown hK hT 0 rfl rfl 0 (by decide) w249 (fun _ h9 => h9) rfl dX10_of_93 ?_
            refine tz_get (ci := 4) (v := .ref h13) (C := RX5) (F := TX5) (N := 4) hx hb hU iX5 hown hK hT 4 rfl rfl 3 (by decide) w103 (fun _ h9 => h9) rfl dX10_of_96 ?_
            refine lv_iload_n hx hb dX10_of_99 rfl (lv_at hl 0 rfl) ?_
            refine tcI (Tc := [(h0, ob 7 [.ref h1, .ref h2, .int h0f2, .ref h3, .ref h4, .ref h5, .int h0f6, .ref h6, .int h0f8, .null, .ref h7, .int h0f11, .ref h8, .ref h9, .ref h10, .ref h11, .ref h12]), (h13, aJ (k 1) 36 anJ), (h1, ob 4 [.int h1f0, .int h1f1, .int h1f2, .ref h13]), (h11, aJ (k 1) 9 anJ), (h12, aJ (k 1) 9 anJ)]) (Tr := []) (as := [h0, h13, h1, h11, h12]) (zcV (q0 := 0) (ci := 7) (As := [.ref h13, .int v6]) (rest := []) (Tc := [(h0, ob 7 [.ref h1, .ref h2, .int h0f2, .ref h3, .ref h4, .ref h5, .int h0f6, .ref h6, .int h0f8, .null, .ref h7, .int h0f11, .ref h8, .ref h9, .ref h10, .ref h11, .ref h12]), (h13, aJ (k 1) 36 anJ), (h1, ob 4 [.int h1f0, .int h1f1, .int h1f2, .ref h13]), (h11, aJ (k 1) 9 anJ), (h12, aJ (k 1) 9 anJ)]) hx hb hml hown hU hK hT rfl rfl [0, 3, 4, 1, 2] rfl (by decide) (cX10_orderOf_9632f l D k _ h0 h13 h1 h11 h12 h2 h3 h4 h5 h6 h7 h8 h9 h10 v6 h0f2 h0f6 h0f8 h0f11 h1f0 h1f1 h1f2 (by omega) (by omega) (by omega) (by omega) (by omega) (by omega) (by omega)) w409 w406 w408 w4 w63 hdX10_orderOf ⟨rfl, rfl⟩ ⟨Nat.le_of_ble_eq_true rfl, Nat.le_of_ble_eq_true rfl⟩ rfl hl.1 (Nat.le_of_ble_eq_true rfl) dX10_of_100 ⟨Nat.le_of_ble_eq_true rfl, Nat.le_of_ble_eq_true rfl⟩) hT hS hA [0, 3, 4, 1, 2] [] rfl rfl rfl (by decide) (by decide) (fun r9 H locs hB J hS => ?_)
            obtain ⟨b_r9, hT1⟩ := hB
            have hT := J _ hT1
            have hT : TP D A [(h0, ob 7 [.ref h1, .ref h2, .int h0f2, .ref h3, .ref h4, .ref h5, .int h0f6, .ref h6, .int h0f8, .null, .ref h7, .int h0f11, .ref h8, .ref h9, .ref h10, .ref h11, .ref h12]), (h13, aJ (k 1) 36 anJ), (h1, ob 4 [.int h1f0, .int h1f1, .int h1f2, .ref h13]), (h11, aJ (k 1) 9 anJ), (h12, aJ (k 1) 9 anJ)] _ := hT
            exact tz_retI (B := B_cX10_of_0ec66 D k h0 h1 h11 h12 h13 h2 h3 h4 h5 h6 h7 h8 h9 h10 x1 x2 h0f2 h0f6 h0f8 h0f11 h1f0 h1f1 h1f2) (v := r9) hQ hx hb hr hlocks hS (Nat.le_of_ble_eq_true rfl) (Nat.le_of_ble_eq_true rfl) dX10_of_103 ((hT.sub [0, 2, 3, 4, 1] (by decide) rfl))
          · skip
            have c_8 := ni_eq c_8 rfl li_1
            refine lv_sipush (v := 1000) hx hb dX10_of_67 (by decide) ?_
            refine lv_aload_n hx hb dX10_of_70 rfl (lv_at hl 1 rfl) ?_
            refine tz_get (ci := 7) (v := .ref h1) (C := RX10) (F := TX10) (N := 17) hx hb hU iX10 hown hK hT 0 rfl rfl 0 (by decide) w249 (fun _ h9 => h9) rfl dX10_of_71 ?_
            refine tz_get (ci := 4) (v := .ref h13) (C := RX5) (F := TX5) (N := 4) hx hb hU iX5 hown hK hT 4 rfl rfl 3 (by decide) w103 (fun _ h9 => h9) rfl dX10_of_74 ?_
            refine lv_iload_n hx hb dX10_of_77 rfl (lv_at hl 0 rfl) ?_
            refine lv_aload_n hx hb dX10_of_78 rfl (lv_at hl 1 rfl) ?_
            refine tz_get (ci := 7) (v := .ref h1) (C := RX10) (F := TX10) (N := 17) hx hb hU iX10 hown hK hT 0 rfl rfl 0 (by decide) w249 (fun _ h9 => h9) rfl dX10_of_79 ?_
            refine tz_get (ci := 4) (v := .int h1f0) (C := RX5) (F := TX5) (N := 4) hx hb hU iX5 hown hK hT 4 rfl rfl 0 (by decide) w93 (fun _ h9 => h9) rfl dX10_of_82 ?_
            refine tcL (Tc := [(h13, aJ (k 1) 36 anJ)]) (Tr := [(h0, ob 7 [.ref h1, .ref h2, .int h0f2, .ref h3, .ref h4, .ref h5, .int h0f6, .ref h6, .int h0f8, .null, .ref h7, .int h0f11, .ref h8, .ref h9, .ref h10, .ref h11, .ref h12]), (h11, aJ (k 1) 9 anJ), (h12, aJ (k 1) 9 anJ), (h1, ob 4 [.int h1f0, .int h1f1, .int h1f2, .ref h13])]) (as := [h13]) (zcS (As := [.ref h13, .int v6, .int h1f0]) (rest := [.int 1000]) (Tc := [(h13, aJ (k 1) 36 anJ)]) hx hb hml hown hU hK hT [3] rfl (by decide) (cX7_trace_e2d54 l D k _ h13 v6 h1f0 (by omega) (by omega)) w405 w403 w404 w74 hdX7_trace ⟨rfl, rfl⟩ ⟨Nat.le_of_ble_eq_true rfl, Nat.le_of_ble_eq_true rfl⟩ rfl hl.1 (Nat.le_of_ble_eq_true rfl) dX10_of_85 ⟨Nat.le_of_ble_eq_true rfl, Nat.le_of_ble_eq_true rfl⟩) hT hS hA [3] [0, 1, 2, 4] rfl rfl rfl (by decide) (by decide) (fun r10 H locs hB J hS => ?_)
            have hT1 := hB
            have hT := J _ hT1
            have hT : TP D A [(h0, ob 7 [.ref h1, .ref h2, .int h0f2, .ref h3, .ref h4, .ref h5, .int h0f6, .ref h6, .int h0f8, .null, .ref h7, .int h0f11, .ref h8, .ref h9, .ref h10, .ref h11, .ref h12]), (h11, aJ (k 1) 9 anJ), (h12, aJ (k 1) 9 anJ), (h1, ob 4 [.int h1f0, .int h1f1, .int h1f2, .ref h13]), (h13, aJ (k 1) 36 anJ)] _ := hT
            refine lv_l2i hx hb dX10_of_88 rfl (lv_topi (fun v11 _ => ?_))
            refine lv_iadd hx hb dX10_of_89 (lv_topi (fun v12 e_v12 => ?_))
            exact tz_retI (B := B_cX10_of_0ec66 D k h0 h1 h11 h12 h13 h2 h3 h4 h5 h6 h7 h8 h9 h10 x1 x2 h0f2 h0f6 h0f8 h0f11 h1f0 h1f1 h1f2) (v := v12) hQ hx hb hr hlocks hS (Nat.le_of_ble_eq_true rfl) (Nat.le_of_ble_eq_true rfl) dX10_of_90 ((hT.sub [0, 3, 1, 2, 4] (by decide) rfl))
        · skip
          have c_7 := ni_eq c_7 rfl li_0
          refine lv_sipush (v := 1000) hx hb dX10_of_31 (by decide) ?_
          refine lv_aload_n hx hb dX10_of_34 rfl (lv_at hl 1 rfl) ?_
          refine tz_get (ci := 7) (v := .ref h1) (C := RX10) (F := TX10) (N := 17) hx hb hU iX10 hown hK hT 0 rfl rfl 0 (by decide) w249 (fun _ h9 => h9) rfl dX10_of_35 ?_
          refine tz_get (ci := 4) (v := .ref h13) (C := RX5) (F := TX5) (N := 4) hx hb hU iX5 hown hK hT 4 rfl rfl 3 (by decide) w103 (fun _ h9 => h9) rfl dX10_of_38 ?_
          refine lv_iload_n hx hb dX10_of_41 rfl (lv_at hl 0 rfl) ?_
          refine lv_aload_n hx hb dX10_of_42 rfl (lv_at hl 1 rfl) ?_
          refine tz_get (ci := 7) (v := .ref h1) (C := RX10) (F := TX10) (N := 17) hx hb hU iX10 hown hK hT 0 rfl rfl 0 (by decide) w249 (fun _ h9 => h9) rfl dX10_of_43 ?_
          refine tz_get (ci := 4) (v := .int h1f0) (C := RX5) (F := TX5) (N := 4) hx hb hU iX5 hown hK hT 4 rfl rfl 0 (by decide) w93 (fun _ h9 => h9) rfl dX10_of_46 ?_
          refine lv_aload_n hx hb dX10_of_49 rfl (lv_at hl 1 rfl) ?_
          refine tz_get (ci := 7) (v := .ref h1) (C := RX10) (F := TX10) (N := 17) hx hb hU iX10 hown hK hT 0 rfl rfl 0 (by decide) w249 (fun _ h9 => h9) rfl dX10_of_50 ?_
          refine tz_get (ci := 4) (v := .int h1f0) (C := RX5) (F := TX5) (N := 4) hx hb hU iX5 hown hK hT 4 rfl rfl 0 (by decide) w93 (fun _ h9 => h9) rfl dX10_of_53 ?_
          refine tcL (Tc := [(h13, aJ (k 1) 36 anJ)]) (Tr := [(h0, ob 7 [.ref h1, .ref h2, .int h0f2, .ref h3, .ref h4, .ref h5, .int h0f6, .ref h6, .int h0f8, .null, .ref h7, .int h0f11, .ref h8, .ref h9, .ref h10, .ref h11, .ref h12]), (h11, aJ (k 1) 9 anJ), (h12, aJ (k 1) 9 anJ), (h1, ob 4 [.int h1f0, .int h1f1, .int h1f2, .ref h13])]) (as := [h13]) (zcS (As := [.ref h13, .int v6, .int h1f0, .int h1f0]) (rest := [.int 1000]) (Tc := [(h13, aJ (k 1) 36 anJ)]) hx hb hml hown hU hK hT [3] rfl (by decide) (cX7_determinant_05929 l D k _ h13 v6 h1f0 h1f0 (by omega) (by omega) (by omega)) w372 w402 w371 w74 hdX7_determinant ⟨rfl, rfl⟩ ⟨Nat.le_of_ble_eq_true rfl, Nat.le_of_ble_eq_true rfl⟩ rfl hl.1 (Nat.le_of_ble_eq_true rfl) dX10_of_56 ⟨Nat.le_of_ble_eq_true rfl, Nat.le_of_ble_eq_true rfl⟩) hT hS hA [3] [0, 1, 2, 4] rfl rfl rfl (by decide) (by decide) (fun r13 H locs hB J hS => ?_)
          have hT1 := hB
          have hT := J _ hT1
          have hT : TP D A [(h0, ob 7 [.ref h1, .ref h2, .int h0f2, .ref h3, .ref h4, .ref h5, .int h0f6, .ref h6, .int h0f8, .null, .ref h7, .int h0f11, .ref h8, .ref h9, .ref h10, .ref h11, .ref h12]), (h11, aJ (k 1) 9 anJ), (h12, aJ (k 1) 9 anJ), (h1, ob 4 [.int h1f0, .int h1f1, .int h1f2, .ref h13]), (h13, aJ (k 1) 36 anJ)] _ := hT
          refine lv_l2i hx hb dX10_of_59 rfl (lv_topi (fun v14 _ => ?_))
          refine lv_iadd hx hb dX10_of_60 (lv_topi (fun v15 e_v15 => ?_))
          exact tz_retI (B := B_cX10_of_0ec66 D k h0 h1 h11 h12 h13 h2 h3 h4 h5 h6 h7 h8 h9 h10 x1 x2 h0f2 h0f6 h0f8 h0f11 h1f0 h1f1 h1f2) (v := v15) hQ hx hb hr hlocks hS (Nat.le_of_ble_eq_true rfl) (Nat.le_of_ble_eq_true rfl) dX10_of_61 ((hT.sub [0, 3, 1, 2, 4] (by decide) rfl))
      · skip
        have c_5 := ni_nle c_5 rfl li_2
        refine lv_iconst (v := (-1)) hx hb dX10_of_20 (by decide) ?_
        exact tz_retI (B := B_cX10_of_0ec66 D k h0 h1 h11 h12 h13 h2 h3 h4 h5 h6 h7 h8 h9 h10 x1 x2 h0f2 h0f6 h0f8 h0f11 h1f0 h1f1 h1f2) (v := (-1)) hQ hx hb hr hlocks hS (Nat.le_of_ble_eq_true rfl) (Nat.le_of_ble_eq_true rfl) dX10_of_21 ((hT.sub [0, 4, 1, 2, 3] (by decide) rfl))
