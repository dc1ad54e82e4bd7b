abbrev Rm_cX10_point_2daab : Room := { frames := 1, cells := 0, slots := 0, locals := 21 }
abbrev B_cX10_point_2daab (D : va_G) (k : Nat → ClassId) (h0 h1 h6 h29 h2 h3 h4 h5 h7 h8 h9 h10 h11 h12 h13 h30 h31 h32 h33 h34 h35 h36 : Nat) (x1 : Int32) (x2 : Int32) (h0f2 : Int32) (h0f6 : Int32) (h0f8 : Int32) (h0f11 : Int32) (h1f0 : Int32) (h1f1 : Int32) (h1f2 : Int32) (h6f8 : Int32) (h6f9 : Int32) (h6f10 : Int32) (h6f11 : Int32) (A : Nat → Prop) (r : Int64) (H : Heap) : Prop := TP D A [(h0, ob 7 [.ref h1, .ref h2, .int h0f2, .ref h3, .ref h4, .ref h5, .int h0f6, .ref h6, .int h0f8, .null, .ref h7, .int h0f11, .ref h8, .ref h9, .ref h10, .ref h11, .ref h12]), (h1, ob 4 [.int h1f0, .int h1f1, .int h1f2, .ref h13]), (h6, ob 3 [.ref h29, .ref h30, .ref h31, .ref h32, .ref h33, .ref h34, .ref h35, .ref h36, .int h6f8, .int h6f9, .int h6f10, .int h6f11]), (h29, aJ (k 1) 180 anJ)] H
set_option maxHeartbeats 4000000 in
set_option maxRecDepth 100000 in
theorem cX10_point_2daab (l : Launch) (D : va_G) (k : Nat → ClassId) (sz : Nat) (h0 h1 h6 h29 h2 h3 h4 h5 h7 h8 h9 h10 h11 h12 h13 h30 h31 h32 h33 h34 h35 h36 : Nat) (x1 : Int32) (x2 : Int32) (h0f2 : Int32) (h0f6 : Int32) (h0f8 : Int32) (h0f11 : Int32) (h1f0 : Int32) (h1f1 : Int32) (h1f2 : Int32) (h6f8 : Int32) (h6f9 : Int32) (h6f10 : Int32) (h6f11 : Int32) (b_h0f2 : 0 ≤ h0f2.toInt ∧ h0f2.toInt ≤ 1) (b_h0f6 : 0 ≤ h0f6.toInt ∧ h0f6.toInt ≤ 1) (b_h0f8 : 0 ≤ h0f8.toInt ∧ h0f8.toInt ≤ 1) (b_h0f11 : 0 ≤ h0f11.toInt ∧ h0f11.toInt ≤ 200) (b_h1f0 : 1 ≤ h1f0.toInt ∧ h1f0.toInt ≤ 3) (b_h1f1 : 0 ≤ h1f1.toInt ∧ h1f1.toInt ≤ 4) (b_h6f8 : 0 ≤ h6f8.toInt ∧ h6f8.toInt ≤ 3) (b_h6f9 : 0 ≤ h6f9.toInt ∧ h6f9.toInt ≤ 60) (b_h6f10 : 0 ≤ h6f10.toInt ∧ h6f10.toInt ≤ 60) (b_h6f11 : 0 ≤ h6f11.toInt ∧ h6f11.toInt ≤ 1) : Met l yX10_point (Cond.code yX10_point cX10_point 3 (some .long) :: uw) Rm_cX10_point_2daab (pT D k sz [.ref h0, .int x1, .int x2] [(h0, ob 7 [.ref h1, .ref h2, .int h0f2, .ref h3, .ref h4, .ref h5, .int h0f6, .ref h6, .int h0f8, .null, .ref h7, .int h0f11, .ref h8, .ref h9, .ref h10, .ref h11, .ref h12]), (h1, ob 4 [.int h1f0, .int h1f1, .int h1f2, .ref h13]), (h6, ob 3 [.ref h29, .ref h30, .ref h31, .ref h32, .ref h33, .ref h34, .ref h35, .ref h36, .int h6f8, .int h6f9, .int h6f10, .int h6f11]), (h29, aJ (k 1) 180 anJ)]) (qL (B_cX10_point_2daab D k h0 h1 h6 h29 h2 h3 h4 h5 h7 h8 h9 h10 h11 h12 h13 h30 h31 h32 h33 h34 h35 h36 x1 x2 h0f2 h0f6 h0f8 h0f11 h1f0 h1f1 h1f2 h6f8 h6f9 h6f10 h6f11 (zA [h0, h1, h6, h29] sz)) (zA [h0, h1, h6, h29] sz)) 0 0 (zA [h0, h1, h6, h29] sz) := by
  refine tz_begin (as := [h0, h1, h6, h29]) (Qc := fun A => qL (B_cX10_point_2daab D k h0 h1 h6 h29 h2 h3 h4 h5 h7 h8 h9 h10 h11 h12 h13 h30 h31 h32 h33 h34 h35 h36 x1 x2 h0f2 h0f6 h0f8 h0f11 h1f0 h1f1 h1f2 h6f8 h6f9 h6f10 h6f11 A) A) (by decide +kernel) rfl (Nat.le_of_ble_eq_true rfl) ?_
  intro p e s m args below meth c ls A Q hx hb hr hml hown hlocks hin hU hK hT hS hA hl hQ
  have hl : lv_has ls 3 [(0, .ref h0), (1, .int x1), (2, .int x2)] := hl
  have hT : TP D A [(h0, ob 7 [.ref h1, .ref h2, .int h0f2, .ref h3, .ref h4, .ref h5, .int h0f6, .ref h6, .int h0f8, .null, .ref h7, .int h0f11, .ref h8, .ref h9, .ref h10, .ref h11, .ref h12]), (h1, ob 4 [.int h1f0, .int h1f1, .int h1f2, .ref h13]), (h6, ob 3 [.ref h29, .ref h30, .ref h31, .ref h32, .ref h33, .ref h34, .ref h35, .ref h36, .int h6f8, .int h6f9, .int h6f10, .int h6f11]), (h29, aJ (k 1) 180 anJ)] s.heap := hT
  refine lv_aload_n hx hb dX10_point_0 rfl (lv_at hl 0 rfl) ?_
  refine tz_get (ci := 7) (v := .int h0f8) (C := RX10) (F := TX10) (N := 17) hx hb hU iX10 hown hK hT 0 rfl rfl 8 (by decide) w257 (fun _ h9 => h9) rfl dX10_point_1 ?_
  refine lv_if_eq (tgt := 33) hx hb dX10_point_4 (by decide) (fun c_1 => ?_) (fun c_1 => ?_)
  · skip
    have c_1 := ni_eq c_1 rfl li_0
    refine lv_iconst (v := (-1)) hx hb dX10_point_33 (by decide) ?_
    have q_q3 := li_m1
    refine tcL (Tc := []) (Tr := [(h0, ob 7 [.ref h1, .ref h2, .int h0f2, .ref h3, .ref h4, .ref h5, .int h0f6, .ref h6, .int h0f8, .null, .ref h7, .int h0f11, .ref h8, .ref h9, .ref h10, .ref h11, .ref h12]), (h1, ob 4 [.int h1f0, .int h1f1, .int h1f2, .ref h13]), (h6, ob 3 [.ref h29, .ref h30, .ref h31, .ref h32, .ref h33, .ref h34, .ref h35, .ref h36, .int h6f8, .int h6f9, .int h6f10, .int h6f11]), (h29, aJ (k 1) 180 anJ)]) (as := []) (zcS (As := [.int (-1)]) (rest := []) (Tc := []) hx hb hml hown hU hK hT [] rfl (by decide) (cX10_asLong_5cc16 l D k _ ((-1)) (by have := li_m1; omega)) w572 w570 w571 w63 hdX10_asLong ⟨rfl, rfl⟩ ⟨Nat.le_of_ble_eq_true rfl, Nat.le_of_ble_eq_true rfl⟩ rfl hl.1 (Nat.le_of_ble_eq_true rfl) dX10_point_34 ⟨Nat.le_of_ble_eq_true rfl, Nat.le_of_ble_eq_true rfl⟩) hT hS hA [] [0, 1, 2, 3] rfl rfl rfl (by decide) (by decide) (fun r2 H locs hB J hS => ?_)
    obtain ⟨b_r2, hT1⟩ := hB
    have hT := J _ hT1
    have hT : TP D A [(h0, ob 7 [.ref h1, .ref h2, .int h0f2, .ref h3, .ref h4, .ref h5, .int h0f6, .ref h6, .int h0f8, .null, .ref h7, .int h0f11, .ref h8, .ref h9, .ref h10, .ref h11, .ref h12]), (h1, ob 4 [.int h1f0, .int h1f1, .int h1f2, .ref h13]), (h6, ob 3 [.ref h29, .ref h30, .ref h31, .ref h32, .ref h33, .ref h34, .ref h35, .ref h36, .int h6f8, .int h6f9, .int h6f10, .int h6f11]), (h29, aJ (k 1) 180 anJ)] _ := hT
    exact tz_retL (B := B_cX10_point_2daab D k h0 h1 h6 h29 h2 h3 h4 h5 h7 h8 h9 h10 h11 h12 h13 h30 h31 h32 h33 h34 h35 h36 x1 x2 h0f2 h0f6 h0f8 h0f11 h1f0 h1f1 h1f2 h6f8 h6f9 h6f10 h6f11) (v := r2) hQ hx hb hr hlocks hS (Nat.le_of_ble_eq_true rfl) (Nat.le_of_ble_eq_true rfl) dX10_point_37 (hT)
  · skip
    have c_1 := ni_ne c_1 rfl li_0
    refine lv_aload_n hx hb dX10_point_7 rfl (lv_at hl 0 rfl) ?_
    refine tz_get (ci := 7) (v := .ref h6) (C := RX10) (F := TX10) (N := 17) hx hb hU iX10 hown hK hT 0 rfl rfl 7 (by decide) w256 (fun _ h9 => h9) rfl dX10_point_8 ?_
    refine lv_iload_n hx hb dX10_point_11 rfl (lv_at hl 1 rfl) ?_
    refine tcI (Tc := [(h6, ob 3 [.ref h29, .ref h30, .ref h31, .ref h32, .ref h33, .ref h34, .ref h35, .ref h36, .int h6f8, .int h6f9, .int h6f10, .int h6f11])]) (Tr := [(h0, ob 7 [.ref h1, .ref h2, .int h0f2, .ref h3, .ref h4, .ref h5, .int h0f6, .ref h6, .int h0f8, .null, .ref h7, .int h0f11, .ref h8, .ref h9, .ref h10, .ref h11, .ref h12]), (h1, ob 4 [.int h1f0, .int h1f1, .int h1f2, .ref h13]), (h29, aJ (k 1) 180 anJ)]) (as := [h6]) (zcV (q0 := 2) (ci := 3) (As := [.int x1]) (rest := []) (Tc := [(h6, ob 3 [.ref h29, .ref h30, .ref h31, .ref h32, .ref h33, .ref h34, .ref h35, .ref h36, .int h6f8, .int h6f9, .int h6f10, .int h6f11])]) hx hb hml hown hU hK hT rfl rfl [2] rfl (by decide) (cX4_has_e732f l D k _ h6 h29 h30 h31 h32 h33 h34 h35 h36 x1 h6f8 h6f9 h6f10 h6f11 (by omega) (by omega) (by omega) (by omega)) w510 w569 w508 w509 w66 hdX4_has ⟨rfl, rfl⟩ ⟨Nat.le_of_ble_eq_true rfl, Nat.le_of_ble_eq_true rfl⟩ rfl hl.1 (Nat.le_of_ble_eq_true rfl) dX10_point_12 ⟨Nat.le_of_ble_eq_true rfl, Nat.le_of_ble_eq_true rfl⟩) hT hS hA [2] [0, 1, 3] rfl rfl rfl (by decide) (by decide) (fun r4 H locs hB J hS => ?_)
    rcases hB with ⟨rfl, hT1⟩ | ⟨c_5, c_6, rfl, hT1⟩
    · skip
      have hT := J _ hT1
      have hT : TP D A [(h0, ob 7 [.ref h1, .ref h2, .int h0f2, .ref h3, .ref h4, .ref h5, .int h0f6, .ref h6, .int h0f8, .null, .ref h7, .int h0f11, .ref h8, .ref h9, .ref h10, .ref h11, .ref h12]), (h1, ob 4 [.int h1f0, .int h1f1, .int h1f2, .ref h13]), (h29, aJ (k 1) 180 anJ), (h6, ob 3 [.ref h29, .ref h30, .ref h31, .ref h32, .ref h33, .ref h34, .ref h35, .ref h36, .int h6f8, .int h6f9, .int h6f10, .int h6f11])] _ := hT
      refine lv_if_eq (tgt := 33) hx hb dX10_point_15 (by decide) (fun _ => ?_) (fun cc => absurd (by decide +kernel) cc)
      refine lv_iconst (v := (-1)) hx hb dX10_point_33 (by decide) ?_
      have q_q8 := li_m1
      refine tcL (Tc := []) (Tr := [(h0, ob 7 [.ref h1, .ref h2, .int h0f2, .ref h3, .ref h4, .ref h5, .int h0f6, .ref h6, .int h0f8, .null, .ref h7, .int h0f11, .ref h8, .ref h9, .ref h10, .ref h11, .ref h12]), (h1, ob 4 [.int h1f0, .int h1f1, .int h1f2, .ref h13]), (h29, aJ (k 1) 180 anJ), (h6, ob 3 [.ref h29, .ref h30, .ref h31, .ref h32, .ref h33, .ref h34, .ref h35, .ref h36, .int h6f8, .int h6f9, .int h6f10, .int h6f11])]) (as := []) (zcS (As := [.int (-1)]) (rest := []) (Tc := []) hx hb hml hown hU hK hT [] rfl (by decide) (cX10_asLong_5cc16 l D k _ ((-1)) (by have := li_m1; omega)) w572 w570 w571 w63 hdX10_asLong ⟨rfl, rfl⟩ ⟨Nat.le_of_ble_eq_true rfl, Nat.le_of_ble_eq_true rfl⟩ rfl hl.1 (Nat.le_of_ble_eq_true rfl) dX10_point_34 ⟨Nat.le_of_ble_eq_true rfl, Nat.le_of_ble_eq_true rfl⟩) hT hS hA [] [0, 1, 2, 3] rfl rfl rfl (by decide) (by decide) (fun r7 H locs hB J hS => ?_)
      obtain ⟨b_r7, hT1⟩ := hB
      have hT := J _ hT1
      have hT : TP D A [(h0, ob 7 [.ref h1, .ref h2, .int h0f2, .ref h3, .ref h4, .ref h5, .int h0f6, .ref h6, .int h0f8, .null, .ref h7, .int h0f11, .ref h8, .ref h9, .ref h10, .ref h11, .ref h12]), (h1, ob 4 [.int h1f0, .int h1f1, .int h1f2, .ref h13]), (h29, aJ (k 1) 180 anJ), (h6, ob 3 [.ref h29, .ref h30, .ref h31, .ref h32, .ref h33, .ref h34, .ref h35, .ref h36, .int h6f8, .int h6f9, .int h6f10, .int h6f11])] _ := hT
      exact tz_retL (B := B_cX10_point_2daab D k h0 h1 h6 h29 h2 h3 h4 h5 h7 h8 h9 h10 h11 h12 h13 h30 h31 h32 h33 h34 h35 h36 x1 x2 h0f2 h0f6 h0f8 h0f11 h1f0 h1f1 h1f2 h6f8 h6f9 h6f10 h6f11) (v := r7) hQ hx hb hr hlocks hS (Nat.le_of_ble_eq_true rfl) (Nat.le_of_ble_eq_true rfl) dX10_point_37 ((hT.sub [0, 1, 3, 2] (by decide) rfl))
    · skip
      have hT := J _ hT1
      have hT : TP D A [(h0, ob 7 [.ref h1, .ref h2, .int h0f2, .ref h3, .ref h4, .ref h5, .int h0f6, .ref h6, .int h0f8, .null, .ref h7, .int h0f11, .ref h8, .ref h9, .ref h10, .ref h11, .ref h12]), (h1, ob 4 [.int h1f0, .int h1f1, .int h1f2, .ref h13]), (h29, aJ (k 1) 180 anJ), (h6, ob 3 [.ref h29, .ref h30, .ref h31, .ref h32, .ref h33, .ref h34, .ref h35, .ref h36, .int h6f8, .int h6f9, .int h6f10, .int h6f11])] _ := hT
      refine lv_if_eq (tgt := 33) hx hb dX10_point_15 (by decide) (fun cc => absurd cc (by decide +kernel)) (fun _ => ?_)
      refine lv_iload_n hx hb dX10_point_18 rfl (lv_at hl 2 rfl) ?_
      refine lv_if_lt (tgt := 33) hx hb dX10_point_19 (by decide) (fun c_9 => ?_) (fun c_9 => ?_)
      · skip
        have c_9 := ni_lt c_9 rfl li_0
        refine lv_iconst (v := (-1)) hx hb dX10_point_33 (by decide) ?_
        have q_q11 := li_m1
        refine tcL (Tc := []) (Tr := [(h0, ob 7 [.ref h1, .ref h2, .int h0f2, .ref h3, .ref h4, .ref h5, .int h0f6, .ref h6, .int h0f8, .null, .ref h7, .int h0f11, .ref h8, .ref h9, .ref h10, .ref h11, .ref h12]), (h1, ob 4 [.int h1f0, .int h1f1, .int h1f2, .ref h13]), (h29, aJ (k 1) 180 anJ), (h6, ob 3 [.ref h29, .ref h30, .ref h31, .ref h32, .ref h33, .ref h34, .ref h35, .ref h36, .int h6f8, .int h6f9, .int h6f10, .int h6f11])]) (as := []) (zcS (As := [.int (-1)]) (rest := []) (Tc := []) hx hb hml hown hU hK hT [] rfl (by decide) (cX10_asLong_5cc16 l D k _ ((-1)) (by have := li_m1; omega)) w572 w570 w571 w63 hdX10_asLong ⟨rfl, rfl⟩ ⟨Nat.le_of_ble_eq_true rfl, Nat.le_of_ble_eq_true rfl⟩ rfl hl.1 (Nat.le_of_ble_eq_true rfl) dX10_point_34 ⟨Nat.le_of_ble_eq_true rfl, Nat.le_of_ble_eq_true rfl⟩) hT hS hA [] [0, 1, 2, 3] rfl rfl rfl (by decide) (by decide) (fun r10 H locs hB J hS => ?_)
        obtain ⟨b_r10, hT1⟩ := hB
        have hT := J _ hT1
        have hT : TP D A [(h0, ob 7 [.ref h1, .ref h2, .int h0f2, .ref h3, .ref h4, .ref h5, .int h0f6, .ref h6, .int h0f8, .null, .ref h7, .int h0f11, .ref h8, .ref h9, .ref h10, .ref h11, .ref h12]), (h1, ob 4 [.int h1f0, .int h1f1, .int h1f2, .ref h13]), (h29, aJ (k 1) 180 anJ), (h6, ob 3 [.ref h29, .ref h30, .ref h31, .ref h32, .ref h33, .ref h34, .ref h35, .ref h36, .int h6f8, .int h6f9, .int h6f10, .int h6f11])] _ := hT
        exact tz_retL (B := B_cX10_point_2daab D k h0 h1 h6 h29 h2 h3 h4 h5 h7 h8 h9 h10 h11 h12 h13 h30 h31 h32 h33 h34 h35 h36 x1 x2 h0f2 h0f6 h0f8 h0f11 h1f0 h1f1 h1f2 h6f8 h6f9 h6f10 h6f11) (v := r10) hQ hx hb hr hlocks hS (Nat.le_of_ble_eq_true rfl) (Nat.le_of_ble_eq_true rfl) dX10_point_37 ((hT.sub [0, 1, 3, 2] (by decide) rfl))
      · skip
        have c_9 := ni_nlt c_9 rfl li_0
        refine lv_iload_n hx hb dX10_point_22 rfl (lv_at hl 2 rfl) ?_
        refine lv_aload_n hx hb dX10_point_23 rfl (lv_at hl 0 rfl) ?_
        refine tz_get (ci := 7) (v := .ref h1) (C := RX10) (F := TX10) (N := 17) hx hb hU iX10 hown hK hT 0 rfl rfl 0 (by decide) w249 (fun _ h9 => h9) rfl dX10_point_24 ?_
        refine tz_get (ci := 4) (v := .int h1f0) (C := RX5) (F := TX5) (N := 4) hx hb hU iX5 hown hK hT 1 rfl rfl 0 (by decide) w93 (fun _ h9 => h9) rfl dX10_point_27 ?_
        refine lv_icmp_lt (tgt := 38) hx hb dX10_point_30 (by decide) (fun c_12 => ?_) (fun c_12 => ?_)
        · skip
          have c_12 := ni_lt c_12 rfl rfl
          refine lv_aload_n hx hb dX10_point_38 rfl (lv_at hl 0 rfl) ?_
          refine tz_get (ci := 7) (v := .ref h6) (C := RX10) (F := TX10) (N := 17) hx hb hU iX10 hown hK hT 0 rfl rfl 7 (by decide) w256 (fun _ h9 => h9) rfl dX10_point_39 ?_
          refine tz_get (ci := 3) (v := .ref h29) (C := RX4) (F := TX4) (N := 12) hx hb hU iX4 hown hK hT 3 rfl rfl 0 (by decide) w150 (fun _ h9 => h9) rfl dX10_point_42 ?_
          refine lv_aload_n hx hb dX10_point_45 rfl (lv_at hl 0 rfl) ?_
          refine tz_get (ci := 7) (v := .ref h6) (C := RX10) (F := TX10) (N := 17) hx hb hU iX10 hown hK hT 0 rfl rfl 7 (by decide) w256 (fun _ h9 => h9) rfl dX10_point_46 ?_
          refine lv_iload_n hx hb dX10_point_49 rfl (lv_at hl 1 rfl) ?_
          refine tcI (Tc := [(h6, ob 3 [.ref h29, .ref h30, .ref h31, .ref h32, .ref h33, .ref h34, .ref h35, .ref h36, .int h6f8, .int h6f9, .int h6f10, .int h6f11])]) (Tr := [(h0, ob 7 [.ref h1, .ref h2, .int h0f2, .ref h3, .ref h4, .ref h5, .int h0f6, .ref h6, .int h0f8, .null, .ref h7, .int h0f11, .ref h8, .ref h9, .ref h10, .ref h11, .ref h12]), (h1, ob 4 [.int h1f0, .int h1f1, .int h1f2, .ref h13]), (h29, aJ (k 1) 180 anJ)]) (as := [h6]) (zcV (q0 := 3) (ci := 3) (As := [.int x1]) (rest := [.ref h29]) (Tc := [(h6, ob 3 [.ref h29, .ref h30, .ref h31, .ref h32, .ref h33, .ref h34, .ref h35, .ref h36, .int h6f8, .int h6f9, .int h6f10, .int h6f11])]) hx hb hml hown hU hK hT rfl rfl [3] rfl (by decide) (cX4_start_cf782 l D k _ h6 h29 h30 h31 h32 h33 h34 h35 h36 x1 h6f8 h6f9 h6f10 h6f11 (by omega) (by omega) (by omega) (by omega) (by omega)) w505 w574 w503 w504 w66 hdX4_start ⟨rfl, rfl⟩ ⟨Nat.le_of_ble_eq_true rfl, Nat.le_of_ble_eq_true rfl⟩ rfl hl.1 (Nat.le_of_ble_eq_true rfl) dX10_point_50 ⟨Nat.le_of_ble_eq_true rfl, Nat.le_of_ble_eq_true rfl⟩) hT hS hA [3] [0, 1, 2] rfl rfl rfl (by decide) (by decide) (fun r13 H locs hB J hS => ?_)
          obtain ⟨b_r13, hT1⟩ := hB
          have hT := J _ hT1
          have hT : TP D A [(h0, ob 7 [.ref h1, .ref h2, .int h0f2, .ref h3, .ref h4, .ref h5, .int h0f6, .ref h6, .int h0f8, .null, .ref h7, .int h0f11, .ref h8, .ref h9, .ref h10, .ref h11, .ref h12]), (h1, ob 4 [.int h1f0, .int h1f1, .int h1f2, .ref h13]), (h29, aJ (k 1) 180 anJ), (h6, ob 3 [.ref h29, .ref h30, .ref h31, .ref h32, .ref h33, .ref h34, .ref h35, .ref h36, .int h6f8, .int h6f9, .int h6f10, .int h6f11])] _ := hT
          refine lv_iload_n hx hb dX10_point_53 rfl (lv_at hl 2 rfl) ?_
          refine lv_iadd hx hb dX10_point_54 (lv_topi (fun v14 e_v14 => ?_))
          have e_v14 := ai_add e_v14 rfl rfl (by omega)
          refine tz_lald hx hb hK hT 2 rfl (by omega) dX10_point_55 (fun v15 e_v15 => ?_)
          clear e_v15
          exact tz_retL (B := B_cX10_point_2daab D k h0 h1 h6 h29 h2 h3 h4 h5 h7 h8 h9 h10 h11 h12 h13 h30 h31 h32 h33 h34 h35 h36 x1 x2 h0f2 h0f6 h0f8 h0f11 h1f0 h1f1 h1f2 h6f8 h6f9 h6f10 h6f11) (v := v15) hQ hx hb hr hlocks hS (Nat.le_of_ble_eq_true rfl) (Nat.le_of_ble_eq_true rfl) dX10_point_56 ((hT.sub [0, 1, 3, 2] (by decide) rfl))
        · skip
          have c_12 := ni_nlt c_12 rfl rfl
          refine lv_iconst (v := (-1)) hx hb dX10_point_33 (by decide) ?_
          have q_q17 := li_m1
          refine tcL (Tc := []) (Tr := [(h0, ob 7 [.ref h1, .ref h2, .int h0f2, .ref h3, .ref h4, .ref h5, .int h0f6, .ref h6, .int h0f8, .null, .ref h7, .int h0f11, .ref h8, .ref h9, .ref h10, .ref h11, .ref h12]), (h1, ob 4 [.int h1f0, .int h1f1, .int h1f2, .ref h13]), (h29, aJ (k 1) 180 anJ), (h6, ob 3 [.ref h29, .ref h30, .ref h31, .ref h32, .ref h33, .ref h34, .ref h35, .ref h36, .int h6f8, .int h6f9, .int h6f10, .int h6f11])]) (as := []) (zcS (As := [.int (-1)]) (rest := []) (Tc := []) hx hb hml hown hU hK hT [] rfl (by decide) (cX10_asLong_5cc16 l D k _ ((-1)) (by have := li_m1; omega)) w572 w570 w571 w63 hdX10_asLong ⟨rfl, rfl⟩ ⟨Nat.le_of_ble_eq_true rfl, Nat.le_of_ble_eq_true rfl⟩ rfl hl.1 (Nat.le_of_ble_eq_true rfl) dX10_point_34 ⟨Nat.le_of_ble_eq_true rfl, Nat.le_of_ble_eq_true rfl⟩) hT hS hA [] [0, 1, 2, 3] rfl rfl rfl (by decide) (by decide) (fun r16 H locs hB J hS => ?_)
          obtain ⟨b_r16, hT1⟩ := hB
          have hT := J _ hT1
          have hT : TP D A [(h0, ob 7 [.ref h1, .ref h2, .int h0f2, .ref h3, .ref h4, .ref h5, .int h0f6, .ref h6, .int h0f8, .null, .ref h7, .int h0f11, .ref h8, .ref h9, .ref h10, .ref h11, .ref h12]), (h1, ob 4 [.int h1f0, .int h1f1, .int h1f2, .ref h13]), (h29, aJ (k 1) 180 anJ), (h6, ob 3 [.ref h29, .ref h30, .ref h31, .ref h32, .ref h33, .ref h34, .ref h35, .ref h36, .int h6f8, .int h6f9, .int h6f10, .int h6f11])] _ := hT
          exact tz_retL (B := B_cX10_point_2daab D k h0 h1 h6 h29 h2 h3 h4 h5 h7 h8 h9 h10 h11 h12 h13 h30 h31 h32 h33 h34 h35 h36 x1 x2 h0f2 h0f6 h0f8 h0f11 h1f0 h1f1 h1f2 h6f8 h6f9 h6f10 h6f11) (v := r16) hQ hx hb hr hlocks hS (Nat.le_of_ble_eq_true rfl) (Nat.le_of_ble_eq_true rfl) dX10_point_37 ((hT.sub [0, 1, 3, 2] (by decide) rfl))
abbrev Rm_cX10_point_bfe60 : Room := { frames := 1, cells := 0, slots := 0, locals := 21 }
abbrev B_cX10_point_bfe60 (D : va_G) (k : Nat → ClassId) (h0 h1 h6 h30 h2 h3 h4 h5 h7 h8 h9 h10 h11 h12 h13 h14 h31 h32 h33 h34 h35 h36 h37 : Nat) (x1 : Int32) (x2 : Int32) (h0f2 : Int32) (h0f6 : Int32) (h0f8 : Int32) (h0f11 : Int32) (h1f0 : Int32) (h1f1 : Int32) (h1f2 : Int32) (h6f8 : Int32) (h6f9 : Int32) (h6f10 : Int32) (h6f11 : Int32) (A : Nat → Prop) (r : Int64) (H : Heap) : Prop := TP D A [(h0, ob 7 [.ref h1, .ref h2, .int h0f2, .ref h3, .ref h4, .ref h5, .int h0f6, .ref h6, .int h0f8, .ref h7, .ref h8, .int h0f11, .ref h9, .ref h10, .ref h11, .ref h12, .ref h13]), (h1, ob 4 [.int h1f0, .int h1f1, .int h1f2, .ref h14]), (h6, ob 3 [.ref h30, .ref h31, .ref h32, .ref h33, .ref h34, .ref h35, .ref h36, .ref h37, .int h6f8, .int h6f9, .int h6f10, .int h6f11]), (h30, aJ (k 1) 180 anJ)] H
set_option maxHeartbeats 4000000 in
set_option maxRecDepth 100000 in
theorem cX10_point_bfe60 (l : Launch) (D : va_G) (k : Nat → ClassId) (sz : Nat) (h0 h1 h6 h30 h2 h3 h4 h5 h7 h8 h9 h10 h11 h12 h13 h14 h31 h32 h33 h34 h35 h36 h37 : Nat) (x1 : Int32) (x2 : Int32) (h0f2 : Int32) (h0f6 : Int32) (h0f8 : Int32) (h0f11 : Int32) (h1f0 : Int32) (h1f1 : Int32) (h1f2 : Int32) (h6f8 : Int32) (h6f9 : Int32) (h6f10 : Int32) (h6f11 : Int32) (b_h0f2 : 0 ≤ h0f2.toInt ∧ h0f2.toInt ≤ 1) (b_h0f6 : 0 ≤ h0f6.toInt ∧ h0f6.toInt ≤ 1) (b_h0f8 : 0 ≤ h0f8.toInt ∧ h0f8.toInt ≤ 1) (b_h0f11 : 0 ≤ h0f11.toInt ∧ h0f11.toInt ≤ 200) (b_h1f0 : 1 ≤ h1f0.toInt ∧ h1f0.toInt ≤ 3) (b_h1f1 : 0 ≤ h1f1.toInt ∧ h1f1.toInt ≤ 4) (b_h6f8 : 0 ≤ h6f8.toInt ∧ h6f8.toInt ≤ 3) (b_h6f9 : 0 ≤ h6f9.toInt ∧ h6f9.toInt ≤ 60) (b_h6f10 : 0 ≤ h6f10.toInt ∧ h6f10.toInt ≤ 60) (b_h6f11 : 0 ≤ h6f11.toInt ∧ h6f11.toInt ≤ 1) : Met l yX10_point (Cond.code yX10_point cX10_point 3 (some .long) :: uw) Rm_cX10_point_bfe60 (pT D k sz [.ref h0, .int x1, .int x2] [(h0, ob 7 [.ref h1, .ref h2, .int h0f2, .ref h3, .ref h4, .ref h5, .int h0f6, .ref h6, .int h0f8, .ref h7, .ref h8, .int h0f11, .ref h9, .ref h10, .ref h11, .ref h12, .ref h13]), (h1, ob 4 [.int h1f0, .int h1f1, .int h1f2, .ref h14]), (h6, ob 3 [.ref h30, .ref h31, .ref h32, .ref h33, .ref h34, .ref h35, .ref h36, .ref h37, .int h6f8, .int h6f9, .int h6f10, .int h6f11]), (h30, aJ (k 1) 180 anJ)]) (qL (B_cX10_point_bfe60 D k h0 h1 h6 h30 h2 h3 h4 h5 h7 h8 h9 h10 h11 h12 h13 h14 h31 h32 h33 h34 h35 h36 h37 x1 x2 h0f2 h0f6 h0f8 h0f11 h1f0 h1f1 h1f2 h6f8 h6f9 h6f10 h6f11 (zA [h0, h1, h6, h30] sz)) (zA [h0, h1, h6, h30] sz)) 0 0 (zA [h0, h1, h6, h30] sz) := by
  refine tz_begin (as := [h0, h1, h6, h30]) (Qc := fun A => qL (B_cX10_point_bfe60 D k h0 h1 h6 h30 h2 h3 h4 h5 h7 h8 h9 h10 h11 h12 h13 h14 h31 h32 h33 h34 h35 h36 h37 x1 x2 h0f2 h0f6 h0f8 h0f11 h1f0 h1f1 h1f2 h6f8 h6f9 h6f10 h6f11 A) A) (by decide +kernel) rfl (Nat.le_of_ble_eq_true rfl) ?_
  intro p e s m args below meth c ls A Q hx hb hr hml hown hlocks hin hU hK hT hS hA hl hQ
  have hl : lv_has ls 3 [(0, .ref h0), (1, .int x1), (2, .int x2)] := hl
  have hT : TP D A [(h0, ob 7 [.ref h1, .ref h2, .int h0f2, .ref h3, .ref h4, .ref h5, .int h0f6, .ref h6, .int h0f8, .ref h7, .ref h8, .int h0f11, .ref h9, .ref h10, .ref h11, .ref h12, .ref h13]), (h1, ob 4 [.int h1f0, .int h1f1, .int h1f2, .ref h14]), (h6, ob 3 [.ref h30, .ref h31, .ref h32, .ref h33, .ref h34, .ref h35, .ref h36, .ref h37, .int h6f8, .int h6f9, .int h6f10, .int h6f11]), (h30, aJ (k 1) 180 anJ)] s.heap := hT
  refine lv_aload_n hx hb dX10_point_0 rfl (lv_at hl 0 rfl) ?_
  refine tz_get (ci := 7) (v := .int h0f8) (C := RX10) (F := TX10) (N := 17) hx hb hU iX10 hown hK hT 0 rfl rfl 8 (by decide) w257 (fun _ h9 => h9) rfl dX10_point_1 ?_
  refine lv_if_eq (tgt := 33) hx hb dX10_point_4 (by decide) (fun c_1 => ?_) (fun c_1 => ?_)
  · skip
    have c_1 := ni_eq c_1 rfl li_0
    refine lv_iconst (v := (-1)) hx hb dX10_point_33 (by decide) ?_
    have q_q3 := li_m1
    refine tcL (Tc := []) (Tr := [(h0, ob 7 [.ref h1, .ref h2, .int h0f2, .ref h3, .ref h4, .ref h5, .int h0f6, .ref h6, .int h0f8, .ref h7, .ref h8, .int h0f11, .ref h9, .ref h10, .ref h11, .ref h12, .ref h13]), (h1, ob 4 [.int h1f0, .int h1f1, .int h1f2, .ref h14]), (h6, ob 3 [.ref h30, .ref h31, .ref h32, .ref h33, .ref h34, .ref h35, .ref h36, .ref h37, .int h6f8, .int h6f9, .int h6f10, .int h6f11]), (h30, aJ (k 1) 180 anJ)]) (as := []) (zcS (As := [.int (-1)]) (rest := []) (Tc := []) hx hb hml hown hU hK hT [] rfl (by decide) (cX10_asLong_5cc16 l D k _ ((-1)) (by have := li_m1; omega)) w572 w570 w571 w63 hdX10_asLong ⟨rfl, rfl⟩ ⟨Nat.le_of_ble_eq_true rfl, Nat.le_of_ble_eq_true rfl⟩ rfl hl.1 (Nat.le_of_ble_eq_true rfl) dX10_point_34 ⟨Nat.le_of_ble_eq_true rfl, Nat.le_of_ble_eq_true rfl⟩) hT hS hA [] [0, 1, 2, 3] rfl rfl rfl (by decide) (by decide) (fun r2 H locs hB J hS => ?_)
    obtain ⟨b_r2, hT1⟩ := hB
    have hT := J _ hT1
    have hT : TP D A [(h0, ob 7 [.ref h1, .ref h2, .int h0f2, .ref h3, .ref h4, .ref h5, .int h0f6, .ref h6, .int h0f8, .ref h7, .ref h8, .int h0f11, .ref h9, .ref h10, .ref h11, .ref h12, .ref h13]), (h1, ob 4 [.int h1f0, .int h1f1, .int h1f2, .ref h14]), (h6, ob 3 [.ref h30, .ref h31, .ref h32, .ref h33, .ref h34, .ref h35, .ref h36, .ref h37, .int h6f8, .int h6f9, .int h6f10, .int h6f11]), (h30, aJ (k 1) 180 anJ)] _ := hT
    exact tz_retL (B := B_cX10_point_bfe60 D k h0 h1 h6 h30 h2 h3 h4 h5 h7 h8 h9 h10 h11 h12 h13 h14 h31 h32 h33 h34 h35 h36 h37 x1 x2 h0f2 h0f6 h0f8 h0f11 h1f0 h1f1 h1f2 h6f8 h6f9 h6f10 h6f11) (v := r2) hQ hx hb hr hlocks hS (Nat.le_of_ble_eq_true rfl) (Nat.le_of_ble_eq_true rfl) dX10_point_37 (hT)
  · skip
    have c_1 := ni_ne c_1 rfl li_0
    refine lv_aload_n hx hb dX10_point_7 rfl (lv_at hl 0 rfl) ?_
    refine tz_get (ci := 7) (v := .ref h6) (C := RX10) (F := TX10) (N := 17) hx hb hU iX10 hown hK hT 0 rfl rfl 7 (by decide) w256 (fun _ h9 => h9) rfl dX10_point_8 ?_
    refine lv_iload_n hx hb dX10_point_11 rfl (lv_at hl 1 rfl) ?_
    refine tcI (Tc := [(h6, ob 3 [.ref h30, .ref h31, .ref h32, .ref h33, .ref h34, .ref h35, .ref h36, .ref h37, .int h6f8, .int h6f9, .int h6f10, .int h6f11])]) (Tr := [(h0, ob 7 [.ref h1, .ref h2, .int h0f2, .ref h3, .ref h4, .ref h5, .int h0f6, .ref h6, .int h0f8, .ref h7, .ref h8, .int h0f11, .ref h9, .ref h10, .ref h11, .ref h12, .ref h13]), (h1, ob 4 [.int h1f0, .int h1f1, .int h1f2, .ref h14]), (h30, aJ (k 1) 180 anJ)]) (as := [h6]) (zcV (q0 := 2) (ci := 3) (As := [.int x1]) (rest := []) (Tc := [(h6, ob 3 [.ref h30, .ref h31, .ref h32, .ref h33, .ref h34, .ref h35, .ref h36, .ref h37, .int h6f8, .int h6f9, .int h6f10, .int h6f11])]) hx hb hml hown hU hK hT rfl rfl [2] rfl (by decide) (cX4_has_e732f l D k _ h6 h30 h31 h32 h33 h34 h35 h36 h37 x1 h6f8 h6f9 h6f10 h6f11 (by omega) (by omega) (by omega) (by omega)) w510 w569 w508 w509 w66 hdX4_has ⟨rfl, rfl⟩ ⟨Nat.le_of_ble_eq_true rfl, Nat.le_of_ble_eq_true rfl⟩ rfl hl.1 (Nat.le_of_ble_eq_true rfl) dX10_point_12 ⟨Nat.le_of_ble_eq_true rfl, Nat.le_of_ble_eq_true rfl⟩) hT hS hA [2] [0, 1, 3] rfl rfl rfl (by decide) (by decide) (fun r4 H locs hB J hS => ?_)
    rcases hB with ⟨rfl, hT1⟩ | ⟨c_5, c_6, rfl, hT1⟩
    · skip
      have hT := J _ hT1
      have hT : TP D A [(h0, ob 7 [.ref h1, .ref h2, .int h0f2, .ref h3, .ref h4, .ref h5, .int h0f6, .ref h6, .int h0f8, .ref h7, .ref h8, .int h0f11, .ref h9, .ref h10, .ref h11, .ref h12, .ref h13]), (h1, ob 4 [.int h1f0, .int h1f1, .int h1f2, .ref h14]), (h30, aJ (k 1) 180 anJ), (h6, ob 3 [.ref h30, .ref h31, .ref h32, .ref h33, .ref h34, .ref h35, .ref h36, .ref h37, .int h6f8, .int h6f9, .int h6f10, .int h6f11])] _ := hT
      refine lv_if_eq (tgt := 33) hx hb dX10_point_15 (by decide) (fun _ => ?_) (fun cc => absurd (by decide +kernel) cc)
      refine lv_iconst (v := (-1)) hx hb dX10_point_33 (by decide) ?_
      have q_q8 := li_m1
      refine tcL (Tc := []) (Tr := [(h0, ob 7 [.ref h1, .ref h2, .int h0f2, .ref h3, .ref h4, .ref h5, .int h0f6, .ref h6, .int h0f8, .ref h7, .ref h8, .int h0f11, .ref h9, .ref h10, .ref h11, .ref h12, .ref h13]), (h1, ob 4 [.int h1f0, .int h1f1, .int h1f2, .ref h14]), (h30, aJ (k 1) 180 anJ), (h6, ob 3 [.ref h30, .ref h31, .ref h32, .ref h33, .ref h34, .ref h35, .ref h36, .ref h37, .int h6f8, .int h6f9, .int h6f10, .int h6f11])]) (as := []) (zcS (As := [.int (-1)]) (rest := []) (Tc := []) hx hb hml hown hU hK hT [] rfl (by decide) (cX10_asLong_5cc16 l D k _ ((-1)) (by have := li_m1; omega)) w572 w570 w571 w63 hdX10_asLong ⟨rfl, rfl⟩ ⟨Nat.le_of_ble_eq_true rfl, Nat.le_of_ble_eq_true rfl⟩ rfl hl.1 (Nat.le_of_ble_eq_true rfl) dX10_point_34 ⟨Nat.le_of_ble_eq_true rfl, Nat.le_of_ble_eq_true rfl⟩) hT hS hA [] [0, 1, 2, 3] rfl rfl rfl (by decide) (by decide) (fun r7 H locs hB J hS => ?_)
      obtain ⟨b_r7, hT1⟩ := hB
      have hT := J _ hT1
      have hT : TP D A [(h0, ob 7 [.ref h1, .ref h2, .int h0f2, .ref h3, .ref h4, .ref h5, .int h0f6, .ref h6, .int h0f8, .ref h7, .ref h8, .int h0f11, .ref h9, .ref h10, .ref h11, .ref h12, .ref h13]), (h1, ob 4 [.int h1f0, .int h1f1, .int h1f2, .ref h14]), (h30, aJ (k 1) 180 anJ), (h6, ob 3 [.ref h30, .ref h31, .ref h32, .ref h33, .ref h34, .ref h35, .ref h36, .ref h37, .int h6f8, .int h6f9, .int h6f10, .int h6f11])] _ := hT
      exact tz_retL (B := B_cX10_point_bfe60 D k h0 h1 h6 h30 h2 h3 h4 h5 h7 h8 h9 h10 h11 h12 h13 h14 h31 h32 h33 h34 h35 h36 h37 x1 x2 h0f2 h0f6 h0f8 h0f11 h1f0 h1f1 h1f2 h6f8 h6f9 h6f10 h6f11) (v := r7) hQ hx hb hr hlocks hS (Nat.le_of_ble_eq_true rfl) (Nat.le_of_ble_eq_true rfl) dX10_point_37 ((hT.sub [0, 1, 3, 2] (by decide) rfl))
    · skip
      have hT := J _ hT1
      have hT : TP D A [(h0, ob 7 [.ref h1, .ref h2, .int h0f2, .ref h3, .ref h4, .ref h5, .int h0f6, .ref h6, .int h0f8, .ref h7, .ref h8, .int h0f11, .ref h9, .ref h10, .ref h11, .ref h12, .ref h13]), (h1, ob 4 [.int h1f0, .int h1f1, .int h1f2, .ref h14]), (h30, aJ (k 1) 180 anJ), (h6, ob 3 [.ref h30, .ref h31, .ref h32, .ref h33, .ref h34, .ref h35, .ref h36, .ref h37, .int h6f8, .int h6f9, .int h6f10, .int h6f11])] _ := hT
      refine lv_if_eq (tgt := 33) hx hb dX10_point_15 (by decide) (fun cc => absurd cc (by decide +kernel)) (fun _ => ?_)
      refine lv_iload_n hx hb dX10_point_18 rfl (lv_at hl 2 rfl) ?_
      refine lv_if_lt (tgt := 33) hx hb dX10_point_19 (by decide) (fun c_9 => ?_) (fun c_9 => ?_)
      · skip
        have c_9 := ni_lt c_9 rfl li_0
        refine lv_iconst (v := (-1)) hx hb dX10_point_33 (by decide) ?_
        have q_q11 := li_m1
        refine tcL (Tc := []) (Tr := [(h0, ob 7 [.ref h1, .ref h2, .int h0f2, .ref h3, .ref h4, .ref h5, .int h0f6, .ref h6, .int h0f8, .ref h7, .ref h8, .int h0f11, .ref h9, .ref h10, .ref h11, .ref h12, .ref h13]), (h1, ob 4 [.int h1f0, .int h1f1, .int h1f2, .ref h14]), (h30, aJ (k 1) 180 anJ), (h6, ob 3 [.ref h30, .ref h31, .ref h32, .ref h33, .ref h34, .ref h35, .ref h36, .ref h37, .int h6f8, .int h6f9, .int h6f10, .int h6f11])]) (as := []) (zcS (As := [.int (-1)]) (rest := []) (Tc := []) hx hb hml hown hU hK hT [] rfl (by decide) (cX10_asLong_5cc16 l D k _ ((-1)) (by have := li_m1; omega)) w572 w570 w571 w63 hdX10_asLong ⟨rfl, rfl⟩ ⟨Nat.le_of_ble_eq_true rfl, Nat.le_of_ble_eq_true rfl⟩ rfl hl.1 (Nat.le_of_ble_eq_true rfl) dX10_point_34 ⟨Nat.le_of_ble_eq_true rfl, Nat.le_of_ble_eq_true rfl⟩) hT hS hA [] [0, 1, 2, 3] rfl rfl rfl (by decide) (by decide) (fun r10 H locs hB J hS => ?_)
        obtain ⟨b_r10, hT1⟩ := hB
        have hT := J _ hT1
        have hT : TP D A [(h0, ob 7 [.ref h1, .ref h2, .int h0f2, .ref h3, .ref h4, .ref h5, .int h0f6, .ref h6, .int h0f8, .ref h7, .ref h8, .int h0f11, .ref h9, .ref h10, .ref h11, .ref h12, .ref h13]), (h1, ob 4 [.int h1f0, .int h1f1, .int h1f2, .ref h14]), (h30, aJ (k 1) 180 anJ), (h6, ob 3 [.ref h30, .ref h31, .ref h32, .ref h33, .ref h34, .ref h35, .ref h36, .ref h37, .int h6f8, .int h6f9, .int h6f10, .int h6f11])] _ := hT
        exact tz_retL (B := B_cX10_point_bfe60 D k h0 h1 h6 h30 h2 h3 h4 h5 h7 h8 h9 h10 h11 h12 h13 h14 h31 h32 h33 h34 h35 h36 h37 x1 x2 h0f2 h0f6 h0f8 h0f11 h1f0 h1f1 h1f2 h6f8 h6f9 h6f10 h6f11) (v := r10) hQ hx hb hr hlocks hS (Nat.le_of_ble_eq_true rfl) (Nat.le_of_ble_eq_true rfl) dX10_point_37 ((hT.sub [0, 1, 3, 2] (by decide) rfl))
      · skip
        have c_9 := ni_nlt c_9 rfl li_0
        refine lv_iload_n hx hb dX10_point_22 rfl (lv_at hl 2 rfl) ?_
        refine lv_aload_n hx hb dX10_point_23 rfl (lv_at hl 0 rfl) ?_
        refine tz_get (ci := 7) (v := .ref h1) (C := RX10) (F := TX10) (N := 17) hx hb hU iX10 hown hK hT 0 rfl rfl 0 (by decide) w249 (fun _ h9 => h9) rfl dX10_point_24 ?_
        refine tz_get (ci := 4) (v := .int h1f0) (C := RX5) (F := TX5) (N := 4) hx hb hU iX5 hown hK hT 1 rfl rfl 0 (by decide) w93 (fun _ h9 => h9) rfl dX10_point_27 ?_
        refine lv_icmp_lt (tgt := 38) hx hb dX10_point_30 (by decide) (fun c_12 => ?_) (fun c_12 => ?_)
        · skip
          have c_12 := ni_lt c_12 rfl rfl
          refine lv_aload_n hx hb dX10_point_38 rfl (lv_at hl 0 rfl) ?_
          refine tz_get (ci := 7) (v := .ref h6) (C := RX10) (F := TX10) (N := 17) hx hb hU iX10 hown hK hT 0 rfl rfl 7 (by decide) w256 (fun _ h9 => h9) rfl dX10_point_39 ?_
          refine tz_get (ci := 3) (v := .ref h30) (C := RX4) (F := TX4) (N := 12) hx hb hU iX4 hown hK hT 3 rfl rfl 0 (by decide) w150 (fun _ h9 => h9) rfl dX10_point_42 ?_
          refine lv_aload_n hx hb dX10_point_45 rfl (lv_at hl 0 rfl) ?_
          refine tz_get (ci := 7) (v := .ref h6) (C := RX10) (F := TX10) (N := 17) hx hb hU iX10 hown hK hT 0 rfl rfl 7 (by decide) w256 (fun _ h9 => h9) rfl dX10_point_46 ?_
          refine lv_iload_n hx hb dX10_point_49 rfl (lv_at hl 1 rfl) ?_
          refine tcI (Tc := [(h6, ob 3 [.ref h30, .ref h31, .ref h32, .ref h33, .ref h34, .ref h35, .ref h36, .ref h37, .int h6f8, .int h6f9, .int h6f10, .int h6f11])]) (Tr := [(h0, ob 7 [.ref h1, .ref h2, .int h0f2, .ref h3, .ref h4, .ref h5, .int h0f6, .ref h6, .int h0f8, .ref h7, .ref h8, .int h0f11, .ref h9, .ref h10, .ref h11, .ref h12, .ref h13]), (h1, ob 4 [.int h1f0, .int h1f1, .int h1f2, .ref h14]), (h30, aJ (k 1) 180 anJ)]) (as := [h6]) (zcV (q0 := 3) (ci := 3) (As := [.int x1]) (rest := [.ref h30]) (Tc := [(h6, ob 3 [.ref h30, .ref h31, .ref h32, .ref h33, .ref h34, .ref h35, .ref h36, .ref h37, .int h6f8, .int h6f9, .int h6f10, .int h6f11])]) hx hb hml hown hU hK hT rfl rfl [3] rfl (by decide) (cX4_start_cf782 l D k _ h6 h30 h31 h32 h33 h34 h35 h36 h37 x1 h6f8 h6f9 h6f10 h6f11 (by omega) (by omega) (by omega) (by omega) (by omega)) w505 w574 w503 w504 w66 hdX4_start ⟨rfl, rfl⟩ ⟨Nat.le_of_ble_eq_true rfl, Nat.le_of_ble_eq_true rfl⟩ rfl hl.1 (Nat.le_of_ble_eq_true rfl) dX10_point_50 ⟨Nat.le_of_ble_eq_true rfl, Nat.le_of_ble_eq_true rfl⟩) hT hS hA [3] [0, 1, 2] rfl rfl rfl (by decide) (by decide) (fun r13 H locs hB J hS => ?_)
          obtain ⟨b_r13, hT1⟩ := hB
          have hT := J _ hT1
          have hT : TP D A [(h0, ob 7 [.ref h1, .ref h2, .int h0f2, .ref h3, .ref h4, .ref h5, .int h0f6, .ref h6, .int h0f8, .ref h7, .ref h8, .int h0f11, .ref h9, .ref h10, .ref h11, .ref h12, .ref h13]), (h1, ob 4 [.int h1f0, .int h1f1, .int h1f2, .ref h14]), (h30, aJ (k 1) 180 anJ), (h6, ob 3 [.ref h30, .ref h31, .ref h32, .ref h33, .ref h34, .ref h35, .ref h36, .ref h37, .int h6f8, .int h6f9, .int h6f10, .int h6f11])] _ := hT
          refine lv_iload_n hx hb dX10_point_53 rfl (lv_at hl 2 rfl) ?_
          refine lv_iadd hx hb dX10_point_54 (lv_topi (fun v14 e_v14 => ?_))
          have e_v14 := ai_add e_v14 rfl rfl (by omega)
          refine tz_lald hx hb hK hT 2 rfl (by omega) dX10_point_55 (fun v15 e_v15 => ?_)
          clear e_v15
          exact tz_retL (B := B_cX10_point_bfe60 D k h0 h1 h6 h30 h2 h3 h4 h5 h7 h8 h9 h10 h11 h12 h13 h14 h31 h32 h33 h34 h35 h36 h37 x1 x2 h0f2 h0f6 h0f8 h0f11 h1f0 h1f1 h1f2 h6f8 h6f9 h6f10 h6f11) (v := v15) hQ hx hb hr hlocks hS (Nat.le_of_ble_eq_true rfl) (Nat.le_of_ble_eq_true rfl) dX10_point_56 ((hT.sub [0, 1, 3, 2] (by decide) rfl))
        · skip
          have c_12 := ni_nlt c_12 rfl rfl
          refine lv_iconst (v := (-1)) hx hb dX10_point_33 (by decide) ?_
          have q_q17 := li_m1
          refine tcL (Tc := []) (Tr := [(h0, ob 7 [.ref h1, .ref h2, .int h0f2, .ref h3, .ref h4, .ref h5, .int h0f6, .ref h6, .int h0f8, .ref h7, .ref h8, .int h0f11, .ref h9, .ref h10, .ref h11, .ref h12, .ref h13]), (h1, ob 4 [.int h1f0, .int h1f1, .int h1f2, .ref h14]), (h30, aJ (k 1) 180 anJ), (h6, ob 3 [.ref h30, .ref h31, .ref h32, .ref h33, .ref h34, .ref h35, .ref h36, .ref h37, .int h6f8, .int h6f9, .int h6f10, .int h6f11])]) (as := []) (zcS (As := [.int (-1)]) (rest := []) (Tc := []) hx hb hml hown hU hK hT [] rfl (by decide) (cX10_asLong_5cc16 l D k _ ((-1)) (by have := li_m1; omega)) w572 w570 w571 w63 hdX10_asLong ⟨rfl, rfl⟩ ⟨Nat.le_of_ble_eq_true rfl, Nat.le_of_ble_eq_true rfl⟩ rfl hl.1 (Nat.le_of_ble_eq_true rfl) dX10_point_34 ⟨Nat.le_of_ble_eq_true rfl, Nat.le_of_ble_eq_true rfl⟩) hT hS hA [] [0, 1, 2, 3] rfl rfl rfl (by decide) (by decide) (fun r16 H locs hB J hS => ?_)
          obtain ⟨b_r16, hT1⟩ := hB
          have hT := J _ hT1
          have hT : TP D A [(h0, ob 7 [.ref h1, .ref h2, .int h0f2, .ref h3, .ref h4, .ref h5, .int h0f6, .ref h6, .int h0f8, .ref h7, .ref h8, .int h0f11, .ref h9, .ref h10, .ref h11, .ref h12, .ref h13]), (h1, ob 4 [.int h1f0, .int h1f1, .int h1f2, .ref h14]), (h30, aJ (k 1) 180 anJ), (h6, ob 3 [.ref h30, .ref h31, .ref h32, .ref h33, .ref h34, .ref h35, .ref h36, .ref h37, .int h6f8, .int h6f9, .int h6f10, .int h6f11])] _ := hT
          exact tz_retL (B := B_cX10_point_bfe60 D k h0 h1 h6 h30 h2 h3 h4 h5 h7 h8 h9 h10 h11 h12 h13 h14 h31 h32 h33 h34 h35 h36 h37 x1 x2 h0f2 h0f6 h0f8 h0f11 h1f0 h1f1 h1f2 h6f8 h6f9 h6f10 h6f11) (v := r16) hQ hx hb hr hlocks hS (Nat.le_of_ble_eq_true rfl) (Nat.le_of_ble_eq_true rfl) dX10_point_37 ((hT.sub [0, 1, 3, 2] (by decide) rfl))
abbrev Rm_cX11_point_15c13 : Room := { frames := 2, cells := 0, slots := 0, locals := 46 }
abbrev B_cX11_point_15c13 (D : va_G) (k : Nat → ClassId) (h0 h15 h1 h2 h3 h4 h5 h6 h7 h8 h9 h10 h11 h12 h13 h14 h16 h17 h18 h19 h20 h21 : Nat) (x1 : Int32) (x2 : Int32) (h0f0 : Int32) (h0f1 : Int32) (h0f2 : Int32) (h0f3 : Int32) (h0f4 : Int32) (h0f5 : Int32) (h0f8 : Int32) (h0f9 : Int32) (h0f17 : Int32) (h0f18 : Int32) (h0f19 : Int32) (h0f24 : Int32) (h0f25 : Int32) (h0f30 : Int32) (h0f31 : Int32) (A : Nat → Prop) (r : Int64) (H : Heap) : Prop := TP D A [(h0, ob 8 [.int h0f0, .int h0f1, .int h0f2, .int h0f3, .int h0f4, .int h0f5, .ref h1, .ref h2, .int h0f8, .int h0f9, .ref h3, .ref h4, .ref h5, .ref h6, .ref h7, .ref h8, .ref h9, .int h0f17, .int h0f18, .int h0f19, .ref h10, .ref h11, .ref h12, .ref h13, .int h0f24, .int h0f25, .ref h14, .ref h15, .ref h16, .ref h17, .int h0f30, .int h0f31, .ref h18, .ref h19, .ref h20, .ref h21]), (h15, aJ (k 1) 180 anJ)] H
set_option maxHeartbeats 4000000 in
set_option maxRecDepth 100000 in
theorem cX11_point_15c13 (l : Launch) (D : va_G) (k : Nat → ClassId) (sz : Nat) (h0 h15 h1 h2 h3 h4 h5 h6 h7 h8 h9 h10 h11 h12 h13 h14 h16 h17 h18 h19 h20 h21 : Nat) (x1 : Int32) (x2 : Int32) (h0f0 : Int32) (h0f1 : Int32) (h0f2 : Int32) (h0f3 : Int32) (h0f4 : Int32) (h0f5 : Int32) (h0f8 : Int32) (h0f9 : Int32) (h0f17 : Int32) (h0f18 : Int32) (h0f19 : Int32) (h0f24 : Int32) (h0f25 : Int32) (h0f30 : Int32) (h0f31 : Int32) (b_h0f0 : 1 ≤ h0f0.toInt ∧ h0f0.toInt ≤ 3) (b_h0f1 : 0 ≤ h0f1.toInt ∧ h0f1.toInt ≤ 4) (b_h0f3 : 0 ≤ h0f3.toInt ∧ h0f3.toInt ≤ 3) (b_h0f4 : 0 ≤ h0f4.toInt ∧ h0f4.toInt ≤ 4) (b_h0f8 : 0 ≤ h0f8.toInt ∧ h0f8.toInt ≤ 1) (b_h0f9 : 0 ≤ h0f9.toInt ∧ h0f9.toInt ≤ 1) (b_h0f17 : 0 ≤ h0f17.toInt ∧ h0f17.toInt ≤ 120) (b_h0f18 : 0 ≤ h0f18.toInt ∧ h0f18.toInt ≤ 120) (b_h0f19 : 0 ≤ h0f19.toInt ∧ h0f19.toInt ≤ 4) (b_h0f24 : 0 ≤ h0f24.toInt ∧ h0f24.toInt ≤ 100) (b_h0f25 : 0 ≤ h0f25.toInt ∧ h0f25.toInt ≤ 1) (b_h0f30 : 0 ≤ h0f30.toInt ∧ h0f30.toInt ≤ 60) (b_h0f31 : 0 ≤ h0f31.toInt ∧ h0f31.toInt ≤ 1) (i_0 : h0f8.toInt ≤ h0f3.toInt) (i_1 : h0f9.toInt ≤ h0f24.toInt) : Met l yX11_point (Cond.code yX11_point cX11_point 3 (some .long) :: uw) Rm_cX11_point_15c13 (pT D k sz [.ref h0, .int x1, .int x2] [(h0, ob 8 [.int h0f0, .int h0f1, .int h0f2, .int h0f3, .int h0f4, .int h0f5, .ref h1, .ref h2, .int h0f8, .int h0f9, .ref h3, .ref h4, .ref h5, .ref h6, .ref h7, .ref h8, .ref h9, .int h0f17, .int h0f18, .int h0f19, .ref h10, .ref h11, .ref h12, .ref h13, .int h0f24, .int h0f25, .ref h14, .ref h15, .ref h16, .ref h17, .int h0f30, .int h0f31, .ref h18, .ref h19, .ref h20, .ref h21]), (h15, aJ (k 1) 180 anJ)]) (qL (B_cX11_point_15c13 D k h0 h15 h1 h2 h3 h4 h5 h6 h7 h8 h9 h10 h11 h12 h13 h14 h16 h17 h18 h19 h20 h21 x1 x2 h0f0 h0f1 h0f2 h0f3 h0f4 h0f5 h0f8 h0f9 h0f17 h0f18 h0f19 h0f24 h0f25 h0f30 h0f31 (zA [h0, h15] sz)) (zA [h0, h15] sz)) 0 0 (zA [h0, h15] sz) := by
  refine tz_begin (as := [h0, h15]) (Qc := fun A => qL (B_cX11_point_15c13 D k h0 h15 h1 h2 h3 h4 h5 h6 h7 h8 h9 h10 h11 h12 h13 h14 h16 h17 h18 h19 h20 h21 x1 x2 h0f0 h0f1 h0f2 h0f3 h0f4 h0f5 h0f8 h0f9 h0f17 h0f18 h0f19 h0f24 h0f25 h0f30 h0f31 A) A) (by decide +kernel) rfl (Nat.le_of_ble_eq_true rfl) ?_
  intro p e s m args below meth c ls A Q hx hb hr hml hown hlocks hin hU hK hT hS hA hl hQ
  have hl : lv_has ls 3 [(0, .ref h0), (1, .int x1), (2, .int x2)] := hl
  have hT : TP D A [(h0, ob 8 [.int h0f0, .int h0f1, .int h0f2, .int h0f3, .int h0f4, .int h0f5, .ref h1, .ref h2, .int h0f8, .int h0f9, .ref h3, .ref h4, .ref h5, .ref h6, .ref h7, .ref h8, .ref h9, .int h0f17, .int h0f18, .int h0f19, .ref h10, .ref h11, .ref h12, .ref h13, .int h0f24, .int h0f25, .ref h14, .ref h15, .ref h16, .ref h17, .int h0f30, .int h0f31, .ref h18, .ref h19, .ref h20, .ref h21]), (h15, aJ (k 1) 180 anJ)] s.heap := hT
  refine lv_iload_n hx hb dX11_point_0 rfl (lv_at hl 1 rfl) ?_
  have tb_x1 := i32b x1
  obtain ⟨v1, e_v1⟩ : ∃ x : Int64, x1.toInt64 = x := ⟨_, rfl⟩
  refine lv_i2l (v := v1) hx hb dX11_point_1 e_v1 ?_
  have e_v1 := ai_i2l e_v1 rfl
  refine lv_lconst (v := 0) hx hb dX11_point_2 (by decide) ?_
  refine lv_aload_n hx hb dX11_point_3 rfl (lv_at hl 0 rfl) ?_
  refine tz_get (ci := 8) (v := .int h0f30) (C := RX11) (F := TX11) (N := 36) hx hb hU iX11 hown hK hT 0 rfl rfl 30 (by decide) w815 (fun _ h9 => h9) rfl dX11_point_4 ?_
  refine lv_iconst (v := 1) hx hb dX11_point_7 (by decide) ?_
  refine lv_isub hx hb dX11_point_8 (lv_topi (fun v2 e_v2 => ?_))
  have e_v2 := ai_sub e_v2 rfl li_1 (by omega)
  obtain ⟨v3, e_v3⟩ : ∃ x : Int64, v2.toInt64 = x := ⟨_, rfl⟩
  refine lv_i2l (v := v3) hx hb dX11_point_9 e_v3 ?_
  have e_v3 := ai_i2l e_v3 rfl
  have q_q5 := ll_0
  refine tcI (Tc := []) (Tr := [(h0, ob 8 [.int h0f0, .int h0f1, .int h0f2, .int h0f3, .int h0f4, .int h0f5, .ref h1, .ref h2, .int h0f8, .int h0f9, .ref h3, .ref h4, .ref h5, .ref h6, .ref h7, .ref h8, .ref h9, .int h0f17, .int h0f18, .int h0f19, .ref h10, .ref h11, .ref h12, .ref h13, .int h0f24, .int h0f25, .ref h14, .ref h15, .ref h16, .ref h17, .int h0f30, .int h0f31, .ref h18, .ref h19, .ref h20, .ref h21]), (h15, aJ (k 1) 180 anJ)]) (as := []) (zcS (As := [.long v1, .long 0, .long v3]) (rest := []) (Tc := []) hx hb hml hown hU hK hT [] rfl (by decide) (cX11_in_ca3b9 l D k _ v1 (0) v3 (by have := ll_0; omega) (by omega)) w901 w899 w900 w72 hdX11_in ⟨rfl, rfl⟩ ⟨Nat.le_of_ble_eq_true rfl, Nat.le_of_ble_eq_true rfl⟩ rfl hl.1 (Nat.le_of_ble_eq_true rfl) dX11_point_10 ⟨Nat.le_of_ble_eq_true rfl, Nat.le_of_ble_eq_true rfl⟩) hT hS hA [] [0, 1] rfl rfl rfl (by decide) (by decide) (fun r4 H locs hB J hS => ?_)
  rcases hB with ⟨rfl, hT1⟩ | ⟨c_6, c_7, rfl, hT1⟩
  · skip
    have hT := J _ hT1
    have hT : TP D A [(h0, ob 8 [.int h0f0, .int h0f1, .int h0f2, .int h0f3, .int h0f4, .int h0f5, .ref h1, .ref h2, .int h0f8, .int h0f9, .ref h3, .ref h4, .ref h5, .ref h6, .ref h7, .ref h8, .ref h9, .int h0f17, .int h0f18, .int h0f19, .ref h10, .ref h11, .ref h12, .ref h13, .int h0f24, .int h0f25, .ref h14, .ref h15, .ref h16, .ref h17, .int h0f30, .int h0f31, .ref h18, .ref h19, .ref h20, .ref h21]), (h15, aJ (k 1) 180 anJ)] _ := hT
    refine lv_if_eq (tgt := 37) hx hb dX11_point_13 (by decide) (fun _ => ?_) (fun cc => absurd (by decide +kernel) cc)
    refine lv_iconst (v := (-1)) hx hb dX11_point_37 (by decide) ?_
    have q_q9 := li_m1
    refine tcL (Tc := []) (Tr := [(h0, ob 8 [.int h0f0, .int h0f1, .int h0f2, .int h0f3, .int h0f4, .int h0f5, .ref h1, .ref h2, .int h0f8, .int h0f9, .ref h3, .ref h4, .ref h5, .ref h6, .ref h7, .ref h8, .ref h9, .int h0f17, .int h0f18, .int h0f19, .ref h10, .ref h11, .ref h12, .ref h13, .int h0f24, .int h0f25, .ref h14, .ref h15, .ref h16, .ref h17, .int h0f30, .int h0f31, .ref h18, .ref h19, .ref h20, .ref h21]), (h15, aJ (k 1) 180 anJ)]) (as := []) (zcS (As := [.int (-1)]) (rest := []) (Tc := []) hx hb hml hown hU hK hT [] rfl (by decide) (cX11_far_7dbca l D k _ ((-1)) (by have := li_m1; omega)) w1062 w1060 w1061 w72 hdX11_far ⟨rfl, rfl⟩ ⟨Nat.le_of_ble_eq_true rfl, Nat.le_of_ble_eq_true rfl⟩ rfl hl.1 (Nat.le_of_ble_eq_true rfl) dX11_point_38 ⟨Nat.le_of_ble_eq_true rfl, Nat.le_of_ble_eq_true rfl⟩) hT hS hA [] [0, 1] rfl rfl rfl (by decide) (by decide) (fun r8 H locs hB J hS => ?_)
    obtain ⟨b_r8, hT1⟩ := hB
    have hT := J _ hT1
    have hT : TP D A [(h0, ob 8 [.int h0f0, .int h0f1, .int h0f2, .int h0f3, .int h0f4, .int h0f5, .ref h1, .ref h2, .int h0f8, .int h0f9, .ref h3, .ref h4, .ref h5, .ref h6, .ref h7, .ref h8, .ref h9, .int h0f17, .int h0f18, .int h0f19, .ref h10, .ref h11, .ref h12, .ref h13, .int h0f24, .int h0f25, .ref h14, .ref h15, .ref h16, .ref h17, .int h0f30, .int h0f31, .ref h18, .ref h19, .ref h20, .ref h21]), (h15, aJ (k 1) 180 anJ)] _ := hT
    exact tz_retL (B := B_cX11_point_15c13 D k h0 h15 h1 h2 h3 h4 h5 h6 h7 h8 h9 h10 h11 h12 h13 h14 h16 h17 h18 h19 h20 h21 x1 x2 h0f0 h0f1 h0f2 h0f3 h0f4 h0f5 h0f8 h0f9 h0f17 h0f18 h0f19 h0f24 h0f25 h0f30 h0f31) (v := r8) hQ hx hb hr hlocks hS (Nat.le_of_ble_eq_true rfl) (Nat.le_of_ble_eq_true rfl) dX11_point_41 (hT)
  · skip
    have hT := J _ hT1
    have hT : TP D A [(h0, ob 8 [.int h0f0, .int h0f1, .int h0f2, .int h0f3, .int h0f4, .int h0f5, .ref h1, .ref h2, .int h0f8, .int h0f9, .ref h3, .ref h4, .ref h5, .ref h6, .ref h7, .ref h8, .ref h9, .int h0f17, .int h0f18, .int h0f19, .ref h10, .ref h11, .ref h12, .ref h13, .int h0f24, .int h0f25, .ref h14, .ref h15, .ref h16, .ref h17, .int h0f30, .int h0f31, .ref h18, .ref h19, .ref h20, .ref h21]), (h15, aJ (k 1) 180 anJ)] _ := hT
    refine lv_if_eq (tgt := 37) hx hb dX11_point_13 (by decide) (fun cc => absurd cc (by decide +kernel)) (fun _ => ?_)
    refine lv_aload_n hx hb dX11_point_16 rfl (lv_at hl 0 rfl) ?_
    refine lv_iload_n hx hb dX11_point_17 rfl (lv_at hl 2 rfl) ?_
    refine tcI (Tc := [(h0, ob 8 [.int h0f0, .int h0f1, .int h0f2, .int h0f3, .int h0f4, .int h0f5, .ref h1, .ref h2, .int h0f8, .int h0f9, .ref h3, .ref h4, .ref h5, .ref h6, .ref h7, .ref h8, .ref h9, .int h0f17, .int h0f18, .int h0f19, .ref h10, .ref h11, .ref h12, .ref h13, .int h0f24, .int h0f25, .ref h14, .ref h15, .ref h16, .ref h17, .int h0f30, .int h0f31, .ref h18, .ref h19, .ref h20, .ref h21])]) (Tr := [(h15, aJ (k 1) 180 anJ)]) (as := [h0]) (zcV (q0 := 0) (ci := 8) (As := [.int x2]) (rest := []) (Tc := [(h0, ob 8 [.int h0f0, .int h0f1, .int h0f2, .int h0f3, .int h0f4, .int h0f5, .ref h1, .ref h2, .int h0f8, .int h0f9, .ref h3, .ref h4, .ref h5, .ref h6, .ref h7, .ref h8, .ref h9, .int h0f17, .int h0f18, .int h0f19, .ref h10, .ref h11, .ref h12, .ref h13, .int h0f24, .int h0f25, .ref h14, .ref h15, .ref h16, .ref h17, .int h0f30, .int h0f31, .ref h18, .ref h19, .ref h20, .ref h21])]) hx hb hml hown hU hK hT rfl rfl [0] rfl (by decide) (cX11_isPlace_24f09 l D k _ h0 h1 h2 h3 h4 h5 h6 h7 h8 h9 h10 h11 h12 h13 h14 h15 h16 h17 h18 h19 h20 h21 x2 h0f0 h0f1 h0f2 h0f3 h0f4 h0f5 h0f8 h0f9 h0f17 h0f18 h0f19 h0f24 h0f25 h0f30 h0f31 (by omega) (by omega) (by omega) (by omega) (by omega) (by omega) (by omega) (by omega) (by omega) (by omega) (by omega) (by omega) (by omega) (by omega) (by omega)) w909 w906 w908 w26 w72 hdX11_isPlace ⟨rfl, rfl⟩ ⟨Nat.le_of_ble_eq_true rfl, Nat.le_of_ble_eq_true rfl⟩ rfl hl.1 (Nat.le_of_ble_eq_true rfl) dX11_point_18 ⟨Nat.le_of_ble_eq_true rfl, Nat.le_of_ble_eq_true rfl⟩) hT hS hA [0] [1] rfl rfl rfl (by decide) (by decide) (fun r10 H locs hB J hS => ?_)
    rcases hB with ⟨rfl, hT1⟩ | ⟨c_11, c_12, c_13, c_14, rfl, hT1⟩
    · skip
      have hT := J _ hT1
      have hT : TP D A [(h15, aJ (k 1) 180 anJ), (h0, ob 8 [.int h0f0, .int h0f1, .int h0f2, .int h0f3, .int h0f4, .int h0f5, .ref h1, .ref h2, .int h0f8, .int h0f9, .ref h3, .ref h4, .ref h5, .ref h6, .ref h7, .ref h8, .ref h9, .int h0f17, .int h0f18, .int h0f19, .ref h10, .ref h11, .ref h12, .ref h13, .int h0f24, .int h0f25, .ref h14, .ref h15, .ref h16, .ref h17, .int h0f30, .int h0f31, .ref h18, .ref h19, .ref h20, .ref h21])] _ := hT
      refine lv_if_eq (tgt := 37) hx hb dX11_point_21 (by decide) (fun _ => ?_) (fun cc => absurd (by decide +kernel) cc)
      refine lv_iconst (v := (-1)) hx hb dX11_point_37 (by decide) ?_
      have q_q16 := li_m1
      refine tcL (Tc := []) (Tr := [(h15, aJ (k 1) 180 anJ), (h0, ob 8 [.int h0f0, .int h0f1, .int h0f2, .int h0f3, .int h0f4, .int h0f5, .ref h1, .ref h2, .int h0f8, .int h0f9, .ref h3, .ref h4, .ref h5, .ref h6, .ref h7, .ref h8, .ref h9, .int h0f17, .int h0f18, .int h0f19, .ref h10, .ref h11, .ref h12, .ref h13, .int h0f24, .int h0f25, .ref h14, .ref h15, .ref h16, .ref h17, .int h0f30, .int h0f31, .ref h18, .ref h19, .ref h20, .ref h21])]) (as := []) (zcS (As := [.int (-1)]) (rest := []) (Tc := []) hx hb hml hown hU hK hT [] rfl (by decide) (cX11_far_7dbca l D k _ ((-1)) (by have := li_m1; omega)) w1062 w1060 w1061 w72 hdX11_far ⟨rfl, rfl⟩ ⟨Nat.le_of_ble_eq_true rfl, Nat.le_of_ble_eq_true rfl⟩ rfl hl.1 (Nat.le_of_ble_eq_true rfl) dX11_point_38 ⟨Nat.le_of_ble_eq_true rfl, Nat.le_of_ble_eq_true rfl⟩) hT hS hA [] [0, 1] rfl rfl rfl (by decide) (by decide) (fun r15 H locs hB J hS => ?_)
      obtain ⟨b_r15, hT1⟩ := hB
      have hT := J _ hT1
      have hT : TP D A [(h15, aJ (k 1) 180 anJ), (h0, ob 8 [.int h0f0, .int h0f1, .int h0f2, .int h0f3, .int h0f4, .int h0f5, .ref h1, .ref h2, .int h0f8, .int h0f9, .ref h3, .ref h4, .ref h5, .ref h6, .ref h7, .ref h8, .ref h9, .int h0f17, .int h0f18, .int h0f19, .ref h10, .ref h11, .ref h12, .ref h13, .int h0f24, .int h0f25, .ref h14, .ref h15, .ref h16, .ref h17, .int h0f30, .int h0f31, .ref h18, .ref h19, .ref h20, .ref h21])] _ := hT
      exact tz_retL (B := B_cX11_point_15c13 D k h0 h15 h1 h2 h3 h4 h5 h6 h7 h8 h9 h10 h11 h12 h13 h14 h16 h17 h18 h19 h20 h21 x1 x2 h0f0 h0f1 h0f2 h0f3 h0f4 h0f5 h0f8 h0f9 h0f17 h0f18 h0f19 h0f24 h0f25 h0f30 h0f31) (v := r15) hQ hx hb hr hlocks hS (Nat.le_of_ble_eq_true rfl) (Nat.le_of_ble_eq_true rfl) dX11_point_41 ((hT.sub [1, 0] (by decide) rfl))
    · skip
      have hT := J _ hT1
      have hT : TP D A [(h15, aJ (k 1) 180 anJ), (h0, ob 8 [.int h0f0, .int h0f1, .int h0f2, .int h0f3, .int h0f4, .int h0f5, .ref h1, .ref h2, .int h0f8, .int h0f9, .ref h3, .ref h4, .ref h5, .ref h6, .ref h7, .ref h8, .ref h9, .int h0f17, .int h0f18, .int h0f19, .ref h10, .ref h11, .ref h12, .ref h13, .int h0f24, .int h0f25, .ref h14, .ref h15, .ref h16, .ref h17, .int h0f30, .int h0f31, .ref h18, .ref h19, .ref h20, .ref h21])] _ := hT
      refine lv_if_eq (tgt := 37) hx hb dX11_point_21 (by decide) (fun cc => absurd cc (by decide +kernel)) (fun _ => ?_)
      refine lv_aload_n hx hb dX11_point_24 rfl (lv_at hl 0 rfl) ?_
      refine tz_get (ci := 8) (v := .ref h15) (C := RX11) (F := TX11) (N := 36) hx hb hU iX11 hown hK hT 1 rfl rfl 27 (by decide) w812 (fun _ h9 => h9) rfl dX11_point_25 ?_
      refine lv_iconst (v := 3) hx hb dX11_point_28 (by decide) ?_
      refine lv_iload_n hx hb dX11_point_29 rfl (lv_at hl 1 rfl) ?_
      refine lv_imul hx hb dX11_point_30 (lv_topi (fun v17 e_v17 => ?_))
      have e_v17 := ai_mul e_v17 li_3 rfl (by omega)
      refine lv_iload_n hx hb dX11_point_31 rfl (lv_at hl 2 rfl) ?_
      refine lv_iadd hx hb dX11_point_32 (lv_topi (fun v18 e_v18 => ?_))
      have e_v18 := ai_add e_v18 rfl rfl (by omega)
      refine tz_lald hx hb hK hT 0 rfl (by omega) dX11_point_33 (fun v19 e_v19 => ?_)
      clear e_v19
      refine lv_goto (tgt := 41) hx hb dX11_point_34 (by decide) ?_
      exact tz_retL (B := B_cX11_point_15c13 D k h0 h15 h1 h2 h3 h4 h5 h6 h7 h8 h9 h10 h11 h12 h13 h14 h16 h17 h18 h19 h20 h21 x1 x2 h0f0 h0f1 h0f2 h0f3 h0f4 h0f5 h0f8 h0f9 h0f17 h0f18 h0f19 h0f24 h0f25 h0f30 h0f31) (v := v19) hQ hx hb hr hlocks hS (Nat.le_of_ble_eq_true rfl) (Nat.le_of_ble_eq_true rfl) dX11_point_41 ((hT.sub [1, 0] (by decide) rfl))
abbrev Rm_cX4_start_48432 : Room := { frames := 0, cells := 0, slots := 0, locals := 0 }
abbrev B_cX4_start_48432 (D : va_G) (k : Nat → ClassId) (h0 h1 h2 h3 h4 h5 h6 h7 h8 : Nat) (x1 : Int32) (h0f8 : Int32) (h0f9 : Int32) (h0f10 : Int32) (h0f11 : Int32) (A : Nat → Prop) (r : Int32) (H : Heap) : Prop := (0 ≤ r.toInt ∧ r.toInt ≤ 11940) ∧ TP D A [(h0, ob 3 [.ref h1, .ref h2, .ref h3, .ref h4, .ref h5, .ref h6, .ref h7, .ref h8, .int h0f8, .int h0f9, .int h0f10, .int h0f11])] H
set_option maxHeartbeats 4000000 in
set_option maxRecDepth 100000 in
theorem cX4_start_48432 (l : Launch) (D : va_G) (k : Nat → ClassId) (sz : Nat) (h0 h1 h2 h3 h4 h5 h6 h7 h8 : Nat) (x1 : Int32) (h0f8 : Int32) (h0f9 : Int32) (h0f10 : Int32) (h0f11 : Int32) (b_x1 : 0 ≤ x1.toInt ∧ x1.toInt ≤ 199) (b_h0f8 : 0 ≤ h0f8.toInt ∧ h0f8.toInt ≤ 60) (b_h0f9 : 200 ≤ h0f9.toInt ∧ h0f9.toInt ≤ 200) (b_h0f10 : 0 ≤ h0f10.toInt ∧ h0f10.toInt ≤ 200) (b_h0f11 : 0 ≤ h0f11.toInt ∧ h0f11.toInt ≤ 1) : Met l yX4_start (Cond.code yX4_start cX4_start 2 (some .int) :: uw) Rm_cX4_start_48432 (pT D k sz [.ref h0, .int x1] [(h0, ob 3 [.ref h1, .ref h2, .ref h3, .ref h4, .ref h5, .ref h6, .ref h7, .ref h8, .int h0f8, .int h0f9, .int h0f10, .int h0f11])]) (qI (B_cX4_start_48432 D k h0 h1 h2 h3 h4 h5 h6 h7 h8 x1 h0f8 h0f9 h0f10 h0f11 (zA [h0] sz)) (zA [h0] sz)) 0 0 (zA [h0] sz) := by
  refine tz_begin (as := [h0]) (Qc := fun A => qI (B_cX4_start_48432 D k h0 h1 h2 h3 h4 h5 h6 h7 h8 x1 h0f8 h0f9 h0f10 h0f11 A) A) (by decide +kernel) rfl (Nat.le_of_ble_eq_true rfl) ?_
  intro p e s m args below meth c ls A Q hx hb hr hml hown hlocks hin hU hK hT hS hA hl hQ
  have hl : lv_has ls 2 [(0, .ref h0), (1, .int x1)] := hl
  have hT : TP D A [(h0, ob 3 [.ref h1, .ref h2, .ref h3, .ref h4, .ref h5, .ref h6, .ref h7, .ref h8, .int h0f8, .int h0f9, .int h0f10, .int h0f11])] s.heap := hT
  refine lv_iload_n hx hb dX4_start_0 rfl (lv_at hl 1 rfl) ?_
  refine lv_aload_n hx hb dX4_start_1 rfl (lv_at hl 0 rfl) ?_
  refine tz_get (ci := 3) (v := .int h0f8) (C := RX4) (F := TX4) (N := 12) hx hb hU iX4 hown hK hT 0 rfl rfl 8 (by decide) w162 (fun _ h9 => h9) rfl dX4_start_2 ?_
  refine lv_imul hx hb dX4_start_5 (lv_topi (fun v1 e_v1 => ?_))
  have e_v1 := ai_mm (la := 0) (ua := 199) (lb := 0) (ub := 60) e_v1 rfl rfl (by omega) (by decide)
  exact tz_retI (B := B_cX4_start_48432 D k h0 h1 h2 h3 h4 h5 h6 h7 h8 x1 h0f8 h0f9 h0f10 h0f11) (v := v1) hQ hx hb hr hlocks hS (Nat.le_of_ble_eq_true rfl) (Nat.le_of_ble_eq_true rfl) dX4_start_6 (⟨(by omega), hT⟩)
abbrev Rm_cX4_has_f6a1f : Room := { frames := 0, cells := 0, slots := 0, locals := 0 }
abbrev B_cX4_has_f6a1f (D : va_G) (k : Nat → ClassId) (h0 h1 h2 h3 h4 h5 h6 h7 h8 : Nat) (x1 : Int32) (h0f8 : Int32) (h0f9 : Int32) (h0f10 : Int32) (h0f11 : Int32) (A : Nat → Prop) (r : Int32) (H : Heap) : Prop := (0 = r ∧ TP D A [(h0, ob 3 [.ref h1, .ref h2, .ref h3, .ref h4, .ref h5, .ref h6, .ref h7, .ref h8, .int h0f8, .int h0f9, .int h0f10, .int h0f11])] H) ∨ (0 ≤ x1.toInt ∧ x1.toInt < h0f10.toInt ∧ 1 = r ∧ TP D A [(h0, ob 3 [.ref h1, .ref h2, .ref h3, .ref h4, .ref h5, .ref h6, .ref h7, .ref h8, .int h0f8, .int h0f9, .int h0f10, .int h0f11])] H)
set_option maxHeartbeats 4000000 in
set_option maxRecDepth 100000 in
theorem cX4_has_f6a1f (l : Launch) (D : va_G) (k : Nat → ClassId) (sz : Nat) (h0 h1 h2 h3 h4 h5 h6 h7 h8 : Nat) (x1 : Int32) (h0f8 : Int32) (h0f9 : Int32) (h0f10 : Int32) (h0f11 : Int32) (b_x1 : (-3) ≤ x1.toInt ∧ x1.toInt ≤ 199) (b_h0f8 : 0 ≤ h0f8.toInt ∧ h0f8.toInt ≤ 60) (b_h0f9 : 200 ≤ h0f9.toInt ∧ h0f9.toInt ≤ 200) (b_h0f10 : 0 ≤ h0f10.toInt ∧ h0f10.toInt ≤ 199) (b_h0f11 : 0 ≤ h0f11.toInt ∧ h0f11.toInt ≤ 1) : Met l yX4_has (Cond.code yX4_has cX4_has 2 (some .boolean) :: uw) Rm_cX4_has_f6a1f (pT D k sz [.ref h0, .int x1] [(h0, ob 3 [.ref h1, .ref h2, .ref h3, .ref h4, .ref h5, .ref h6, .ref h7, .ref h8, .int h0f8, .int h0f9, .int h0f10, .int h0f11])]) (qI (B_cX4_has_f6a1f D k h0 h1 h2 h3 h4 h5 h6 h7 h8 x1 h0f8 h0f9 h0f10 h0f11 (zA [h0] sz)) (zA [h0] sz)) 0 0 (zA [h0] sz) := by
  refine tz_begin (as := [h0]) (Qc := fun A => qI (B_cX4_has_f6a1f D k h0 h1 h2 h3 h4 h5 h6 h7 h8 x1 h0f8 h0f9 h0f10 h0f11 A) A) (by decide +kernel) rfl (Nat.le_of_ble_eq_true rfl) ?_
  intro p e s m args below meth c ls A Q hx hb hr hml hown hlocks hin hU hK hT hS hA hl hQ
  have hl : lv_has ls 2 [(0, .ref h0), (1, .int x1)] := hl
  have hT : TP D A [(h0, ob 3 [.ref h1, .ref h2, .ref h3, .ref h4, .ref h5, .ref h6, .ref h7, .ref h8, .int h0f8, .int h0f9, .int h0f10, .int h0f11])] s.heap := hT
  refine lv_iload_n hx hb dX4_has_0 rfl (lv_at hl 1 rfl) ?_
  refine lv_if_lt (tgt := 16) hx hb dX4_has_1 (by decide) (fun c_1 => ?_) (fun c_1 => ?_)
  · skip
    have c_1 := ni_lt c_1 rfl li_0
    refine lv_iconst (v := 0) hx hb dX4_has_16 (by decide) ?_
    exact tz_retZ (B := B_cX4_has_f6a1f D k h0 h1 h2 h3 h4 h5 h6 h7 h8 x1 h0f8 h0f9 h0f10 h0f11) (v := 0) hQ hx hb hr hlocks hS (Nat.le_of_ble_eq_true rfl) (Nat.le_of_ble_eq_true rfl) dX4_has_17 (by have := li_0; omega) (Or.inl ⟨rfl, hT⟩)
  · skip
    have c_1 := ni_nlt c_1 rfl li_0
    refine lv_iload_n hx hb dX4_has_4 rfl (lv_at hl 1 rfl) ?_
    refine lv_aload_n hx hb dX4_has_5 rfl (lv_at hl 0 rfl) ?_
    refine tz_get (ci := 3) (v := .int h0f10) (C := RX4) (F := TX4) (N := 12) hx hb hU iX4 hown hK hT 0 rfl rfl 10 (by decide) w164 (fun _ h9 => h9) rfl dX4_has_6 ?_
    refine lv_icmp_ge (tgt := 16) hx hb dX4_has_9 (by decide) (fun c_2 => ?_) (fun c_2 => ?_)
    · skip
      have c_2 := ni_le c_2 rfl rfl
      refine lv_iconst (v := 0) hx hb dX4_has_16 (by decide) ?_
      exact tz_retZ (B := B_cX4_has_f6a1f D k h0 h1 h2 h3 h4 h5 h6 h7 h8 x1 h0f8 h0f9 h0f10 h0f11) (v := 0) hQ hx hb hr hlocks hS (Nat.le_of_ble_eq_true rfl) (Nat.le_of_ble_eq_true rfl) dX4_has_17 (by have := li_0; omega) (Or.inl ⟨rfl, hT⟩)
    · skip
      have c_2 := ni_nle c_2 rfl rfl
      refine lv_iconst (v := 1) hx hb dX4_has_12 (by decide) ?_
      refine lv_goto (tgt := 17) hx hb dX4_has_13 (by decide) ?_
      exact tz_retZ (B := B_cX4_has_f6a1f D k h0 h1 h2 h3 h4 h5 h6 h7 h8 x1 h0f8 h0f9 h0f10 h0f11) (v := 1) hQ hx hb hr hlocks hS (Nat.le_of_ble_eq_true rfl) (Nat.le_of_ble_eq_true rfl) dX4_has_17 (by have := li_1; omega) (Or.inr (⟨(by have := li_1; omega), (by have := li_1; omega), rfl, hT⟩))
abbrev Rm_cX4_slotOf_f7b8f : Room := { frames := 0, cells := 0, slots := 0, locals := 0 }
abbrev B_cX4_slotOf_f7b8f (D : va_G) (k : Nat → ClassId) (h0 h1 h7 h2 h3 h4 h5 h6 h8 h9 : Nat) (h0f8 : Int32) (h0f9 : Int32) (h0f10 : Int32) (h0f11 : Int32) (A : Nat → Prop) (r : Int32) (H : Heap) : Prop := (0 ≤ r.toInt ∧ r.toInt ≤ 1023) ∧ TP D A [(h0, ob 3 [.ref h2, .ref h3, .ref h4, .ref h5, .ref h6, .ref h7, .ref h8, .ref h9, .int h0f8, .int h0f9, .int h0f10, .int h0f11]), (h1, aJ (k 1) 60 anJ), (h7, aI (k 0) 1024 (rgI (-1) (h0f10.toInt - 1)))] H
set_option maxHeartbeats 4000000 in
set_option maxRecDepth 100000 in
theorem cX4_slotOf_f7b8f (l : Launch) (D : va_G) (k : Nat → ClassId) (sz : Nat) (h0 h1 h7 h2 h3 h4 h5 h6 h8 h9 : Nat) (h0f8 : Int32) (h0f9 : Int32) (h0f10 : Int32) (h0f11 : Int32) (b_h0f8 : 0 ≤ h0f8.toInt ∧ h0f8.toInt ≤ 60) (b_h0f9 : 200 ≤ h0f9.toInt ∧ h0f9.toInt ≤ 200) (b_h0f10 : 0 ≤ h0f10.toInt ∧ h0f10.toInt ≤ 0) (b_h0f11 : 0 ≤ h0f11.toInt ∧ h0f11.toInt ≤ 0) : Met l yX4_slotOf (Cond.code yX4_slotOf cX4_slotOf 5 (some .int) :: uw) Rm_cX4_slotOf_f7b8f (pT D k sz [.ref h0, .ref h1] [(h0, ob 3 [.ref h2, .ref h3, .ref h4, .ref h5, .ref h6, .ref h7, .ref h8, .ref h9, .int h0f8, .int h0f9, .int h0f10, .int h0f11]), (h1, aJ (k 1) 60 anJ), (h7, aI (k 0) 1024 (rgI (-1) (h0f10.toInt - 1)))]) (qI (B_cX4_slotOf_f7b8f D k h0 h1 h7 h2 h3 h4 h5 h6 h8 h9 h0f8 h0f9 h0f10 h0f11 (zA [h0, h1, h7] sz)) (zA [h0, h1, h7] sz)) 0 0 (zA [h0, h1, h7] sz) := by
  refine tz_begin (as := [h0, h1, h7]) (Qc := fun A => qI (B_cX4_slotOf_f7b8f D k h0 h1 h7 h2 h3 h4 h5 h6 h8 h9 h0f8 h0f9 h0f10 h0f11 A) A) (by decide +kernel) rfl (Nat.le_of_ble_eq_true rfl) ?_
  intro p e s m args below meth c ls A Q hx hb hr hml hown hlocks hin hU hK hT hS hA hl hQ
  have hl : lv_has ls 5 [(0, .ref h0), (1, .ref h1)] := hl
  have hT : TP D A [(h0, ob 3 [.ref h2, .ref h3, .ref h4, .ref h5, .ref h6, .ref h7, .ref h8, .ref h9, .int h0f8, .int h0f9, .int h0f10, .int h0f11]), (h1, aJ (k 1) 60 anJ), (h7, aI (k 0) 1024 (rgI (-1) (h0f10.toInt - 1)))] s.heap := hT
  refine lv_lconst (v := 0) hx hb dX4_slotOf_0 (by decide) ?_
  refine lv_lstore_n (lv' := [(2, .long 0), (0, .ref h0), (1, .ref h1)]) hx hb dX4_slotOf_1 rfl hl (by decide) rfl (fun ls hl => ?_)
  refine lv_iconst (v := 0) hx hb dX4_slotOf_2 (by decide) ?_
  refine lv_istore (lv' := [(4, .int 0), (2, .long 0), (0, .ref h0), (1, .ref h1)]) hx hb dX4_slotOf_3 hl (by decide) rfl (fun ls hl => ?_)
  have lp5_35 : ∀ (n : Nat) (y33 : Int32) (y34 : Int64) (H : Heap) (locs : List Loc) (ls : Array Slot), (0 ≤ y33.toInt ∧ y33.toInt ≤ 60) → (h0f8.toInt + (-1) * y33.toInt + 1).toNat < n → TP D A [(h0, ob 3 [.ref h2, .ref h3, .ref h4, .ref h5, .ref h6, .ref h7, .ref h8, .ref h9, .int h0f8, .int h0f9, .int h0f10, .int h0f11]), (h1, aJ (k 1) 60 anJ), (h7, aI (k 0) 1024 (rgI (-1) (h0f10.toInt - 1)))] H → va_S A s.heap H locs → lv_has ls 5 [(0, .ref h0), (1, .ref h1), (2, .long y34), (4, .int y33)] → W p l e Rm_cX4_slotOf_f7b8f s m args below meth c H locs 0 0 Q (F0 m 5 ls []) := by
    intro n
    induction n with
    | zero => intro y33 y34 H locs ls b_y33 hm hT hS hl; exact absurd hm (Nat.not_lt_zero _)
    | succ n ih =>
      intro y33 y34 H locs ls b_y33 hm hT hS hl
      have ih5_35 := ih
      clear ih
      refine lv_iload hx hb dX4_slotOf_5 (lv_at hl 3 rfl) ?_
      refine lv_aload_n hx hb dX4_slotOf_7 rfl (lv_at hl 0 rfl) ?_
      refine tz_get (ci := 3) (v := .int h0f8) (C := RX4) (F := TX4) (N := 12) hx hb hU iX4 hown hK hT 0 rfl rfl 8 (by decide) w162 (fun _ h9 => h9) rfl dX4_slotOf_8 ?_
      refine lv_icmp_ge (tgt := 31) hx hb dX4_slotOf_11 (by decide) (fun c_36 => ?_) (fun c_36 => ?_)
      · skip
        have c_36 := ni_le c_36 rfl rfl
        refine lv_lload_n hx hb dX4_slotOf_31 rfl (lv_at hl 2 rfl) ?_
        refine lv_lload_n hx hb dX4_slotOf_32 rfl (lv_at hl 2 rfl) ?_
        refine lv_bipush (v := 32) hx hb dX4_slotOf_33 (by decide) ?_
        refine lv_lushr hx hb dX4_slotOf_35 rfl (lv_topl (fun v37 _ => ?_))
        refine lv_lxor hx hb dX4_slotOf_36 (lv_topl (fun v38 e_v38 => ?_))
        refine lv_lstore_n (lv' := [(2, .long v38), (0, .ref h0), (1, .ref h1), (4, .int y33)]) hx hb dX4_slotOf_37 rfl hl (by decide) rfl (fun ls hl => ?_)
        refine lv_lload_n hx hb dX4_slotOf_38 rfl (lv_at hl 0 rfl) ?_
        refine lv_lload_n hx hb dX4_slotOf_39 rfl (lv_at hl 0 rfl) ?_
        refine lv_bipush (v := 16) hx hb dX4_slotOf_40 (by decide) ?_
        refine lv_lushr hx hb dX4_slotOf_42 rfl (lv_topl (fun v39 _ => ?_))
        refine lv_lxor hx hb dX4_slotOf_43 (lv_topl (fun v40 e_v40 => ?_))
        refine lv_lstore_n (lv' := [(2, .long v40), (0, .ref h0), (1, .ref h1), (4, .int y33)]) hx hb dX4_slotOf_44 rfl hl (by decide) rfl (fun ls hl => ?_)
        refine lv_lload_n hx hb dX4_slotOf_45 rfl (lv_at hl 0 rfl) ?_
        refine lv_l2i hx hb dX4_slotOf_46 rfl (lv_topi (fun v41 _ => ?_))
        refine lv_aload_n hx hb dX4_slotOf_47 rfl (lv_at hl 1 rfl) ?_
        refine tz_get (ci := 3) (v := .ref h7) (C := RX4) (F := TX4) (N := 12) hx hb hU iX4 hown hK hT 0 rfl rfl 5 (by decide) w159 (fun _ h9 => h9) rfl dX4_slotOf_48 ?_
        refine tz_aleni (v := 1024) hx hb hK hT 2 rfl (by decide +kernel) dX4_slotOf_51 ?_
        refine lv_iconst (v := 1) hx hb dX4_slotOf_52 (by decide) ?_
        refine lv_isub hx hb dX4_slotOf_53 (sv_i (v := 1023) (by decide +kernel) ?_)
        refine lv_iand hx hb dX4_slotOf_54 (lv_topi (fun v42 e_v42 => ?_))
        have e_v42 := ai_and 10 e_v42 (by decide +kernel) (by decide)
        exact tz_retI (B := B_cX4_slotOf_f7b8f D k h0 h1 h7 h2 h3 h4 h5 h6 h8 h9 h0f8 h0f9 h0f10 h0f11) (v := v42) hQ hx hb hr hlocks hS (Nat.le_of_ble_eq_true rfl) (Nat.le_of_ble_eq_true rfl) dX4_slotOf_55 (⟨(by omega), hT⟩)
      · skip
        have c_36 := ni_nle c_36 rfl rfl
        refine lv_lload_n hx hb dX4_slotOf_14 rfl (lv_at hl 2 rfl) ?_
        refine lv_ldc2 hx hb hown (hU _ w515) dX4_slotOf_15 ?_
        refine lv_lmul hx hb dX4_slotOf_18 (lv_topl (fun v43 e_v43 => ?_))
        refine lv_aload_n hx hb dX4_slotOf_19 rfl (lv_at hl 1 rfl) ?_
        refine lv_iload hx hb dX4_slotOf_20 (lv_at hl 3 rfl) ?_
        refine tz_lald hx hb hK hT 1 rfl (by omega) dX4_slotOf_22 (fun v44 e_v44 => ?_)
        clear e_v44
        refine lv_ladd hx hb dX4_slotOf_23 (lv_topl (fun v45 e_v45 => ?_))
        refine lv_lstore_n (lv' := [(2, .long v45), (0, .ref h0), (1, .ref h1), (4, .int y33)]) hx hb dX4_slotOf_24 rfl hl (by decide) rfl (fun ls hl => ?_)
        obtain ⟨v46, e_v46⟩ : ∃ x : Int32, x = y33 + Int32.ofInt 1 := ⟨_, rfl⟩
        have f_v46 := e_v46.symm
        have e_v46 : v46.toInt = y33.toInt + 1 := ai_add e_v46 rfl (show (Int32.ofInt 1).toInt = 1 from (by decide +kernel)) (by omega)
        refine lv_iinc (v := v46) (lv' := [(4, .int v46), (2, .long v45), (0, .ref h0), (1, .ref h1)]) hx hb dX4_slotOf_25 hl (k := 3) rfl f_v46 (by decide) rfl (fun ls hl => ?_)
        refine lv_goto (tgt := 5) hx hb dX4_slotOf_28 (by decide) ?_
        exact ih5_35 v46 v45 _ _ _ (by omega)  (by omega) hT hS (lv_sub hl [2, 3, 1, 0] rfl)
  exact lp5_35 ((h0f8.toInt + (-1) * (0 : Int32).toInt + 1).toNat + 1) (0) (0) _ _ _ (by have := li_0; have := ll_0; omega)  (Nat.lt_succ_self _) hT hS (lv_sub hl [2, 3, 1, 0] rfl)
abbrev Rm_cX4_append_9081d : Room := { frames := 1, cells := 0, slots := 0, locals := 26 }
abbrev B_cX4_append_9081d (D : va_G) (k : Nat → ClassId) (h0 h1 h2 h3 h4 h5 h7 h8 h6 h9 : Nat) (x2 : Int32) (x3 : Int32) (h0f8 : Int32) (h0f9 : Int32) (h0f10 : Int32) (h0f11 : Int32) (A : Nat → Prop) (r : Int32) (H : Heap) : Prop := ∃ o0 : Int32, (1 ≤ o0.toInt ∧ o0.toInt ≤ 1) ∧ h0f10 = r ∧ TP D A [(h0, ob 3 [.ref h2, .ref h3, .ref h4, .ref h5, .ref h6, .ref h7, .ref h8, .ref h9, .int h0f8, .int h0f9, .int o0, .int h0f11]), (h1, aJ (k 1) 60 anJ), (h2, aJ (k 1) 12000 anJ), (h3, aI (k 0) 400 anI), (h4, aI (k 0) 400 anI), (h5, aI (k 0) 400 anI), (h7, aI (k 0) 1024 (rgI (-1) (o0.toInt - 1))), (h8, aI (k 0) 400 (pfI (o0.toInt)))] H
set_option maxHeartbeats 4000000 in
set_option maxRecDepth 100000 in
theorem cX4_append_9081d (l : Launch) (D : va_G) (k : Nat → ClassId) (sz : Nat) (h0 h1 h2 h3 h4 h5 h7 h8 h6 h9 : Nat) (x2 : Int32) (x3 : Int32) (h0f8 : Int32) (h0f9 : Int32) (h0f10 : Int32) (h0f11 : Int32) (b_x2 : (-3) ≤ x2.toInt ∧ x2.toInt ≤ (-3)) (b_x3 : (-3) ≤ x3.toInt ∧ x3.toInt ≤ (-3)) (b_h0f8 : 0 ≤ h0f8.toInt ∧ h0f8.toInt ≤ 60) (b_h0f9 : 200 ≤ h0f9.toInt ∧ h0f9.toInt ≤ 200) (b_h0f10 : 0 ≤ h0f10.toInt ∧ h0f10.toInt ≤ 0) (b_h0f11 : 0 ≤ h0f11.toInt ∧ h0f11.toInt ≤ 0) : Met l yX4_append (Cond.code yX4_append cX4_append 6 (some .int) :: uw) Rm_cX4_append_9081d (pT D k sz [.ref h0, .ref h1, .int x2, .int x3] [(h0, ob 3 [.ref h2, .ref h3, .ref h4, .ref h5, .ref h6, .ref h7, .ref h8, .ref h9, .int h0f8, .int h0f9, .int h0f10, .int h0f11]), (h1, aJ (k 1) 60 anJ), (h2, aJ (k 1) 12000 anJ), (h3, aI (k 0) 400 anI), (h4, aI (k 0) 400 anI), (h5, aI (k 0) 400 anI), (h7, aI (k 0) 1024 (rgI (-1) (h0f10.toInt - 1))), (h8, aI (k 0) 400 (pfI (h0f10.toInt)))]) (qI (B_cX4_append_9081d D k h0 h1 h2 h3 h4 h5 h7 h8 h6 h9 x2 x3 h0f8 h0f9 h0f10 h0f11 (zA [h0, h1, h2, h3, h4, h5, h7, h8] sz)) (zA [h0, h1, h2, h3, h4, h5, h7, h8] sz)) 0 0 (zA [h0, h1, h2, h3, h4, h5, h7, h8] sz) := by
  refine tz_begin (as := [h0, h1, h2, h3, h4, h5, h7, h8]) (Qc := fun A => qI (B_cX4_append_9081d D k h0 h1 h2 h3 h4 h5 h7 h8 h6 h9 x2 x3 h0f8 h0f9 h0f10 h0f11 A) A) (by decide +kernel) rfl (Nat.le_of_ble_eq_true rfl) ?_
  intro p e s m args below meth c ls A Q hx hb hr hml hown hlocks hin hU hK hT hS hA hl hQ
  have hl : lv_has ls 6 [(0, .ref h0), (1, .ref h1), (2, .int x2), (3, .int x3)] := hl
  have hT : TP D A [(h0, ob 3 [.ref h2, .ref h3, .ref h4, .ref h5, .ref h6, .ref h7, .ref h8, .ref h9, .int h0f8, .int h0f9, .int h0f10, .int h0f11]), (h1, aJ (k 1) 60 anJ), (h2, aJ (k 1) 12000 anJ), (h3, aI (k 0) 400 anI), (h4, aI (k 0) 400 anI), (h5, aI (k 0) 400 anI), (h7, aI (k 0) 1024 (rgI (-1) (h0f10.toInt - 1))), (h8, aI (k 0) 400 (pfI (h0f10.toInt)))] s.heap := hT
  refine lv_aload_n hx hb dX4_append_0 rfl (lv_at hl 0 rfl) ?_
  refine tz_get (ci := 3) (v := .int h0f10) (C := RX4) (F := TX4) (N := 12) hx hb hU iX4 hown hK hT 0 rfl rfl 10 (by decide) w164 (fun _ h9 => h9) rfl dX4_append_1 ?_
  refine lv_aload_n hx hb dX4_append_4 rfl (lv_at hl 0 rfl) ?_
  refine tz_get (ci := 3) (v := .int h0f9) (C := RX4) (F := TX4) (N := 12) hx hb hU iX4 hown hK hT 0 rfl rfl 9 (by decide) w163 (fun _ h9 => h9) rfl dX4_append_5 ?_
  refine lv_icmp_lt (tgt := 13) hx hb dX4_append_8 (by decide) (fun c_1 => ?_) (fun c_1 => ?_)
  · skip
    have c_1 := ni_lt c_1 rfl rfl
    refine lv_aload_n hx hb dX4_append_13 rfl (lv_at hl 0 rfl) ?_
    refine tz_get (ci := 3) (v := .int h0f10) (C := RX4) (F := TX4) (N := 12) hx hb hU iX4 hown hK hT 0 rfl rfl 10 (by decide) w164 (fun _ h9 => h9) rfl dX4_append_14 ?_
    refine lv_istore (lv' := [(4, .int h0f10), (0, .ref h0), (1, .ref h1), (2, .int x2), (3, .int x3)]) hx hb dX4_append_17 hl (by decide) rfl (fun ls hl => ?_)
    refine lv_aload_n hx hb dX4_append_19 rfl (lv_at hl 2 rfl) ?_
    refine lv_iconst (v := 0) hx hb dX4_append_20 (by decide) ?_
    refine lv_aload_n hx hb dX4_append_21 rfl (lv_at hl 1 rfl) ?_
    refine tz_get (ci := 3) (v := .ref h2) (C := RX4) (F := TX4) (N := 12) hx hb hU iX4 hown hK hT 0 rfl rfl 0 (by decide) w149 (fun _ h9 => h9) rfl dX4_append_22 ?_
    refine lv_aload_n hx hb dX4_append_25 rfl (lv_at hl 1 rfl) ?_
    refine lv_iload hx hb dX4_append_26 (lv_at hl 0 rfl) ?_
    refine tcI (Tc := [(h0, ob 3 [.ref h2, .ref h3, .ref h4, .ref h5, .ref h6, .ref h7, .ref h8, .ref h9, .int h0f8, .int h0f9, .int h0f10, .int h0f11])]) (Tr := [(h1, aJ (k 1) 60 anJ), (h2, aJ (k 1) 12000 anJ), (h3, aI (k 0) 400 anI), (h4, aI (k 0) 400 anI), (h5, aI (k 0) 400 anI), (h7, aI (k 0) 1024 (rgI (-1) (h0f10.toInt - 1))), (h8, aI (k 0) 400 (pfI (h0f10.toInt)))]) (as := [h0]) (zcV (q0 := 0) (ci := 3) (As := [.int h0f10]) (rest := [.ref h2, .int 0, .ref h1]) (Tc := [(h0, ob 3 [.ref h2, .ref h3, .ref h4, .ref h5, .ref h6, .ref h7, .ref h8, .ref h9, .int h0f8, .int h0f9, .int h0f10, .int h0f11])]) hx hb hml hown hU hK hT rfl rfl [0] rfl (by decide) (cX4_start_48432 l D k _ h0 h2 h3 h4 h5 h6 h7 h8 h9 h0f10 h0f8 h0f9 h0f10 h0f11 (by omega) (by omega) (by omega) (by omega) (by omega)) w505 w502 w503 w504 w66 hdX4_start ⟨rfl, rfl⟩ ⟨Nat.le_of_ble_eq_true rfl, Nat.le_of_ble_eq_true rfl⟩ rfl hl.1 (Nat.le_of_ble_eq_true rfl) dX4_append_28 ⟨Nat.le_of_ble_eq_true rfl, Nat.le_of_ble_eq_true rfl⟩) hT hS hA [0] [1, 2, 3, 4, 5, 6, 7] rfl rfl rfl (by decide) (by decide) (fun r2 H locs hB J hS => ?_)
    obtain ⟨b_r2, hT1⟩ := hB
    have hT := J _ hT1
    have hT : TP D A [(h1, aJ (k 1) 60 anJ), (h2, aJ (k 1) 12000 anJ), (h3, aI (k 0) 400 anI), (h4, aI (k 0) 400 anI), (h5, aI (k 0) 400 anI), (h7, aI (k 0) 1024 (rgI (-1) (h0f10.toInt - 1))), (h8, aI (k 0) 400 (pfI (h0f10.toInt))), (h0, ob 3 [.ref h2, .ref h3, .ref h4, .ref h5, .ref h6, .ref h7, .ref h8, .ref h9, .int h0f8, .int h0f9, .int h0f10, .int h0f11])] _ := hT
    refine lv_aload_n hx hb dX4_append_31 rfl (lv_at hl 1 rfl) ?_
    refine tz_get (ci := 3) (v := .int h0f8) (C := RX4) (F := TX4) (N := 12) hx hb hU iX4 hown hK hT 7 rfl rfl 8 (by decide) w162 (fun _ h9 => h9) rfl dX4_append_32 ?_
    refine tz_copyl hx hb (by rw [hml]; exact hl.1.symm) hown hU w506 w348 w347 w75 hK hT hS 0 1 rfl rfl (by have := li_0; omega) (fun _ _ _ _ => trivial) (Nat.le_of_ble_eq_true rfl) (Nat.le_of_ble_eq_true rfl) dX4_append_35 (fun H locs hT hS => ?_)
    refine lv_aload_n hx hb dX4_append_38 rfl (lv_at hl 1 rfl) ?_
    refine tz_get (ci := 3) (v := .ref h3) (C := RX4) (F := TX4) (N := 12) hx hb hU iX4 hown hK hT 7 rfl rfl 1 (by decide) w151 (fun _ h9 => h9) rfl dX4_append_39 ?_
    refine lv_iload hx hb dX4_append_42 (lv_at hl 0 rfl) ?_
    refine lv_iload_n hx hb dX4_append_44 rfl (lv_at hl 3 rfl) ?_
    refine tz_iast hx hb hK hT hS 2 rfl (by omega) (fun _ _ => trivial) dX4_append_45 (fun H locs hT hS => ?_)
    refine lv_aload_n hx hb dX4_append_46 rfl (lv_at hl 1 rfl) ?_
    refine tz_get (ci := 3) (v := .ref h4) (C := RX4) (F := TX4) (N := 12) hx hb hU iX4 hown hK hT 7 rfl rfl 2 (by decide) w153 (fun _ h9 => h9) rfl dX4_append_47 ?_
    refine lv_iload hx hb dX4_append_50 (lv_at hl 0 rfl) ?_
    refine lv_iload_n hx hb dX4_append_52 rfl (lv_at hl 4 rfl) ?_
    refine tz_iast hx hb hK hT hS 3 rfl (by omega) (fun _ _ => trivial) dX4_append_53 (fun H locs hT hS => ?_)
    refine lv_aload_n hx hb dX4_append_54 rfl (lv_at hl 1 rfl) ?_
    refine tz_get (ci := 3) (v := .ref h5) (C := RX4) (F := TX4) (N := 12) hx hb hU iX4 hown hK hT 7 rfl rfl 3 (by decide) w155 (fun _ h9 => h9) rfl dX4_append_55 ?_
    refine lv_iload hx hb dX4_append_58 (lv_at hl 0 rfl) ?_
    refine lv_aload_n hx hb dX4_append_60 rfl (lv_at hl 1 rfl) ?_
    refine lv_iload_n hx hb dX4_append_61 rfl (lv_at hl 3 rfl) ?_
    refine tcI (Tc := [(h0, ob 3 [.ref h2, .ref h3, .ref h4, .ref h5, .ref h6, .ref h7, .ref h8, .ref h9, .int h0f8, .int h0f9, .int h0f10, .int h0f11])]) (Tr := [(h1, aJ (k 1) 60 anJ), (h2, aJ (k 1) 12000 anJ), (h3, aI (k 0) 400 anI), (h4, aI (k 0) 400 anI), (h5, aI (k 0) 400 anI), (h7, aI (k 0) 1024 (rgI (-1) (h0f10.toInt - 1))), (h8, aI (k 0) 400 (pfI (h0f10.toInt)))]) (as := [h0]) (zcV (q0 := 7) (ci := 3) (As := [.int x2]) (rest := [.int h0f10, .ref h5]) (Tc := [(h0, ob 3 [.ref h2, .ref h3, .ref h4, .ref h5, .ref h6, .ref h7, .ref h8, .ref h9, .int h0f8, .int h0f9, .int h0f10, .int h0f11])]) hx hb hml hown hU hK hT rfl rfl [7] rfl (by decide) (cX4_has_f6a1f l D k _ h0 h2 h3 h4 h5 h6 h7 h8 h9 x2 h0f8 h0f9 h0f10 h0f11 (by omega) (by omega) (by omega) (by omega) (by omega)) w510 w507 w508 w509 w66 hdX4_has ⟨rfl, rfl⟩ ⟨Nat.le_of_ble_eq_true rfl, Nat.le_of_ble_eq_true rfl⟩ rfl hl.1 (Nat.le_of_ble_eq_true rfl) dX4_append_62 ⟨Nat.le_of_ble_eq_true rfl, Nat.le_of_ble_eq_true rfl⟩) hT hS hA [7] [0, 1, 2, 3, 4, 5, 6] rfl rfl rfl (by decide) (by decide) (fun r3 H locs hB J hS => ?_)
    rcases hB with ⟨rfl, hT1⟩ | ⟨c_4, c_5, rfl, hT1⟩
    · skip
      have hT := J _ hT1
      have hT : TP D A [(h1, aJ (k 1) 60 anJ), (h2, aJ (k 1) 12000 anJ), (h3, aI (k 0) 400 anI), (h4, aI (k 0) 400 anI), (h5, aI (k 0) 400 anI), (h7, aI (k 0) 1024 (rgI (-1) (h0f10.toInt - 1))), (h8, aI (k 0) 400 (pfI (h0f10.toInt))), (h0, ob 3 [.ref h2, .ref h3, .ref h4, .ref h5, .ref h6, .ref h7, .ref h8, .ref h9, .int h0f8, .int h0f9, .int h0f10, .int h0f11])] _ := hT
      refine lv_if_eq (tgt := 79) hx hb dX4_append_65 (by decide) (fun _ => ?_) (fun cc => absurd (by decide +kernel) cc)
      refine lv_iconst (v := 0) hx hb dX4_append_79 (by decide) ?_
      refine tz_iast hx hb hK hT hS 4 rfl (by omega) (fun _ _ => trivial) dX4_append_80 (fun H locs hT hS => ?_)
      refine lv_aload_n hx hb dX4_append_81 rfl (lv_at hl 1 rfl) ?_
      refine lv_aload_n hx hb dX4_append_82 rfl (lv_at hl 2 rfl) ?_
      refine tcI (Tc := [(h0, ob 3 [.ref h2, .ref h3, .ref h4, .ref h5, .ref h6, .ref h7, .ref h8, .ref h9, .int h0f8, .int h0f9, .int h0f10, .int h0f11]), (h1, aJ (k 1) 60 anJ), (h7, aI (k 0) 1024 (rgI (-1) (h0f10.toInt - 1)))]) (Tr := [(h2, aJ (k 1) 12000 anJ), (h3, aI (k 0) 400 anI), (h4, aI (k 0) 400 anI), (h5, aI (k 0) 400 anI), (h8, aI (k 0) 400 (pfI (h0f10.toInt)))]) (as := [h0, h1, h7]) (zcV (q0 := 7) (ci := 3) (As := [.ref h1]) (rest := []) (Tc := [(h0, ob 3 [.ref h2, .ref h3, .ref h4, .ref h5, .ref h6, .ref h7, .ref h8, .ref h9, .int h0f8, .int h0f9, .int h0f10, .int h0f11]), (h1, aJ (k 1) 60 anJ), (h7, aI (k 0) 1024 (rgI (-1) (h0f10.toInt - 1)))]) hx hb hml hown hU hK hT rfl rfl [7, 0, 5] rfl (by decide) (cX4_slotOf_f7b8f l D k _ h0 h1 h7 h2 h3 h4 h5 h6 h8 h9 h0f8 h0f9 h0f10 h0f11 (by omega) (by omega) (by omega) (by omega)) w514 w511 w513 w11 w66 hdX4_slotOf ⟨rfl, rfl⟩ ⟨Nat.le_of_ble_eq_true rfl, Nat.le_of_ble_eq_true rfl⟩ rfl hl.1 (Nat.le_of_ble_eq_true rfl) dX4_append_83 ⟨Nat.le_of_ble_eq_true rfl, Nat.le_of_ble_eq_true rfl⟩) hT hS hA [7, 0, 5] [1, 2, 3, 4, 6] rfl rfl rfl (by decide) (by decide) (fun r6 H locs hB J hS => ?_)
      obtain ⟨b_r6, hT1⟩ := hB
      have hT := J _ hT1
      have hT : TP D A [(h2, aJ (k 1) 12000 anJ), (h3, aI (k 0) 400 anI), (h4, aI (k 0) 400 anI), (h5, aI (k 0) 400 anI), (h8, aI (k 0) 400 (pfI (h0f10.toInt))), (h0, ob 3 [.ref h2, .ref h3, .ref h4, .ref h5, .ref h6, .ref h7, .ref h8, .ref h9, .int h0f8, .int h0f9, .int h0f10, .int h0f11]), (h1, aJ (k 1) 60 anJ), (h7, aI (k 0) 1024 (rgI (-1) (h0f10.toInt - 1)))] _ := hT
      refine lv_istore (lv' := [(5, .int r6), (4, .int h0f10), (0, .ref h0), (1, .ref h1), (2, .int x2), (3, .int x3)]) hx hb dX4_append_86 hl (by decide) rfl (fun ls hl => ?_)
      refine lv_aload_n hx hb dX4_append_88 rfl (lv_at hl 2 rfl) ?_
      refine tz_get (ci := 3) (v := .ref h8) (C := RX4) (F := TX4) (N := 12) hx hb hU iX4 hown hK hT 5 rfl rfl 6 (by decide) w160 (fun _ h9 => h9) rfl dX4_append_89 ?_
      refine lv_iload hx hb dX4_append_92 (lv_at hl 1 rfl) ?_
      refine lv_aload_n hx hb dX4_append_94 rfl (lv_at hl 2 rfl) ?_
      refine tz_get (ci := 3) (v := .ref h7) (C := RX4) (F := TX4) (N := 12) hx hb hU iX4 hown hK hT 5 rfl rfl 5 (by decide) w159 (fun _ h9 => h9) rfl dX4_append_95 ?_
      refine lv_iload hx hb dX4_append_98 (lv_at hl 0 rfl) ?_
      refine tz_iald hx hb hK hT 7 rfl (by omega) dX4_append_100 (fun v7 e_v7 => ?_)
      have e_v7 := rg_get e_v7
      refine tz_iastP hx hb hK hT hS 4 (pfI (h0f10.toInt + 1)) rfl (by omega) (pf_put (by omega) (by omega)) dX4_append_101 (fun H locs hT hS => ?_)
      have hT : TP D A [(h2, aJ (k 1) 12000 anJ), (h3, aI (k 0) 400 anI), (h4, aI (k 0) 400 anI), (h5, aI (k 0) 400 anI), (h8, aI (k 0) 400 (pfI (h0f10.toInt + 1))), (h0, ob 3 [.ref h2, .ref h3, .ref h4, .ref h5, .ref h6, .ref h7, .ref h8, .ref h9, .int h0f8, .int h0f9, .int h0f10, .int h0f11]), (h1, aJ (k 1) 60 anJ), (h7, aI (k 0) 1024 (rgI (-1) (h0f10.toInt - 1)))] _ := hT
      refine lv_aload_n hx hb dX4_append_102 rfl (lv_at hl 2 rfl) ?_
      refine tz_get (ci := 3) (v := .ref h7) (C := RX4) (F := TX4) (N := 12) hx hb hU iX4 hown hK hT 5 rfl rfl 5 (by decide) w159 (fun _ h9 => h9) rfl dX4_append_103 ?_
      refine lv_iload hx hb dX4_append_106 (lv_at hl 0 rfl) ?_
      refine lv_iload hx hb dX4_append_108 (lv_at hl 1 rfl) ?_
      refine tz_iastP hx hb hK hT hS 7 (rgI (-1) (h0f10.toInt + 1 - 1)) rfl (by omega) (rg_put2 (by omega)) dX4_append_110 (fun H locs hT hS => ?_)
      have hT : TP D A [(h2, aJ (k 1) 12000 anJ), (h3, aI (k 0) 400 anI), (h4, aI (k 0) 400 anI), (h5, aI (k 0) 400 anI), (h8, aI (k 0) 400 (pfI (h0f10.toInt + 1))), (h0, ob 3 [.ref h2, .ref h3, .ref h4, .ref h5, .ref h6, .ref h7, .ref h8, .ref h9, .int h0f8, .int h0f9, .int h0f10, .int h0f11]), (h1, aJ (k 1) 60 anJ), (h7, aI (k 0) 1024 (rgI (-1) (h0f10.toInt + 1 - 1)))] _ := hT
      refine lv_aload_n hx hb dX4_append_111 rfl (lv_at hl 2 rfl) ?_
      refine lv_dup hx hb dX4_append_112 rfl ?_
      refine tz_get (ci := 3) (v := .int h0f10) (C := RX4) (F := TX4) (N := 12) hx hb hU iX4 hown hK hT 5 rfl rfl 10 (by decide) w164 (fun _ h9 => h9) rfl dX4_append_113 ?_
      refine lv_iconst (v := 1) hx hb dX4_append_116 (by decide) ?_
      have hq8 : h0f10.toInt = 0 := by omega
      refine lv_iadd hx hb dX4_append_117 (lv_topi (fun v9 e_v9 => ?_))
      have e_v9 := ai_add e_v9 hq8 li_1 (by omega)
      refine tz_put (ci := 3) (v := .int v9) (ty := .int) (C := RX4) (F := TX4) (N := 12) hx hb hU iX4 tyX4 tyX4_ok nmX4 hown hK hT hS 5 rfl rfl 10 (by decide) w164 (fun _ h9 => h9) rfl (by decide +kernel) rfl rfl (Nat.le_of_ble_eq_true rfl) dX4_append_118 (fun H locs hT hS => ?_)
      have hT : TP D A [(h2, aJ (k 1) 12000 anJ), (h3, aI (k 0) 400 anI), (h4, aI (k 0) 400 anI), (h5, aI (k 0) 400 anI), (h8, aI (k 0) 400 (pfI (h0f10.toInt + 1))), (h0, ob 3 [.ref h2, .ref h3, .ref h4, .ref h5, .ref h6, .ref h7, .ref h8, .ref h9, .int h0f8, .int h0f9, .int v9, .int h0f11]), (h1, aJ (k 1) 60 anJ), (h7, aI (k 0) 1024 (rgI (-1) (h0f10.toInt + 1 - 1)))] _ := hT
      refine lv_iload hx hb dX4_append_121 (lv_at hl 1 rfl) ?_
      have hT := hT.wk (q := 4) (P' := aI (k 0) 400 (pfI (v9.toInt))) rfl (pf_eq (by omega))
      have hT : TP D A [(h2, aJ (k 1) 12000 anJ), (h3, aI (k 0) 400 anI), (h4, aI (k 0) 400 anI), (h5, aI (k 0) 400 anI), (h8, aI (k 0) 400 (pfI (v9.toInt))), (h0, ob 3 [.ref h2, .ref h3, .ref h4, .ref h5, .ref h6, .ref h7, .ref h8, .ref h9, .int h0f8, .int h0f9, .int v9, .int h0f11]), (h1, aJ (k 1) 60 anJ), (h7, aI (k 0) 1024 (rgI (-1) (h0f10.toInt + 1 - 1)))] _ := hT
      have hT := hT.wk (q := 7) (P' := aI (k 0) 1024 (rgI (-1) (v9.toInt - 1))) rfl (sl_eq (by omega))
      have hT : TP D A [(h2, aJ (k 1) 12000 anJ), (h3, aI (k 0) 400 anI), (h4, aI (k 0) 400 anI), (h5, aI (k 0) 400 anI), (h8, aI (k 0) 400 (pfI (v9.toInt))), (h0, ob 3 [.ref h2, .ref h3, .ref h4, .ref h5, .ref h6, .ref h7, .ref h8, .ref h9, .int h0f8, .int h0f9, .int v9, .int h0f11]), (h1, aJ (k 1) 60 anJ), (h7, aI (k 0) 1024 (rgI (-1) (v9.toInt - 1)))] _ := hT
      exact tz_retI (B := B_cX4_append_9081d D k h0 h1 h2 h3 h4 h5 h7 h8 h6 h9 x2 x3 h0f8 h0f9 h0f10 h0f11) (v := h0f10) hQ hx hb hr hlocks hS (Nat.le_of_ble_eq_true rfl) (Nat.le_of_ble_eq_true rfl) dX4_append_123 (⟨v9, (by omega), rfl, (hT.sub [5, 6, 0, 1, 2, 3, 7, 4] (by decide) rfl)⟩)
    · skip
      have hT := J _ hT1
      have hT : TP D A [(h1, aJ (k 1) 60 anJ), (h2, aJ (k 1) 12000 anJ), (h3, aI (k 0) 400 anI), (h4, aI (k 0) 400 anI), (h5, aI (k 0) 400 anI), (h7, aI (k 0) 1024 (rgI (-1) (h0f10.toInt - 1))), (h8, aI (k 0) 400 (pfI (h0f10.toInt))), (h0, ob 3 [.ref h2, .ref h3, .ref h4, .ref h5, .ref h6, .ref h7, .ref h8, .ref h9, .int h0f8, .int h0f9, .int h0f10, .int h0f11])] _ := hT
      exfalso; omega
  · skip
    have c_1 := ni_nlt c_1 rfl rfl
    exfalso; omega
abbrev Rm_cX0_go_5fc8a : Room := { frames := 1, cells := 0, slots := 0, locals := 21 }
abbrev B_cX0_go_5fc8a (D : va_G) (k : Nat → ClassId) (h0 h1 h2 h3 h8 h4 h5 h6 h7 h9 h10 h11 : Nat) (x2 : Int32) (x3 : Int32) (h3f8 : Int32) (h3f9 : Int32) (h3f10 : Int32) (h3f11 : Int32) (A : Nat → Prop) (r : Int32) (H : Heap) : Prop := (0 ≤ r.toInt ∧ r.toInt ≤ 1) ∧ TP D A [(h0, ob 0 [.ref h3]), (h1, aJ (k 1) 12000 anJ), (h2, aJ (k 1) 60 anJ), (h3, ob 3 [.ref h4, .ref h5, .ref h6, .ref h7, .ref h8, .ref h9, .ref h10, .ref h11, .int h3f8, .int h3f9, .int h3f10, .int h3f11]), (h8, aI (k 0) 240 anI)] H
set_option maxHeartbeats 4000000 in
set_option maxRecDepth 100000 in
theorem cX0_go_5fc8a (l : Launch) (D : va_G) (k : Nat → ClassId) (sz : Nat) (h0 h1 h2 h3 h8 h4 h5 h6 h7 h9 h10 h11 : Nat) (x2 : Int32) (x3 : Int32) (h3f8 : Int32) (h3f9 : Int32) (h3f10 : Int32) (h3f11 : Int32) (b_x2 : 0 ≤ x2.toInt ∧ x2.toInt ≤ 11940) (b_x3 : 0 ≤ x3.toInt ∧ x3.toInt ≤ 3) (b_h3f8 : 0 ≤ h3f8.toInt ∧ h3f8.toInt ≤ 3) (b_h3f9 : 0 ≤ h3f9.toInt ∧ h3f9.toInt ≤ 60) (b_h3f10 : 0 ≤ h3f10.toInt ∧ h3f10.toInt ≤ 60) (b_h3f11 : 1 ≤ h3f11.toInt ∧ h3f11.toInt ≤ 1) : Met l yX0_go (Cond.code yX0_go cX0_go 7 (some .boolean) :: uw) Rm_cX0_go_5fc8a (pT D k sz [.ref h0, .ref h1, .int x2, .int x3, .ref h2] [(h0, ob 0 [.ref h3]), (h1, aJ (k 1) 12000 anJ), (h2, aJ (k 1) 60 anJ), (h3, ob 3 [.ref h4, .ref h5, .ref h6, .ref h7, .ref h8, .ref h9, .ref h10, .ref h11, .int h3f8, .int h3f9, .int h3f10, .int h3f11]), (h8, aI (k 0) 240 anI)]) (qI (B_cX0_go_5fc8a D k h0 h1 h2 h3 h8 h4 h5 h6 h7 h9 h10 h11 x2 x3 h3f8 h3f9 h3f10 h3f11 (zA [h0, h1, h2, h3, h8] sz)) (zA [h0, h1, h2, h3, h8] sz)) 0 0 (zA [h0, h1, h2, h3, h8] sz) := by
  refine tz_begin (as := [h0, h1, h2, h3, h8]) (Qc := fun A => qI (B_cX0_go_5fc8a D k h0 h1 h2 h3 h8 h4 h5 h6 h7 h9 h10 h11 x2 x3 h3f8 h3f9 h3f10 h3f11 A) A) (by decide +kernel) rfl (Nat.le_of_ble_eq_true rfl) ?_
  intro p e s m args below meth c ls A Q hx hb hr hml hown hlocks hin hU hK hT hS hA hl hQ
  have hl : lv_has ls 7 [(0, .ref h0), (1, .ref h1), (2, .int x2), (3, .int x3), (4, .ref h2)] := hl
  have hT : TP D A [(h0, ob 0 [.ref h3]), (h1, aJ (k 1) 12000 anJ), (h2, aJ (k 1) 60 anJ), (h3, ob 3 [.ref h4, .ref h5, .ref h6, .ref h7, .ref h8, .ref h9, .ref h10, .ref h11, .int h3f8, .int h3f9, .int h3f10, .int h3f11]), (h8, aI (k 0) 240 anI)] s.heap := hT
  refine lv_iconst (v := 0) hx hb dX0_go_0 (by decide) ?_
  refine lv_istore (lv' := [(5, .int 0), (0, .ref h0), (1, .ref h1), (2, .int x2), (3, .int x3), (4, .ref h2)]) hx hb dX0_go_1 hl (by decide) rfl (fun ls hl => ?_)
  have lp3_13 : ∀ (n : Nat) (y12 : Int32) (H : Heap) (locs : List Loc) (ls : Array Slot), (0 ≤ y12.toInt ∧ y12.toInt ≤ 60) → (h3f10.toInt + (-1) * y12.toInt + 1).toNat < n → TP D A [(h0, ob 0 [.ref h3]), (h1, aJ (k 1) 12000 anJ), (h2, aJ (k 1) 60 anJ), (h3, ob 3 [.ref h4, .ref h5, .ref h6, .ref h7, .ref h8, .ref h9, .ref h10, .ref h11, .int h3f8, .int h3f9, .int h3f10, .int h3f11]), (h8, aI (k 0) 240 anI)] H → va_S A s.heap H locs → lv_has ls 7 [(0, .ref h0), (1, .ref h1), (2, .int x2), (3, .int x3), (4, .ref h2), (5, .int y12)] → W p l e Rm_cX0_go_5fc8a s m args below meth c H locs 0 0 Q (F0 m 3 ls []) := by
    intro n
    induction n with
    | zero => intro y12 H locs ls b_y12 hm hT hS hl; exact absurd hm (Nat.not_lt_zero _)
    | succ n ih =>
      intro y12 H locs ls b_y12 hm hT hS hl
      have ih3_13 := ih
      clear ih
      refine lv_iload hx hb dX0_go_3 (lv_at hl 5 rfl) ?_
      refine lv_aload_n hx hb dX0_go_5 rfl (lv_at hl 0 rfl) ?_
      refine tz_get (ci := 0) (v := .ref h3) (C := RX0) (F := TX0) (N := 1) hx hb hU iX0 hown hK hT 0 rfl rfl 0 (by decide) w228 (fun _ h9 => h9) rfl dX0_go_6 ?_
      refine tz_get (ci := 3) (v := .int h3f10) (C := RX4) (F := TX4) (N := 12) hx hb hU iX4 hown hK hT 3 rfl rfl 10 (by decide) w165 (fun _ h9 => h9) rfl dX0_go_9 ?_
      refine lv_icmp_ge (tgt := 64) hx hb dX0_go_12 (by decide) (fun c_14 => ?_) (fun c_14 => ?_)
      · skip
        have c_14 := ni_le c_14 rfl rfl
        refine lv_iconst (v := 1) hx hb dX0_go_64 (by decide) ?_
        exact tz_retZ (B := B_cX0_go_5fc8a D k h0 h1 h2 h3 h8 h4 h5 h6 h7 h9 h10 h11 x2 x3 h3f8 h3f9 h3f10 h3f11) (v := 1) hQ hx hb hr hlocks hS (Nat.le_of_ble_eq_true rfl) (Nat.le_of_ble_eq_true rfl) dX0_go_65 (by have := li_1; omega) (⟨(by have := li_1; omega), hT⟩)
      · skip
        have c_14 := ni_nle c_14 rfl rfl
        refine lv_aload_n hx hb dX0_go_15 rfl (lv_at hl 1 rfl) ?_
        refine lv_iload_n hx hb dX0_go_16 rfl (lv_at hl 2 rfl) ?_
        refine lv_iload hx hb dX0_go_17 (lv_at hl 5 rfl) ?_
        refine lv_iadd hx hb dX0_go_19 (lv_topi (fun v15 e_v15 => ?_))
        have e_v15 := ai_add e_v15 rfl rfl (by omega)
        refine tz_lald hx hb hK hT 1 rfl (by omega) dX0_go_20 (fun v16 e_v16 => ?_)
        clear e_v16
        refine lv_l2i hx hb dX0_go_21 rfl (lv_topi (fun v17 _ => ?_))
        refine lv_istore (lv' := [(6, .int v17), (0, .ref h0), (1, .ref h1), (2, .int x2), (3, .int x3), (4, .ref h2), (5, .int y12)]) hx hb dX0_go_22 hl (by decide) rfl (fun ls hl => ?_)
        refine lv_aload_n hx hb dX0_go_24 rfl (lv_at hl 1 rfl) ?_
        refine tz_get (ci := 0) (v := .ref h3) (C := RX0) (F := TX0) (N := 1) hx hb hU iX0 hown hK hT 0 rfl rfl 0 (by decide) w228 (fun _ h9 => h9) rfl dX0_go_25 ?_
        refine lv_iload hx hb dX0_go_28 (lv_at hl 0 rfl) ?_
        refine tcI (Tc := [(h3, ob 3 [.ref h4, .ref h5, .ref h6, .ref h7, .ref h8, .ref h9, .ref h10, .ref h11, .int h3f8, .int h3f9, .int h3f10, .int h3f11])]) (Tr := [(h0, ob 0 [.ref h3]), (h1, aJ (k 1) 12000 anJ), (h2, aJ (k 1) 60 anJ), (h8, aI (k 0) 240 anI)]) (as := [h3]) (zcV (q0 := 3) (ci := 3) (As := [.int v17]) (rest := []) (Tc := [(h3, ob 3 [.ref h4, .ref h5, .ref h6, .ref h7, .ref h8, .ref h9, .ref h10, .ref h11, .int h3f8, .int h3f9, .int h3f10, .int h3f11])]) hx hb hml hown hU hK hT rfl rfl [3] rfl (by decide) (cX4_has_e732f l D k _ h3 h4 h5 h6 h7 h8 h9 h10 h11 v17 h3f8 h3f9 h3f10 h3f11 (by omega) (by omega) (by omega) (by omega)) w510 w530 w508 w509 w66 hdX4_has ⟨rfl, rfl⟩ ⟨Nat.le_of_ble_eq_true rfl, Nat.le_of_ble_eq_true rfl⟩ rfl hl.1 (Nat.le_of_ble_eq_true rfl) dX0_go_30 ⟨Nat.le_of_ble_eq_true rfl, Nat.le_of_ble_eq_true rfl⟩) hT hS hA [3] [0, 1, 2, 4] rfl rfl rfl (by decide) (by decide) (fun r18 H locs hB J hS => ?_)
        rcases hB with ⟨rfl, hT1⟩ | ⟨c_19, c_20, rfl, hT1⟩
        · skip
          have hT := J _ hT1
          have hT : TP D A [(h0, ob 0 [.ref h3]), (h1, aJ (k 1) 12000 anJ), (h2, aJ (k 1) 60 anJ), (h8, aI (k 0) 240 anI), (h3, ob 3 [.ref h4, .ref h5, .ref h6, .ref h7, .ref h8, .ref h9, .ref h10, .ref h11, .int h3f8, .int h3f9, .int h3f10, .int h3f11])] _ := hT
          refine lv_if_ne (tgt := 38) hx hb dX0_go_33 (by decide) (fun cc => absurd (by decide +kernel) cc) (fun _ => ?_)
          refine lv_iconst (v := 0) hx hb dX0_go_36 (by decide) ?_
          exact tz_retZ (B := B_cX0_go_5fc8a D k h0 h1 h2 h3 h8 h4 h5 h6 h7 h9 h10 h11 x2 x3 h3f8 h3f9 h3f10 h3f11) (v := 0) hQ hx hb hr hlocks hS (Nat.le_of_ble_eq_true rfl) (Nat.le_of_ble_eq_true rfl) dX0_go_37 (by have := li_0; omega) (⟨(by have := li_0; omega), (hT.sub [0, 1, 2, 4, 3] (by decide) rfl)⟩)
        · skip
          have hT := J _ hT1
          have hT : TP D A [(h0, ob 0 [.ref h3]), (h1, aJ (k 1) 12000 anJ), (h2, aJ (k 1) 60 anJ), (h8, aI (k 0) 240 anI), (h3, ob 3 [.ref h4, .ref h5, .ref h6, .ref h7, .ref h8, .ref h9, .ref h10, .ref h11, .int h3f8, .int h3f9, .int h3f10, .int h3f11])] _ := hT
          refine lv_if_ne (tgt := 38) hx hb dX0_go_33 (by decide) (fun _ => ?_) (fun cc => absurd cc (by decide +kernel))
          refine lv_aload hx hb dX0_go_38 (lv_at hl 5 rfl) ?_
          refine lv_iload hx hb dX0_go_40 (lv_at hl 6 rfl) ?_
          refine lv_aload_n hx hb dX0_go_42 rfl (lv_at hl 1 rfl) ?_
          refine tz_get (ci := 0) (v := .ref h3) (C := RX0) (F := TX0) (N := 1) hx hb hU iX0 hown hK hT 0 rfl rfl 0 (by decide) w228 (fun _ h9 => h9) rfl dX0_go_43 ?_
          refine tz_get (ci := 3) (v := .ref h8) (C := RX4) (F := TX4) (N := 12) hx hb hU iX4 hown hK hT 4 rfl rfl 4 (by decide) w158 (fun _ h9 => h9) rfl dX0_go_46 ?_
          refine lv_iload hx hb dX0_go_49 (lv_at hl 0 rfl) ?_
          refine lv_iconst (v := 4) hx hb dX0_go_51 (by decide) ?_
          refine lv_imul hx hb dX0_go_52 (lv_topi (fun v21 e_v21 => ?_))
          have e_v21 := ai_mul e_v21 rfl li_4 (by omega)
          refine lv_iload_n hx hb dX0_go_53 rfl (lv_at hl 4 rfl) ?_
          refine lv_iadd hx hb dX0_go_54 (lv_topi (fun v22 e_v22 => ?_))
          have e_v22 := ai_add e_v22 rfl rfl (by omega)
          refine tz_iald hx hb hK hT 3 rfl (by omega) dX0_go_55 (fun v23 e_v23 => ?_)
          clear e_v23
          have tb_v23 := i32b v23
          obtain ⟨v24, e_v24⟩ : ∃ x : Int64, v23.toInt64 = x := ⟨_, rfl⟩
          refine lv_i2l (v := v24) hx hb dX0_go_56 e_v24 ?_
          have e_v24 := ai_i2l e_v24 rfl
          refine tz_last hx hb hK hT hS 2 rfl (by omega) (fun _ _ => trivial) dX0_go_57 (fun H locs hT hS => ?_)
          obtain ⟨v25, e_v25⟩ : ∃ x : Int32, x = y12 + Int32.ofInt 1 := ⟨_, rfl⟩
          have f_v25 := e_v25.symm
          have e_v25 : v25.toInt = y12.toInt + 1 := ai_add e_v25 rfl (show (Int32.ofInt 1).toInt = 1 from (by decide +kernel)) (by omega)
          refine lv_iinc (v := v25) (lv' := [(5, .int v25), (6, .int v17), (0, .ref h0), (1, .ref h1), (2, .int x2), (3, .int x3), (4, .ref h2)]) hx hb dX0_go_58 hl (k := 6) rfl f_v25 (by decide) rfl (fun ls hl => ?_)
          refine lv_goto (tgt := 3) hx hb dX0_go_61 (by decide) ?_
          exact ih3_13 v25 _ _ _ (by omega)  (by omega) (hT.sub [0, 1, 2, 4, 3] (by decide) rfl) hS (lv_sub hl [2, 3, 4, 5, 6, 0] rfl)
  exact lp3_13 ((h3f10.toInt + (-1) * (0 : Int32).toInt + 1).toNat + 1) (0) _ _ _ (by have := li_0; omega)  (Nat.lt_succ_self _) hT hS (lv_sub hl [1, 2, 3, 4, 5, 0] rfl)
abbrev Rm_cX4_slotOf_73907 : Room := { frames := 0, cells := 0, slots := 0, locals := 0 }
abbrev B_cX4_slotOf_73907 (D : va_G) (k : Nat → ClassId) (h0 h1 h7 h2 h3 h4 h5 h6 h8 : Nat) (h0f8 : Int32) (h0f9 : Int32) (h0f10 : Int32) (h0f11 : Int32) (A : Nat → Prop) (r : Int32) (H : Heap) : Prop := (0 ≤ r.toInt ∧ r.toInt ≤ 1023) ∧ TP D A [(h0, ob 3 [.ref h2, .ref h3, .ref h4, .ref h5, .ref h6, .ref h7, .ref h8, .ref h1, .int h0f8, .int h0f9, .int h0f10, .int h0f11]), (h1, aJ (k 1) 60 anJ), (h7, aI (k 0) 1024 (rgI (-1) (h0f10.toInt - 1)))] H
set_option maxHeartbeats 4000000 in
set_option maxRecDepth 100000 in
theorem cX4_slotOf_73907 (l : Launch) (D : va_G) (k : Nat → ClassId) (sz : Nat) (h0 h1 h7 h2 h3 h4 h5 h6 h8 : Nat) (h0f8 : Int32) (h0f9 : Int32) (h0f10 : Int32) (h0f11 : Int32) (b_h0f8 : 0 ≤ h0f8.toInt ∧ h0f8.toInt ≤ 60) (b_h0f9 : 200 ≤ h0f9.toInt ∧ h0f9.toInt ≤ 200) (b_h0f10 : 1 ≤ h0f10.toInt ∧ h0f10.toInt ≤ 200) (b_h0f11 : 0 ≤ h0f11.toInt ∧ h0f11.toInt ≤ 1) : Met l yX4_slotOf (Cond.code yX4_slotOf cX4_slotOf 5 (some .int) :: uw) Rm_cX4_slotOf_73907 (pT D k sz [.ref h0, .ref h1] [(h0, ob 3 [.ref h2, .ref h3, .ref h4, .ref h5, .ref h6, .ref h7, .ref h8, .ref h1, .int h0f8, .int h0f9, .int h0f10, .int h0f11]), (h1, aJ (k 1) 60 anJ), (h7, aI (k 0) 1024 (rgI (-1) (h0f10.toInt - 1)))]) (qI (B_cX4_slotOf_73907 D k h0 h1 h7 h2 h3 h4 h5 h6 h8 h0f8 h0f9 h0f10 h0f11 (zA [h0, h1, h7] sz)) (zA [h0, h1, h7] sz)) 0 0 (zA [h0, h1, h7] sz) := by
  refine tz_begin (as := [h0, h1, h7]) (Qc := fun A => qI (B_cX4_slotOf_73907 D k h0 h1 h7 h2 h3 h4 h5 h6 h8 h0f8 h0f9 h0f10 h0f11 A) A) (by decide +kernel) rfl (Nat.le_of_ble_eq_true rfl) ?_
  intro p e s m args below meth c ls A Q hx hb hr hml hown hlocks hin hU hK hT hS hA hl hQ
  have hl : lv_has ls 5 [(0, .ref h0), (1, .ref h1)] := hl
  have hT : TP D A [(h0, ob 3 [.ref h2, .ref h3, .ref h4, .ref h5, .ref h6, .ref h7, .ref h8, .ref h1, .int h0f8, .int h0f9, .int h0f10, .int h0f11]), (h1, aJ (k 1) 60 anJ), (h7, aI (k 0) 1024 (rgI (-1) (h0f10.toInt - 1)))] s.heap := hT
  refine lv_lconst (v := 0) hx hb dX4_slotOf_0 (by decide) ?_
  refine lv_lstore_n (lv' := [(2, .long 0), (0, .ref h0), (1, .ref h1)]) hx hb dX4_slotOf_1 rfl hl (by decide) rfl (fun ls hl => ?_)
  refine lv_iconst (v := 0) hx hb dX4_slotOf_2 (by decide) ?_
  refine lv_istore (lv' := [(4, .int 0), (2, .long 0), (0, .ref h0), (1, .ref h1)]) hx hb dX4_slotOf_3 hl (by decide) rfl (fun ls hl => ?_)
  have lp5_35 : ∀ (n : Nat) (y33 : Int32) (y34 : Int64) (H : Heap) (locs : List Loc) (ls : Array Slot), (0 ≤ y33.toInt ∧ y33.toInt ≤ 60) → (h0f8.toInt + (-1) * y33.toInt + 1).toNat < n → TP D A [(h0, ob 3 [.ref h2, .ref h3, .ref h4, .ref h5, .ref h6, .ref h7, .ref h8, .ref h1, .int h0f8, .int h0f9, .int h0f10, .int h0f11]), (h1, aJ (k 1) 60 anJ), (h7, aI (k 0) 1024 (rgI (-1) (h0f10.toInt - 1)))] H → va_S A s.heap H locs → lv_has ls 5 [(0, .ref h0), (1, .ref h1), (2, .long y34), (4, .int y33)] → W p l e Rm_cX4_slotOf_73907 s m args below meth c H locs 0 0 Q (F0 m 5 ls []) := by
    intro n
    induction n with
    | zero => intro y33 y34 H locs ls b_y33 hm hT hS hl; exact absurd hm (Nat.not_lt_zero _)
    | succ n ih =>
      intro y33 y34 H locs ls b_y33 hm hT hS hl
      have ih5_35 := ih
      clear ih
      refine lv_iload hx hb dX4_slotOf_5 (lv_at hl 3 rfl) ?_
      refine lv_aload_n hx hb dX4_slotOf_7 rfl (lv_at hl 0 rfl) ?_
      refine tz_get (ci := 3) (v := .int h0f8) (C := RX4) (F := TX4) (N := 12) hx hb hU iX4 hown hK hT 0 rfl rfl 8 (by decide) w162 (fun _ h9 => h9) rfl dX4_slotOf_8 ?_
      refine lv_icmp_ge (tgt := 31) hx hb dX4_slotOf_11 (by decide) (fun c_36 => ?_) (fun c_36 => ?_)
      · skip
        have c_36 := ni_le c_36 rfl rfl
        refine lv_lload_n hx hb dX4_slotOf_31 rfl (lv_at hl 2 rfl) ?_
        refine lv_lload_n hx hb dX4_slotOf_32 rfl (lv_at hl 2 rfl) ?_
        refine lv_bipush (v := 32) hx hb dX4_slotOf_33 (by decide) ?_
        refine lv_lushr hx hb dX4_slotOf_35 rfl (lv_topl (fun v37 _ => ?_))
        refine lv_lxor hx hb dX4_slotOf_36 (lv_topl (fun v38 e_v38 => ?_))
        refine lv_lstore_n (lv' := [(2, .long v38), (0, .ref h0), (1, .ref h1), (4, .int y33)]) hx hb dX4_slotOf_37 rfl hl (by decide) rfl (fun ls hl => ?_)
        refine lv_lload_n hx hb dX4_slotOf_38 rfl (lv_at hl 0 rfl) ?_
        refine lv_lload_n hx hb dX4_slotOf_39 rfl (lv_at hl 0 rfl) ?_
        refine lv_bipush (v := 16) hx hb dX4_slotOf_40 (by decide) ?_
        refine lv_lushr hx hb dX4_slotOf_42 rfl (lv_topl (fun v39 _ => ?_))
        refine lv_lxor hx hb dX4_slotOf_43 (lv_topl (fun v40 e_v40 => ?_))
        refine lv_lstore_n (lv' := [(2, .long v40), (0, .ref h0), (1, .ref h1), (4, .int y33)]) hx hb dX4_slotOf_44 rfl hl (by decide) rfl (fun ls hl => ?_)
        refine lv_lload_n hx hb dX4_slotOf_45 rfl (lv_at hl 0 rfl) ?_
        refine lv_l2i hx hb dX4_slotOf_46 rfl (lv_topi (fun v41 _ => ?_))
        refine lv_aload_n hx hb dX4_slotOf_47 rfl (lv_at hl 1 rfl) ?_
        refine tz_get (ci := 3) (v := .ref h7) (C := RX4) (F := TX4) (N := 12) hx hb hU iX4 hown hK hT 0 rfl rfl 5 (by decide) w159 (fun _ h9 => h9) rfl dX4_slotOf_48 ?_
        refine tz_aleni (v := 1024) hx hb hK hT 2 rfl (by decide +kernel) dX4_slotOf_51 ?_
        refine lv_iconst (v := 1) hx hb dX4_slotOf_52 (by decide) ?_
        refine lv_isub hx hb dX4_slotOf_53 (sv_i (v := 1023) (by decide +kernel) ?_)
        refine lv_iand hx hb dX4_slotOf_54 (lv_topi (fun v42 e_v42 => ?_))
        have e_v42 := ai_and 10 e_v42 (by decide +kernel) (by decide)
        exact tz_retI (B := B_cX4_slotOf_73907 D k h0 h1 h7 h2 h3 h4 h5 h6 h8 h0f8 h0f9 h0f10 h0f11) (v := v42) hQ hx hb hr hlocks hS (Nat.le_of_ble_eq_true rfl) (Nat.le_of_ble_eq_true rfl) dX4_slotOf_55 (⟨(by omega), hT⟩)
      · skip
        have c_36 := ni_nle c_36 rfl rfl
        refine lv_lload_n hx hb dX4_slotOf_14 rfl (lv_at hl 2 rfl) ?_
        refine lv_ldc2 hx hb hown (hU _ w515) dX4_slotOf_15 ?_
        refine lv_lmul hx hb dX4_slotOf_18 (lv_topl (fun v43 e_v43 => ?_))
        refine lv_aload_n hx hb dX4_slotOf_19 rfl (lv_at hl 1 rfl) ?_
        refine lv_iload hx hb dX4_slotOf_20 (lv_at hl 3 rfl) ?_
        refine tz_lald hx hb hK hT 1 rfl (by omega) dX4_slotOf_22 (fun v44 e_v44 => ?_)
        clear e_v44
        refine lv_ladd hx hb dX4_slotOf_23 (lv_topl (fun v45 e_v45 => ?_))
        refine lv_lstore_n (lv' := [(2, .long v45), (0, .ref h0), (1, .ref h1), (4, .int y33)]) hx hb dX4_slotOf_24 rfl hl (by decide) rfl (fun ls hl => ?_)
        obtain ⟨v46, e_v46⟩ : ∃ x : Int32, x = y33 + Int32.ofInt 1 := ⟨_, rfl⟩
        have f_v46 := e_v46.symm
        have e_v46 : v46.toInt = y33.toInt + 1 := ai_add e_v46 rfl (show (Int32.ofInt 1).toInt = 1 from (by decide +kernel)) (by omega)
        refine lv_iinc (v := v46) (lv' := [(4, .int v46), (2, .long v45), (0, .ref h0), (1, .ref h1)]) hx hb dX4_slotOf_25 hl (k := 3) rfl f_v46 (by decide) rfl (fun ls hl => ?_)
        refine lv_goto (tgt := 5) hx hb dX4_slotOf_28 (by decide) ?_
        exact ih5_35 v46 v45 _ _ _ (by omega)  (by omega) hT hS (lv_sub hl [2, 3, 1, 0] rfl)
  exact lp5_35 ((h0f8.toInt + (-1) * (0 : Int32).toInt + 1).toNat + 1) (0) (0) _ _ _ (by have := li_0; have := ll_0; omega)  (Nat.lt_succ_self _) hT hS (lv_sub hl [2, 3, 1, 0] rfl)
abbrev Rm_cX4_isRow_af436 : Room := { frames := 1, cells := 0, slots := 0, locals := 21 }
abbrev B_cX4_isRow_af436 (D : va_G) (k : Nat → ClassId) (h0 h1 h2 h3 h4 h5 h6 h7 h8 : Nat) (x1 : Int32) (h0f8 : Int32) (h0f9 : Int32) (h0f10 : Int32) (h0f11 : Int32) (A : Nat → Prop) (r : Int32) (H : Heap) : Prop := (0 ≤ r.toInt ∧ r.toInt ≤ 1) ∧ TP D A [(h0, ob 3 [.ref h2, .ref h3, .ref h4, .ref h5, .ref h6, .ref h7, .ref h8, .ref h1, .int h0f8, .int h0f9, .int h0f10, .int h0f11]), (h1, aJ (k 1) 60 anJ), (h2, aJ (k 1) 12000 anJ)] H
set_option maxHeartbeats 4000000 in
set_option maxRecDepth 100000 in
theorem cX4_isRow_af436 (l : Launch) (D : va_G) (k : Nat → ClassId) (sz : Nat) (h0 h1 h2 h3 h4 h5 h6 h7 h8 : Nat) (x1 : Int32) (h0f8 : Int32) (h0f9 : Int32) (h0f10 : Int32) (h0f11 : Int32) (b_x1 : 0 ≤ x1.toInt ∧ x1.toInt ≤ 199) (b_h0f8 : 0 ≤ h0f8.toInt ∧ h0f8.toInt ≤ 60) (b_h0f9 : 200 ≤ h0f9.toInt ∧ h0f9.toInt ≤ 200) (b_h0f10 : 1 ≤ h0f10.toInt ∧ h0f10.toInt ≤ 200) (b_h0f11 : 0 ≤ h0f11.toInt ∧ h0f11.toInt ≤ 1) : Met l yX4_isRow (Cond.code yX4_isRow cX4_isRow 5 (some .boolean) :: uw) Rm_cX4_isRow_af436 (pT D k sz [.ref h0, .int x1, .ref h1] [(h0, ob 3 [.ref h2, .ref h3, .ref h4, .ref h5, .ref h6, .ref h7, .ref h8, .ref h1, .int h0f8, .int h0f9, .int h0f10, .int h0f11]), (h1, aJ (k 1) 60 anJ), (h2, aJ (k 1) 12000 anJ)]) (qI (B_cX4_isRow_af436 D k h0 h1 h2 h3 h4 h5 h6 h7 h8 x1 h0f8 h0f9 h0f10 h0f11 (zA [h0, h1, h2] sz)) (zA [h0, h1, h2] sz)) 0 0 (zA [h0, h1, h2] sz) := by
  refine tz_begin (as := [h0, h1, h2]) (Qc := fun A => qI (B_cX4_isRow_af436 D k h0 h1 h2 h3 h4 h5 h6 h7 h8 x1 h0f8 h0f9 h0f10 h0f11 A) A) (by decide +kernel) rfl (Nat.le_of_ble_eq_true rfl) ?_
  intro p e s m args below meth c ls A Q hx hb hr hml hown hlocks hin hU hK hT hS hA hl hQ
  have hl : lv_has ls 5 [(0, .ref h0), (1, .int x1), (2, .ref h1)] := hl
  have hT : TP D A [(h0, ob 3 [.ref h2, .ref h3, .ref h4, .ref h5, .ref h6, .ref h7, .ref h8, .ref h1, .int h0f8, .int h0f9, .int h0f10, .int h0f11]), (h1, aJ (k 1) 60 anJ), (h2, aJ (k 1) 12000 anJ)] s.heap := hT
  refine lv_aload_n hx hb dX4_isRow_0 rfl (lv_at hl 0 rfl) ?_
  refine lv_iload_n hx hb dX4_isRow_1 rfl (lv_at hl 1 rfl) ?_
  refine tcI (Tc := [(h0, ob 3 [.ref h2, .ref h3, .ref h4, .ref h5, .ref h6, .ref h7, .ref h8, .ref h1, .int h0f8, .int h0f9, .int h0f10, .int h0f11])]) (Tr := [(h1, aJ (k 1) 60 anJ), (h2, aJ (k 1) 12000 anJ)]) (as := [h0]) (zcV (q0 := 0) (ci := 3) (As := [.int x1]) (rest := []) (Tc := [(h0, ob 3 [.ref h2, .ref h3, .ref h4, .ref h5, .ref h6, .ref h7, .ref h8, .ref h1, .int h0f8, .int h0f9, .int h0f10, .int h0f11])]) hx hb hml hown hU hK hT rfl rfl [0] rfl (by decide) (cX4_start_48432 l D k _ h0 h2 h3 h4 h5 h6 h7 h8 h1 x1 h0f8 h0f9 h0f10 h0f11 (by omega) (by omega) (by omega) (by omega) (by omega)) w505 w502 w503 w504 w66 hdX4_start ⟨rfl, rfl⟩ ⟨Nat.le_of_ble_eq_true rfl, Nat.le_of_ble_eq_true rfl⟩ rfl hl.1 (Nat.le_of_ble_eq_true rfl) dX4_isRow_2 ⟨Nat.le_of_ble_eq_true rfl, Nat.le_of_ble_eq_true rfl⟩) hT hS hA [0] [1, 2] rfl rfl rfl (by decide) (by decide) (fun r1 H locs hB J hS => ?_)
  obtain ⟨b_r1, hT1⟩ := hB
  have hT := J _ hT1
  have hT : TP D A [(h1, aJ (k 1) 60 anJ), (h2, aJ (k 1) 12000 anJ), (h0, ob 3 [.ref h2, .ref h3, .ref h4, .ref h5, .ref h6, .ref h7, .ref h8, .ref h1, .int h0f8, .int h0f9, .int h0f10, .int h0f11])] _ := hT
  refine lv_istore_n (lv' := [(3, .int r1), (0, .ref h0), (1, .int x1), (2, .ref h1)]) hx hb dX4_isRow_5 rfl hl (by decide) rfl (fun ls hl => ?_)
  refine lv_iconst (v := 0) hx hb dX4_isRow_6 (by decide) ?_
  refine lv_istore (lv' := [(4, .int 0), (3, .int r1), (0, .ref h0), (1, .int x1), (2, .ref h1)]) hx hb dX4_isRow_7 hl (by decide) rfl (fun ls hl => ?_)
  have lp9_13 : ∀ (n : Nat) (y12 : Int32) (H : Heap) (locs : List Loc) (ls : Array Slot), (0 ≤ y12.toInt ∧ y12.toInt ≤ 60) → (h0f8.toInt + (-1) * y12.toInt + 1).toNat < n → TP D A [(h1, aJ (k 1) 60 anJ), (h2, aJ (k 1) 12000 anJ), (h0, ob 3 [.ref h2, .ref h3, .ref h4, .ref h5, .ref h6, .ref h7, .ref h8, .ref h1, .int h0f8, .int h0f9, .int h0f10, .int h0f11])] H → va_S A s.heap H locs → lv_has ls 5 [(0, .ref h0), (2, .ref h1), (3, .int r1), (4, .int y12)] → W p l e Rm_cX4_isRow_af436 s m args below meth c H locs 0 0 Q (F0 m 9 ls []) := by
    intro n
    induction n with
    | zero => intro y12 H locs ls b_y12 hm hT hS hl; exact absurd hm (Nat.not_lt_zero _)
    | succ n ih =>
      intro y12 H locs ls b_y12 hm hT hS hl
      have ih9_13 := ih
      clear ih
      refine lv_iload hx hb dX4_isRow_9 (lv_at hl 3 rfl) ?_
      refine lv_aload_n hx hb dX4_isRow_11 rfl (lv_at hl 0 rfl) ?_
      refine tz_get (ci := 3) (v := .int h0f8) (C := RX4) (F := TX4) (N := 12) hx hb hU iX4 hown hK hT 2 rfl rfl 8 (by decide) w162 (fun _ h9 => h9) rfl dX4_isRow_12 ?_
      refine lv_icmp_ge (tgt := 43) hx hb dX4_isRow_15 (by decide) (fun c_14 => ?_) (fun c_14 => ?_)
      · skip
        have c_14 := ni_le c_14 rfl rfl
        refine lv_iconst (v := 1) hx hb dX4_isRow_43 (by decide) ?_
        exact tz_retZ (B := B_cX4_isRow_af436 D k h0 h1 h2 h3 h4 h5 h6 h7 h8 x1 h0f8 h0f9 h0f10 h0f11) (v := 1) hQ hx hb hr hlocks hS (Nat.le_of_ble_eq_true rfl) (Nat.le_of_ble_eq_true rfl) dX4_isRow_44 (by have := li_1; omega) (⟨(by have := li_1; omega), (hT.sub [2, 0, 1] (by decide) rfl)⟩)
      · skip
        have c_14 := ni_nle c_14 rfl rfl
        refine lv_aload_n hx hb dX4_isRow_18 rfl (lv_at hl 0 rfl) ?_
        refine tz_get (ci := 3) (v := .ref h2) (C := RX4) (F := TX4) (N := 12) hx hb hU iX4 hown hK hT 2 rfl rfl 0 (by decide) w149 (fun _ h9 => h9) rfl dX4_isRow_19 ?_
        refine lv_iload_n hx hb dX4_isRow_22 rfl (lv_at hl 2 rfl) ?_
        refine lv_iload hx hb dX4_isRow_23 (lv_at hl 3 rfl) ?_
        refine lv_iadd hx hb dX4_isRow_25 (lv_topi (fun v15 e_v15 => ?_))
        have e_v15 := ai_add e_v15 rfl rfl (by omega)
        refine tz_lald hx hb hK hT 1 rfl (by omega) dX4_isRow_26 (fun v16 e_v16 => ?_)
        clear e_v16
        refine lv_aload_n hx hb dX4_isRow_27 rfl (lv_at hl 1 rfl) ?_
        refine lv_iload hx hb dX4_isRow_28 (lv_at hl 3 rfl) ?_
        refine tz_lald hx hb hK hT 0 rfl (by omega) dX4_isRow_30 (fun v17 e_v17 => ?_)
        clear e_v17
        refine W.lcmp hx hb dX4_isRow_31 ?_
        refine lv_if_eq (tgt := 37) hx hb dX4_isRow_32 (by decide) (fun c_18 => ?_) (fun c_18 => ?_)
        · skip
          have c_18 := nl_eq c_18 rfl rfl
          obtain ⟨v19, e_v19⟩ : ∃ x : Int32, x = y12 + Int32.ofInt 1 := ⟨_, rfl⟩
          have f_v19 := e_v19.symm
          have e_v19 : v19.toInt = y12.toInt + 1 := ai_add e_v19 rfl (show (Int32.ofInt 1).toInt = 1 from (by decide +kernel)) (by omega)
          refine lv_iinc (v := v19) (lv' := [(4, .int v19), (0, .ref h0), (2, .ref h1), (3, .int r1)]) hx hb dX4_isRow_37 hl (k := 3) rfl f_v19 (by decide) rfl (fun ls hl => ?_)
          refine lv_goto (tgt := 9) hx hb dX4_isRow_40 (by decide) ?_
          exact ih9_13 v19 _ _ _ (by omega)  (by omega) hT hS (lv_sub hl [1, 2, 3, 0] rfl)
        · skip
          have c_18 := nl_ne c_18 rfl rfl
          refine lv_iconst (v := 0) hx hb dX4_isRow_35 (by decide) ?_
          exact tz_retZ (B := B_cX4_isRow_af436 D k h0 h1 h2 h3 h4 h5 h6 h7 h8 x1 h0f8 h0f9 h0f10 h0f11) (v := 0) hQ hx hb hr hlocks hS (Nat.le_of_ble_eq_true rfl) (Nat.le_of_ble_eq_true rfl) dX4_isRow_36 (by have := li_0; omega) (⟨(by have := li_0; omega), (hT.sub [2, 0, 1] (by decide) rfl)⟩)
  exact lp9_13 ((h0f8.toInt + (-1) * (0 : Int32).toInt + 1).toNat + 1) (0) _ _ _ (by have := li_0; omega)  (Nat.lt_succ_self _) hT hS (lv_sub hl [2, 4, 1, 0] rfl)
abbrev Rm_cX4_search_deddd : Room := { frames := 2, cells := 0, slots := 0, locals := 45 }
abbrev B_cX4_search_deddd (D : va_G) (k : Nat → ClassId) (h0 h1 h2 h7 h8 h3 h4 h5 h6 : Nat) (h0f8 : Int32) (h0f9 : Int32) (h0f10 : Int32) (h0f11 : Int32) (A : Nat → Prop) (r : Int32) (H : Heap) : Prop := ((-1) ≤ r.toInt ∧ r.toInt ≤ 199) ∧ TP D A [(h0, ob 3 [.ref h2, .ref h3, .ref h4, .ref h5, .ref h6, .ref h7, .ref h8, .ref h1, .int h0f8, .int h0f9, .int h0f10, .int h0f11]), (h1, aJ (k 1) 60 anJ), (h2, aJ (k 1) 12000 anJ), (h7, aI (k 0) 1024 (rgI (-1) (h0f10.toInt - 1))), (h8, aI (k 0) 400 (pfI (h0f10.toInt)))] H
set_option maxHeartbeats 4000000 in
set_option maxRecDepth 100000 in
theorem cX4_search_deddd (l : Launch) (D : va_G) (k : Nat → ClassId) (sz : Nat) (h0 h1 h2 h7 h8 h3 h4 h5 h6 : Nat) (h0f8 : Int32) (h0f9 : Int32) (h0f10 : Int32) (h0f11 : Int32) (b_h0f8 : 0 ≤ h0f8.toInt ∧ h0f8.toInt ≤ 60) (b_h0f9 : 200 ≤ h0f9.toInt ∧ h0f9.toInt ≤ 200) (b_h0f10 : 1 ≤ h0f10.toInt ∧ h0f10.toInt ≤ 200) (b_h0f11 : 0 ≤ h0f11.toInt ∧ h0f11.toInt ≤ 1) : Met l yX4_search (Cond.code yX4_search cX4_search 4 (some .int) :: uw) Rm_cX4_search_deddd (pT D k sz [.ref h0, .ref h1] [(h0, ob 3 [.ref h2, .ref h3, .ref h4, .ref h5, .ref h6, .ref h7, .ref h8, .ref h1, .int h0f8, .int h0f9, .int h0f10, .int h0f11]), (h1, aJ (k 1) 60 anJ), (h2, aJ (k 1) 12000 anJ), (h7, aI (k 0) 1024 (rgI (-1) (h0f10.toInt - 1))), (h8, aI (k 0) 400 (pfI (h0f10.toInt)))]) (qI (B_cX4_search_deddd D k h0 h1 h2 h7 h8 h3 h4 h5 h6 h0f8 h0f9 h0f10 h0f11 (zA [h0, h1, h2, h7, h8] sz)) (zA [h0, h1, h2, h7, h8] sz)) 0 0 (zA [h0, h1, h2, h7, h8] sz) := by
  refine tz_begin (as := [h0, h1, h2, h7, h8]) (Qc := fun A => qI (B_cX4_search_deddd D k h0 h1 h2 h7 h8 h3 h4 h5 h6 h0f8 h0f9 h0f10 h0f11 A) A) (by decide +kernel) rfl (Nat.le_of_ble_eq_true rfl) ?_
  intro p e s m args below meth c ls A Q hx hb hr hml hown hlocks hin hU hK hT hS hA hl hQ
  have hl : lv_has ls 4 [(0, .ref h0), (1, .ref h1)] := hl
  have hT : TP D A [(h0, ob 3 [.ref h2, .ref h3, .ref h4, .ref h5, .ref h6, .ref h7, .ref h8, .ref h1, .int h0f8, .int h0f9, .int h0f10, .int h0f11]), (h1, aJ (k 1) 60 anJ), (h2, aJ (k 1) 12000 anJ), (h7, aI (k 0) 1024 (rgI (-1) (h0f10.toInt - 1))), (h8, aI (k 0) 400 (pfI (h0f10.toInt)))] s.heap := hT
  refine lv_aload_n hx hb dX4_search_0 rfl (lv_at hl 0 rfl) ?_
  refine tz_get (ci := 3) (v := .ref h7) (C := RX4) (F := TX4) (N := 12) hx hb hU iX4 hown hK hT 0 rfl rfl 5 (by decide) w159 (fun _ h9 => h9) rfl dX4_search_1 ?_
  refine lv_aload_n hx hb dX4_search_4 rfl (lv_at hl 0 rfl) ?_
  refine lv_aload_n hx hb dX4_search_5 rfl (lv_at hl 1 rfl) ?_
  refine tcI (Tc := [(h0, ob 3 [.ref h2, .ref h3, .ref h4, .ref h5, .ref h6, .ref h7, .ref h8, .ref h1, .int h0f8, .int h0f9, .int h0f10, .int h0f11]), (h1, aJ (k 1) 60 anJ), (h7, aI (k 0) 1024 (rgI (-1) (h0f10.toInt - 1)))]) (Tr := [(h2, aJ (k 1) 12000 anJ), (h8, aI (k 0) 400 (pfI (h0f10.toInt)))]) (as := [h0, h1, h7]) (zcV (q0 := 0) (ci := 3) (As := [.ref h1]) (rest := [.ref h7]) (Tc := [(h0, ob 3 [.ref h2, .ref h3, .ref h4, .ref h5, .ref h6, .ref h7, .ref h8, .ref h1, .int h0f8, .int h0f9, .int h0f10, .int h0f11]), (h1, aJ (k 1) 60 anJ), (h7, aI (k 0) 1024 (rgI (-1) (h0f10.toInt - 1)))]) hx hb hml hown hU hK hT rfl rfl [0, 1, 3] rfl (by decide) (cX4_slotOf_73907 l D k _ h0 h1 h7 h2 h3 h4 h5 h6 h8 h0f8 h0f9 h0f10 h0f11 (by omega) (by omega) (by omega) (by omega)) w514 w511 w513 w11 w66 hdX4_slotOf ⟨rfl, rfl⟩ ⟨Nat.le_of_ble_eq_true rfl, Nat.le_of_ble_eq_true rfl⟩ rfl hl.1 (Nat.le_of_ble_eq_true rfl) dX4_search_6 ⟨Nat.le_of_ble_eq_true rfl, Nat.le_of_ble_eq_true rfl⟩) hT hS hA [0, 1, 3] [2, 4] rfl rfl rfl (by decide) (by decide) (fun r1 H locs hB J hS => ?_)
  obtain ⟨b_r1, hT1⟩ := hB
  have hT := J _ hT1
  have hT : TP D A [(h2, aJ (k 1) 12000 anJ), (h8, aI (k 0) 400 (pfI (h0f10.toInt))), (h0, ob 3 [.ref h2, .ref h3, .ref h4, .ref h5, .ref h6, .ref h7, .ref h8, .ref h1, .int h0f8, .int h0f9, .int h0f10, .int h0f11]), (h1, aJ (k 1) 60 anJ), (h7, aI (k 0) 1024 (rgI (-1) (h0f10.toInt - 1)))] _ := hT
  refine tz_iald hx hb hK hT 4 rfl (by omega) dX4_search_9 (fun v2 e_v2 => ?_)
  have e_v2 := rg_get e_v2
  refine lv_istore_n (lv' := [(2, .int v2), (0, .ref h0), (1, .ref h1)]) hx hb dX4_search_10 rfl hl (by decide) rfl (fun ls hl => ?_)
  refine lv_iconst (v := 0) hx hb dX4_search_11 (by decide) ?_
  refine lv_istore_n (lv' := [(3, .int 0), (2, .int v2), (0, .ref h0), (1, .ref h1)]) hx hb dX4_search_12 rfl hl (by decide) rfl (fun ls hl => ?_)
  have lp13_43 : ∀ (n : Nat) (y41 : Int32) (y42 : Int32) (H : Heap) (locs : List Loc) (ls : Array Slot), (0 ≤ y41.toInt ∧ y41.toInt ≤ 200) → ((-1) ≤ y42.toInt ∧ y42.toInt ≤ 199) → (y42.toInt < h0f10.toInt) → (h0f10.toInt + (-1) * y41.toInt + 1).toNat < n → TP D A [(h2, aJ (k 1) 12000 anJ), (h8, aI (k 0) 400 (pfI (h0f10.toInt))), (h0, ob 3 [.ref h2, .ref h3, .ref h4, .ref h5, .ref h6, .ref h7, .ref h8, .ref h1, .int h0f8, .int h0f9, .int h0f10, .int h0f11]), (h1, aJ (k 1) 60 anJ), (h7, aI (k 0) 1024 (rgI (-1) (h0f10.toInt - 1)))] H → va_S A s.heap H locs → lv_has ls 4 [(0, .ref h0), (1, .ref h1), (2, .int y42), (3, .int y41)] → W p l e Rm_cX4_search_deddd s m args below meth c H locs 0 0 Q (F0 m 13 ls []) := by
    intro n
    induction n with
    | zero => intro y41 y42 H locs ls b_y41 b_y42 x_0 hm hT hS hl; exact absurd hm (Nat.not_lt_zero _)
    | succ n ih =>
      intro y41 y42 H locs ls b_y41 b_y42 x_0 hm hT hS hl
      have ih13_43 := ih
      clear ih
      refine lv_iload_n hx hb dX4_search_13 rfl (lv_at hl 3 rfl) ?_
      refine lv_aload_n hx hb dX4_search_14 rfl (lv_at hl 0 rfl) ?_
      refine tz_get (ci := 3) (v := .int h0f10) (C := RX4) (F := TX4) (N := 12) hx hb hU iX4 hown hK hT 2 rfl rfl 10 (by decide) w164 (fun _ h9 => h9) rfl dX4_search_15 ?_
      refine lv_icmp_ge (tgt := 49) hx hb dX4_search_18 (by decide) (fun c_44 => ?_) (fun c_44 => ?_)
      · skip
        have c_44 := ni_le c_44 rfl rfl
        refine lv_iconst (v := (-1)) hx hb dX4_search_49 (by decide) ?_
        exact tz_retI (B := B_cX4_search_deddd D k h0 h1 h2 h7 h8 h3 h4 h5 h6 h0f8 h0f9 h0f10 h0f11) (v := (-1)) hQ hx hb hr hlocks hS (Nat.le_of_ble_eq_true rfl) (Nat.le_of_ble_eq_true rfl) dX4_search_50 (⟨(by have := li_m1; omega), (hT.sub [2, 3, 0, 4, 1] (by decide) rfl)⟩)
      · skip
        have c_44 := ni_nle c_44 rfl rfl
        refine lv_iload_n hx hb dX4_search_21 rfl (lv_at hl 2 rfl) ?_
        refine lv_if_lt (tgt := 49) hx hb dX4_search_22 (by decide) (fun c_45 => ?_) (fun c_45 => ?_)
        · skip
          have c_45 := ni_lt c_45 rfl li_0
          refine lv_iconst (v := (-1)) hx hb dX4_search_49 (by decide) ?_
          exact tz_retI (B := B_cX4_search_deddd D k h0 h1 h2 h7 h8 h3 h4 h5 h6 h0f8 h0f9 h0f10 h0f11) (v := (-1)) hQ hx hb hr hlocks hS (Nat.le_of_ble_eq_true rfl) (Nat.le_of_ble_eq_true rfl) dX4_search_50 (⟨(by have := li_m1; omega), (hT.sub [2, 3, 0, 4, 1] (by decide) rfl)⟩)
        · skip
          have c_45 := ni_nlt c_45 rfl li_0
          refine lv_aload_n hx hb dX4_search_25 rfl (lv_at hl 0 rfl) ?_
          refine lv_iload_n hx hb dX4_search_26 rfl (lv_at hl 2 rfl) ?_
          refine lv_aload_n hx hb dX4_search_27 rfl (lv_at hl 1 rfl) ?_
          refine tcI (Tc := [(h0, ob 3 [.ref h2, .ref h3, .ref h4, .ref h5, .ref h6, .ref h7, .ref h8, .ref h1, .int h0f8, .int h0f9, .int h0f10, .int h0f11]), (h1, aJ (k 1) 60 anJ), (h2, aJ (k 1) 12000 anJ)]) (Tr := [(h8, aI (k 0) 400 (pfI (h0f10.toInt))), (h7, aI (k 0) 1024 (rgI (-1) (h0f10.toInt - 1)))]) (as := [h0, h1, h2]) (zcV (q0 := 2) (ci := 3) (As := [.int y42, .ref h1]) (rest := []) (Tc := [(h0, ob 3 [.ref h2, .ref h3, .ref h4, .ref h5, .ref h6, .ref h7, .ref h8, .ref h1, .int h0f8, .int h0f9, .int h0f10, .int h0f11]), (h1, aJ (k 1) 60 anJ), (h2, aJ (k 1) 12000 anJ)]) hx hb hml hown hU hK hT rfl rfl [2, 3, 0] rfl (by decide) (cX4_isRow_af436 l D k _ h0 h1 h2 h3 h4 h5 h6 h7 h8 y42 h0f8 h0f9 h0f10 h0f11 (by omega) (by omega) (by omega) (by omega) (by omega)) w559 w556 w558 w13 w66 hdX4_isRow ⟨rfl, rfl⟩ ⟨Nat.le_of_ble_eq_true rfl, Nat.le_of_ble_eq_true rfl⟩ rfl hl.1 (Nat.le_of_ble_eq_true rfl) dX4_search_28 ⟨Nat.le_of_ble_eq_true rfl, Nat.le_of_ble_eq_true rfl⟩) hT hS hA [2, 3, 0] [1, 4] rfl rfl rfl (by decide) (by decide) (fun r46 H locs hB J hS => ?_)
          obtain ⟨b_r46, hT1⟩ := hB
          have hT := J _ hT1
          have hT : TP D A [(h8, aI (k 0) 400 (pfI (h0f10.toInt))), (h7, aI (k 0) 1024 (rgI (-1) (h0f10.toInt - 1))), (h0, ob 3 [.ref h2, .ref h3, .ref h4, .ref h5, .ref h6, .ref h7, .ref h8, .ref h1, .int h0f8, .int h0f9, .int h0f10, .int h0f11]), (h1, aJ (k 1) 60 anJ), (h2, aJ (k 1) 12000 anJ)] _ := hT
          refine lv_if_eq (tgt := 36) hx hb dX4_search_31 (by decide) (fun c_47 => ?_) (fun c_47 => ?_)
          · skip
            have c_47 := ni_eq c_47 rfl li_0
            refine lv_aload_n hx hb dX4_search_36 rfl (lv_at hl 0 rfl) ?_
            refine tz_get (ci := 3) (v := .ref h8) (C := RX4) (F := TX4) (N := 12) hx hb hU iX4 hown hK hT 2 rfl rfl 6 (by decide) w160 (fun _ h9 => h9) rfl dX4_search_37 ?_
            refine lv_iload_n hx hb dX4_search_40 rfl (lv_at hl 2 rfl) ?_
            refine tz_iald hx hb hK hT 0 rfl (by omega) dX4_search_41 (fun v48 e_v48 => ?_)
            have e_v48 := pf_get e_v48 (by omega)
            refine lv_istore_n (lv' := [(2, .int v48), (0, .ref h0), (1, .ref h1), (3, .int y41)]) hx hb dX4_search_42 rfl hl (by decide) rfl (fun ls hl => ?_)
            obtain ⟨v49, e_v49⟩ : ∃ x : Int32, x = y41 + Int32.ofInt 1 := ⟨_, rfl⟩
            have f_v49 := e_v49.symm
            have e_v49 : v49.toInt = y41.toInt + 1 := ai_add e_v49 rfl (show (Int32.ofInt 1).toInt = 1 from (by decide +kernel)) (by omega)
            refine lv_iinc (v := v49) (lv' := [(3, .int v49), (2, .int v48), (0, .ref h0), (1, .ref h1)]) hx hb dX4_search_43 hl (k := 3) rfl f_v49 (by decide) rfl (fun ls hl => ?_)
            refine lv_goto (tgt := 13) hx hb dX4_search_46 (by decide) ?_
            exact ih13_43 v49 v48 _ _ _ (by omega) (by omega) (by omega) (by omega) (hT.sub [4, 0, 2, 3, 1] (by decide) rfl) hS (lv_sub hl [2, 3, 1, 0] rfl)
          · skip
            have c_47 := ni_ne c_47 rfl li_0
            refine lv_iload_n hx hb dX4_search_34 rfl (lv_at hl 2 rfl) ?_
            exact tz_retI (B := B_cX4_search_deddd D k h0 h1 h2 h7 h8 h3 h4 h5 h6 h0f8 h0f9 h0f10 h0f11) (v := y42) hQ hx hb hr hlocks hS (Nat.le_of_ble_eq_true rfl) (Nat.le_of_ble_eq_true rfl) dX4_search_35 (⟨(by omega), (hT.sub [2, 3, 4, 1, 0] (by decide) rfl)⟩)
  exact lp13_43 ((h0f10.toInt + (-1) * (0 : Int32).toInt + 1).toNat + 1) (0) v2 _ _ _ (by have := li_0; omega) (by have := li_0; omega) (by have := li_0; omega) (Nat.lt_succ_self _) hT hS (lv_sub hl [2, 3, 1, 0] rfl)
abbrev Rm_cX4_append_4c89c : Room := { frames := 1, cells := 0, slots := 0, locals := 26 }
abbrev B_cX4_append_4c89c (D : va_G) (k : Nat → ClassId) (h0 h1 h2 h3 h4 h5 h7 h8 h6 : Nat) (x2 : Int32) (x3 : Int32) (h0f8 : Int32) (h0f9 : Int32) (h0f10 : Int32) (h0f11 : Int32) (A : Nat → Prop) (r : Int32) (H : Heap) : Prop := ∃ o0 : Int32, (2 ≤ o0.toInt ∧ o0.toInt ≤ 200) ∧ ((-1) ≤ r.toInt ∧ r.toInt ≤ 199) ∧ TP D A [(h0, ob 3 [.ref h2, .ref h3, .ref h4, .ref h5, .ref h6, .ref h7, .ref h8, .ref h1, .int h0f8, .int h0f9, .int o0, .int h0f11]), (h1, aJ (k 1) 60 anJ), (h2, aJ (k 1) 12000 anJ), (h3, aI (k 0) 400 anI), (h4, aI (k 0) 400 anI), (h5, aI (k 0) 400 anI), (h7, aI (k 0) 1024 (rgI (-1) (o0.toInt - 1))), (h8, aI (k 0) 400 (pfI (o0.toInt)))] H
set_option maxHeartbeats 4000000 in
set_option maxRecDepth 100000 in
theorem cX4_append_4c89c (l : Launch) (D : va_G) (k : Nat → ClassId) (sz : Nat) (h0 h1 h2 h3 h4 h5 h7 h8 h6 : Nat) (x2 : Int32) (x3 : Int32) (h0f8 : Int32) (h0f9 : Int32) (h0f10 : Int32) (h0f11 : Int32) (b_x2 : 0 ≤ x2.toInt ∧ x2.toInt ≤ 199) (b_x3 : 0 ≤ x3.toInt ∧ x3.toInt ≤ 3) (b_h0f8 : 0 ≤ h0f8.toInt ∧ h0f8.toInt ≤ 60) (b_h0f9 : 200 ≤ h0f9.toInt ∧ h0f9.toInt ≤ 200) (b_h0f10 : 1 ≤ h0f10.toInt ∧ h0f10.toInt ≤ 200) (b_h0f11 : 0 ≤ h0f11.toInt ∧ h0f11.toInt ≤ 1) : Met l yX4_append (Cond.code yX4_append cX4_append 6 (some .int) :: uw) Rm_cX4_append_4c89c (pT D k sz [.ref h0, .ref h1, .int x2, .int x3] [(h0, ob 3 [.ref h2, .ref h3, .ref h4, .ref h5, .ref h6, .ref h7, .ref h8, .ref h1, .int h0f8, .int h0f9, .int h0f10, .int h0f11]), (h1, aJ (k 1) 60 anJ), (h2, aJ (k 1) 12000 anJ), (h3, aI (k 0) 400 anI), (h4, aI (k 0) 400 anI), (h5, aI (k 0) 400 anI), (h7, aI (k 0) 1024 (rgI (-1) (h0f10.toInt - 1))), (h8, aI (k 0) 400 (pfI (h0f10.toInt)))]) (qI (B_cX4_append_4c89c D k h0 h1 h2 h3 h4 h5 h7 h8 h6 x2 x3 h0f8 h0f9 h0f10 h0f11 (zA [h0, h1, h2, h3, h4, h5, h7, h8] sz)) (zA [h0, h1, h2, h3, h4, h5, h7, h8] sz)) 0 0 (zA [h0, h1, h2, h3, h4, h5, h7, h8] sz) := by
  refine tz_begin (as := [h0, h1, h2, h3, h4, h5, h7, h8]) (Qc := fun A => qI (B_cX4_append_4c89c D k h0 h1 h2 h3 h4 h5 h7 h8 h6 x2 x3 h0f8 h0f9 h0f10 h0f11 A) A) (by decide +kernel) rfl (Nat.le_of_ble_eq_true rfl) ?_
  intro p e s m args below meth c ls A Q hx hb hr hml hown hlocks hin hU hK hT hS hA hl hQ
  have hl : lv_has ls 6 [(0, .ref h0), (1, .ref h1), (2, .int x2), (3, .int x3)] := hl
  have hT : TP D A [(h0, ob 3 [.ref h2, .ref h3, .ref h4, .ref h5, .ref h6, .ref h7, .ref h8, .ref h1, .int h0f8, .int h0f9, .int h0f10, .int h0f11]), (h1, aJ (k 1) 60 anJ), (h2, aJ (k 1) 12000 anJ), (h3, aI (k 0) 400 anI), (h4, aI (k 0) 400 anI), (h5, aI (k 0) 400 anI), (h7, aI (k 0) 1024 (rgI (-1) (h0f10.toInt - 1))), (h8, aI (k 0) 400 (pfI (h0f10.toInt)))] s.heap := hT
  refine lv_aload_n hx hb dX4_append_0 rfl (lv_at hl 0 rfl) ?_
  refine tz_get (ci := 3) (v := .int h0f10) (C := RX4) (F := TX4) (N := 12) hx hb hU iX4 hown hK hT 0 rfl rfl 10 (by decide) w164 (fun _ h9 => h9) rfl dX4_append_1 ?_
  refine lv_aload_n hx hb dX4_append_4 rfl (lv_at hl 0 rfl) ?_
  refine tz_get (ci := 3) (v := .int h0f9) (C := RX4) (F := TX4) (N := 12) hx hb hU iX4 hown hK hT 0 rfl rfl 9 (by decide) w163 (fun _ h9 => h9) rfl dX4_append_5 ?_
  refine lv_icmp_lt (tgt := 13) hx hb dX4_append_8 (by decide) (fun c_1 => ?_) (fun c_1 => ?_)
  · skip
    have c_1 := ni_lt c_1 rfl rfl
    refine lv_aload_n hx hb dX4_append_13 rfl (lv_at hl 0 rfl) ?_
    refine tz_get (ci := 3) (v := .int h0f10) (C := RX4) (F := TX4) (N := 12) hx hb hU iX4 hown hK hT 0 rfl rfl 10 (by decide) w164 (fun _ h9 => h9) rfl dX4_append_14 ?_
    refine lv_istore (lv' := [(4, .int h0f10), (0, .ref h0), (1, .ref h1), (2, .int x2), (3, .int x3)]) hx hb dX4_append_17 hl (by decide) rfl (fun ls hl => ?_)
    refine lv_aload_n hx hb dX4_append_19 rfl (lv_at hl 2 rfl) ?_
    refine lv_iconst (v := 0) hx hb dX4_append_20 (by decide) ?_
    refine lv_aload_n hx hb dX4_append_21 rfl (lv_at hl 1 rfl) ?_
    refine tz_get (ci := 3) (v := .ref h2) (C := RX4) (F := TX4) (N := 12) hx hb hU iX4 hown hK hT 0 rfl rfl 0 (by decide) w149 (fun _ h9 => h9) rfl dX4_append_22 ?_
    refine lv_aload_n hx hb dX4_append_25 rfl (lv_at hl 1 rfl) ?_
    refine lv_iload hx hb dX4_append_26 (lv_at hl 0 rfl) ?_
    refine tcI (Tc := [(h0, ob 3 [.ref h2, .ref h3, .ref h4, .ref h5, .ref h6, .ref h7, .ref h8, .ref h1, .int h0f8, .int h0f9, .int h0f10, .int h0f11])]) (Tr := [(h1, aJ (k 1) 60 anJ), (h2, aJ (k 1) 12000 anJ), (h3, aI (k 0) 400 anI), (h4, aI (k 0) 400 anI), (h5, aI (k 0) 400 anI), (h7, aI (k 0) 1024 (rgI (-1) (h0f10.toInt - 1))), (h8, aI (k 0) 400 (pfI (h0f10.toInt)))]) (as := [h0]) (zcV (q0 := 0) (ci := 3) (As := [.int h0f10]) (rest := [.ref h2, .int 0, .ref h1]) (Tc := [(h0, ob 3 [.ref h2, .ref h3, .ref h4, .ref h5, .ref h6, .ref h7, .ref h8, .ref h1, .int h0f8, .int h0f9, .int h0f10, .int h0f11])]) hx hb hml hown hU hK hT rfl rfl [0] rfl (by decide) (cX4_start_48432 l D k _ h0 h2 h3 h4 h5 h6 h7 h8 h1 h0f10 h0f8 h0f9 h0f10 h0f11 (by omega) (by omega) (by omega) (by omega) (by omega)) w505 w502 w503 w504 w66 hdX4_start ⟨rfl, rfl⟩ ⟨Nat.le_of_ble_eq_true rfl, Nat.le_of_ble_eq_true rfl⟩ rfl hl.1 (Nat.le_of_ble_eq_true rfl) dX4_append_28 ⟨Nat.le_of_ble_eq_true rfl, Nat.le_of_ble_eq_true rfl⟩) hT hS hA [0] [1, 2, 3, 4, 5, 6, 7] rfl rfl rfl (by decide) (by decide) (fun r2 H locs hB J hS => ?_)
    obtain ⟨b_r2, hT1⟩ := hB
    have hT := J _ hT1
    have hT : TP D A [(h1, aJ (k 1) 60 anJ), (h2, aJ (k 1) 12000 anJ), (h3, aI (k 0) 400 anI), (h4, aI (k 0) 400 anI), (h5, aI (k 0) 400 anI), (h7, aI (k 0) 1024 (rgI (-1) (h0f10.toInt - 1))), (h8, aI (k 0) 400 (pfI (h0f10.toInt))), (h0, ob 3 [.ref h2, .ref h3, .ref h4, .ref h5, .ref h6, .ref h7, .ref h8, .ref h1, .int h0f8, .int h0f9, .int h0f10, .int h0f11])] _ := hT
    refine lv_aload_n hx hb dX4_append_31 rfl (lv_at hl 1 rfl) ?_
    refine tz_get (ci := 3) (v := .int h0f8) (C := RX4) (F := TX4) (N := 12) hx hb hU iX4 hown hK hT 7 rfl rfl 8 (by decide) w162 (fun _ h9 => h9) rfl dX4_append_32 ?_
    refine tz_copyl hx hb (by rw [hml]; exact hl.1.symm) hown hU w506 w348 w347 w75 hK hT hS 0 1 rfl rfl (by have := li_0; omega) (fun _ _ _ _ => trivial) (Nat.le_of_ble_eq_true rfl) (Nat.le_of_ble_eq_true rfl) dX4_append_35 (fun H locs hT hS => ?_)
    refine lv_aload_n hx hb dX4_append_38 rfl (lv_at hl 1 rfl) ?_
    refine tz_get (ci := 3) (v := .ref h3) (C := RX4) (F := TX4) (N := 12) hx hb hU iX4 hown hK hT 7 rfl rfl 1 (by decide) w151 (fun _ h9 => h9) rfl dX4_append_39 ?_
    refine lv_iload hx hb dX4_append_42 (lv_at hl 0 rfl) ?_
    refine lv_iload_n hx hb dX4_append_44 rfl (lv_at hl 3 rfl) ?_
    refine tz_iast hx hb hK hT hS 2 rfl (by omega) (fun _ _ => trivial) dX4_append_45 (fun H locs hT hS => ?_)
    refine lv_aload_n hx hb dX4_append_46 rfl (lv_at hl 1 rfl) ?_
    refine tz_get (ci := 3) (v := .ref h4) (C := RX4) (F := TX4) (N := 12) hx hb hU iX4 hown hK hT 7 rfl rfl 2 (by decide) w153 (fun _ h9 => h9) rfl dX4_append_47 ?_
    refine lv_iload hx hb dX4_append_50 (lv_at hl 0 rfl) ?_
    refine lv_iload_n hx hb dX4_append_52 rfl (lv_at hl 4 rfl) ?_
    refine tz_iast hx hb hK hT hS 3 rfl (by omega) (fun _ _ => trivial) dX4_append_53 (fun H locs hT hS => ?_)
    refine lv_aload_n hx hb dX4_append_54 rfl (lv_at hl 1 rfl) ?_
    refine tz_get (ci := 3) (v := .ref h5) (C := RX4) (F := TX4) (N := 12) hx hb hU iX4 hown hK hT 7 rfl rfl 3 (by decide) w155 (fun _ h9 => h9) rfl dX4_append_55 ?_
    refine lv_iload hx hb dX4_append_58 (lv_at hl 0 rfl) ?_
    refine lv_aload_n hx hb dX4_append_60 rfl (lv_at hl 1 rfl) ?_
    refine lv_iload_n hx hb dX4_append_61 rfl (lv_at hl 3 rfl) ?_
    refine tcI (Tc := [(h0, ob 3 [.ref h2, .ref h3, .ref h4, .ref h5, .ref h6, .ref h7, .ref h8, .ref h1, .int h0f8, .int h0f9, .int h0f10, .int h0f11])]) (Tr := [(h1, aJ (k 1) 60 anJ), (h2, aJ (k 1) 12000 anJ), (h3, aI (k 0) 400 anI), (h4, aI (k 0) 400 anI), (h5, aI (k 0) 400 anI), (h7, aI (k 0) 1024 (rgI (-1) (h0f10.toInt - 1))), (h8, aI (k 0) 400 (pfI (h0f10.toInt)))]) (as := [h0]) (zcV (q0 := 7) (ci := 3) (As := [.int x2]) (rest := [.int h0f10, .ref h5]) (Tc := [(h0, ob 3 [.ref h2, .ref h3, .ref h4, .ref h5, .ref h6, .ref h7, .ref h8, .ref h1, .int h0f8, .int h0f9, .int h0f10, .int h0f11])]) hx hb hml hown hU hK hT rfl rfl [7] rfl (by decide) (cX4_has_f6a1f l D k _ h0 h2 h3 h4 h5 h6 h7 h8 h1 x2 h0f8 h0f9 h0f10 h0f11 (by omega) (by omega) (by omega) (by omega) (by omega)) w510 w507 w508 w509 w66 hdX4_has ⟨rfl, rfl⟩ ⟨Nat.le_of_ble_eq_true rfl, Nat.le_of_ble_eq_true rfl⟩ rfl hl.1 (Nat.le_of_ble_eq_true rfl) dX4_append_62 ⟨Nat.le_of_ble_eq_true rfl, Nat.le_of_ble_eq_true rfl⟩) hT hS hA [7] [0, 1, 2, 3, 4, 5, 6] rfl rfl rfl (by decide) (by decide) (fun r3 H locs hB J hS => ?_)
    rcases hB with ⟨rfl, hT1⟩ | ⟨c_4, c_5, rfl, hT1⟩
    · skip
      have hT := J _ hT1
      have hT : TP D A [(h1, aJ (k 1) 60 anJ), (h2, aJ (k 1) 12000 anJ), (h3, aI (k 0) 400 anI), (h4, aI (k 0) 400 anI), (h5, aI (k 0) 400 anI), (h7, aI (k 0) 1024 (rgI (-1) (h0f10.toInt - 1))), (h8, aI (k 0) 400 (pfI (h0f10.toInt))), (h0, ob 3 [.ref h2, .ref h3, .ref h4, .ref h5, .ref h6, .ref h7, .ref h8, .ref h1, .int h0f8, .int h0f9, .int h0f10, .int h0f11])] _ := hT
      refine lv_if_eq (tgt := 79) hx hb dX4_append_65 (by decide) (fun _ => ?_) (fun cc => absurd (by decide +kernel) cc)
      refine lv_iconst (v := 0) hx hb dX4_append_79 (by decide) ?_
      refine tz_iast hx hb hK hT hS 4 rfl (by omega) (fun _ _ => trivial) dX4_append_80 (fun H locs hT hS => ?_)
      refine lv_aload_n hx hb dX4_append_81 rfl (lv_at hl 1 rfl) ?_
      refine lv_aload_n hx hb dX4_append_82 rfl (lv_at hl 2 rfl) ?_
      refine tcI (Tc := [(h0, ob 3 [.ref h2, .ref h3, .ref h4, .ref h5, .ref h6, .ref h7, .ref h8, .ref h1, .int h0f8, .int h0f9, .int h0f10, .int h0f11]), (h1, aJ (k 1) 60 anJ), (h7, aI (k 0) 1024 (rgI (-1) (h0f10.toInt - 1)))]) (Tr := [(h2, aJ (k 1) 12000 anJ), (h3, aI (k 0) 400 anI), (h4, aI (k 0) 400 anI), (h5, aI (k 0) 400 anI), (h8, aI (k 0) 400 (pfI (h0f10.toInt)))]) (as := [h0, h1, h7]) (zcV (q0 := 7) (ci := 3) (As := [.ref h1]) (rest := []) (Tc := [(h0, ob 3 [.ref h2, .ref h3, .ref h4, .ref h5, .ref h6, .ref h7, .ref h8, .ref h1, .int h0f8, .int h0f9, .int h0f10, .int h0f11]), (h1, aJ (k 1) 60 anJ), (h7, aI (k 0) 1024 (rgI (-1) (h0f10.toInt - 1)))]) hx hb hml hown hU hK hT rfl rfl [7, 0, 5] rfl (by decide) (cX4_slotOf_73907 l D k _ h0 h1 h7 h2 h3 h4 h5 h6 h8 h0f8 h0f9 h0f10 h0f11 (by omega) (by omega) (by omega) (by omega)) w514 w511 w513 w11 w66 hdX4_slotOf ⟨rfl, rfl⟩ ⟨Nat.le_of_ble_eq_true rfl, Nat.le_of_ble_eq_true rfl⟩ rfl hl.1 (Nat.le_of_ble_eq_true rfl) dX4_append_83 ⟨Nat.le_of_ble_eq_true rfl, Nat.le_of_ble_eq_true rfl⟩) hT hS hA [7, 0, 5] [1, 2, 3, 4, 6] rfl rfl rfl (by decide) (by decide) (fun r6 H locs hB J hS => ?_)
      obtain ⟨b_r6, hT1⟩ := hB
      have hT := J _ hT1
      have hT : TP D A [(h2, aJ (k 1) 12000 anJ), (h3, aI (k 0) 400 anI), (h4, aI (k 0) 400 anI), (h5, aI (k 0) 400 anI), (h8, aI (k 0) 400 (pfI (h0f10.toInt))), (h0, ob 3 [.ref h2, .ref h3, .ref h4, .ref h5, .ref h6, .ref h7, .ref h8, .ref h1, .int h0f8, .int h0f9, .int h0f10, .int h0f11]), (h1, aJ (k 1) 60 anJ), (h7, aI (k 0) 1024 (rgI (-1) (h0f10.toInt - 1)))] _ := hT
      refine lv_istore (lv' := [(5, .int r6), (4, .int h0f10), (0, .ref h0), (1, .ref h1), (2, .int x2), (3, .int x3)]) hx hb dX4_append_86 hl (by decide) rfl (fun ls hl => ?_)
      refine lv_aload_n hx hb dX4_append_88 rfl (lv_at hl 2 rfl) ?_
      refine tz_get (ci := 3) (v := .ref h8) (C := RX4) (F := TX4) (N := 12) hx hb hU iX4 hown hK hT 5 rfl rfl 6 (by decide) w160 (fun _ h9 => h9) rfl dX4_append_89 ?_
      refine lv_iload hx hb dX4_append_92 (lv_at hl 1 rfl) ?_
      refine lv_aload_n hx hb dX4_append_94 rfl (lv_at hl 2 rfl) ?_
      refine tz_get (ci := 3) (v := .ref h7) (C := RX4) (F := TX4) (N := 12) hx hb hU iX4 hown hK hT 5 rfl rfl 5 (by decide) w159 (fun _ h9 => h9) rfl dX4_append_95 ?_
      refine lv_iload hx hb dX4_append_98 (lv_at hl 0 rfl) ?_
      refine tz_iald hx hb hK hT 7 rfl (by omega) dX4_append_100 (fun v7 e_v7 => ?_)
      have e_v7 := rg_get e_v7
      refine tz_iastP hx hb hK hT hS 4 (pfI (h0f10.toInt + 1)) rfl (by omega) (pf_put (by omega) (by omega)) dX4_append_101 (fun H locs hT hS => ?_)
      have hT : TP D A [(h2, aJ (k 1) 12000 anJ), (h3, aI (k 0) 400 anI), (h4, aI (k 0) 400 anI), (h5, aI (k 0) 400 anI), (h8, aI (k 0) 400 (pfI (h0f10.toInt + 1))), (h0, ob 3 [.ref h2, .ref h3, .ref h4, .ref h5, .ref h6, .ref h7, .ref h8, .ref h1, .int h0f8, .int h0f9, .int h0f10, .int h0f11]), (h1, aJ (k 1) 60 anJ), (h7, aI (k 0) 1024 (rgI (-1) (h0f10.toInt - 1)))] _ := hT
      refine lv_aload_n hx hb dX4_append_102 rfl (lv_at hl 2 rfl) ?_
      refine tz_get (ci := 3) (v := .ref h7) (C := RX4) (F := TX4) (N := 12) hx hb hU iX4 hown hK hT 5 rfl rfl 5 (by decide) w159 (fun _ h9 => h9) rfl dX4_append_103 ?_
      refine lv_iload hx hb dX4_append_106 (lv_at hl 0 rfl) ?_
      refine lv_iload hx hb dX4_append_108 (lv_at hl 1 rfl) ?_
      refine tz_iastP hx hb hK hT hS 7 (rgI (-1) (h0f10.toInt + 1 - 1)) rfl (by omega) (rg_put2 (by omega)) dX4_append_110 (fun H locs hT hS => ?_)
      have hT : TP D A [(h2, aJ (k 1) 12000 anJ), (h3, aI (k 0) 400 anI), (h4, aI (k 0) 400 anI), (h5, aI (k 0) 400 anI), (h8, aI (k 0) 400 (pfI (h0f10.toInt + 1))), (h0, ob 3 [.ref h2, .ref h3, .ref h4, .ref h5, .ref h6, .ref h7, .ref h8, .ref h1, .int h0f8, .int h0f9, .int h0f10, .int h0f11]), (h1, aJ (k 1) 60 anJ), (h7, aI (k 0) 1024 (rgI (-1) (h0f10.toInt + 1 - 1)))] _ := hT
      refine lv_aload_n hx hb dX4_append_111 rfl (lv_at hl 2 rfl) ?_
      refine lv_dup hx hb dX4_append_112 rfl ?_
      refine tz_get (ci := 3) (v := .int h0f10) (C := RX4) (F := TX4) (N := 12) hx hb hU iX4 hown hK hT 5 rfl rfl 10 (by decide) w164 (fun _ h9 => h9) rfl dX4_append_113 ?_
      refine lv_iconst (v := 1) hx hb dX4_append_116 (by decide) ?_
      refine lv_iadd hx hb dX4_append_117 (lv_topi (fun v8 e_v8 => ?_))
      have e_v8 := ai_add e_v8 rfl li_1 (by omega)
      refine tz_put (ci := 3) (v := .int v8) (ty := .int) (C := RX4) (F := TX4) (N := 12) hx hb hU iX4 tyX4 tyX4_ok nmX4 hown hK hT hS 5 rfl rfl 10 (by decide) w164 (fun _ h9 => h9) rfl (by decide +kernel) rfl rfl (Nat.le_of_ble_eq_true rfl) dX4_append_118 (fun H locs hT hS => ?_)
      have hT : TP D A [(h2, aJ (k 1) 12000 anJ), (h3, aI (k 0) 400 anI), (h4, aI (k 0) 400 anI), (h5, aI (k 0) 400 anI), (h8, aI (k 0) 400 (pfI (h0f10.toInt + 1))), (h0, ob 3 [.ref h2, .ref h3, .ref h4, .ref h5, .ref h6, .ref h7, .ref h8, .ref h1, .int h0f8, .int h0f9, .int v8, .int h0f11]), (h1, aJ (k 1) 60 anJ), (h7, aI (k 0) 1024 (rgI (-1) (h0f10.toInt + 1 - 1)))] _ := hT
      refine lv_iload hx hb dX4_append_121 (lv_at hl 1 rfl) ?_
      have hT := hT.wk (q := 4) (P' := aI (k 0) 400 (pfI (v8.toInt))) rfl (pf_eq (by omega))
      have hT : TP D A [(h2, aJ (k 1) 12000 anJ), (h3, aI (k 0) 400 anI), (h4, aI (k 0) 400 anI), (h5, aI (k 0) 400 anI), (h8, aI (k 0) 400 (pfI (v8.toInt))), (h0, ob 3 [.ref h2, .ref h3, .ref h4, .ref h5, .ref h6, .ref h7, .ref h8, .ref h1, .int h0f8, .int h0f9, .int v8, .int h0f11]), (h1, aJ (k 1) 60 anJ), (h7, aI (k 0) 1024 (rgI (-1) (h0f10.toInt + 1 - 1)))] _ := hT
      have hT := hT.wk (q := 7) (P' := aI (k 0) 1024 (rgI (-1) (v8.toInt - 1))) rfl (sl_eq (by omega))
      have hT : TP D A [(h2, aJ (k 1) 12000 anJ), (h3, aI (k 0) 400 anI), (h4, aI (k 0) 400 anI), (h5, aI (k 0) 400 anI), (h8, aI (k 0) 400 (pfI (v8.toInt))), (h0, ob 3 [.ref h2, .ref h3, .ref h4, .ref h5, .ref h6, .ref h7, .ref h8, .ref h1, .int h0f8, .int h0f9, .int v8, .int h0f11]), (h1, aJ (k 1) 60 anJ), (h7, aI (k 0) 1024 (rgI (-1) (v8.toInt - 1)))] _ := hT
      exact tz_retI (B := B_cX4_append_4c89c D k h0 h1 h2 h3 h4 h5 h7 h8 h6 x2 x3 h0f8 h0f9 h0f10 h0f11) (v := h0f10) hQ hx hb hr hlocks hS (Nat.le_of_ble_eq_true rfl) (Nat.le_of_ble_eq_true rfl) dX4_append_123 (⟨v8, (by omega), (by omega), (hT.sub [5, 6, 0, 1, 2, 3, 7, 4] (by decide) rfl)⟩)
    · skip
      have hT := J _ hT1
      have hT : TP D A [(h1, aJ (k 1) 60 anJ), (h2, aJ (k 1) 12000 anJ), (h3, aI (k 0) 400 anI), (h4, aI (k 0) 400 anI), (h5, aI (k 0) 400 anI), (h7, aI (k 0) 1024 (rgI (-1) (h0f10.toInt - 1))), (h8, aI (k 0) 400 (pfI (h0f10.toInt))), (h0, ob 3 [.ref h2, .ref h3, .ref h4, .ref h5, .ref h6, .ref h7, .ref h8, .ref h1, .int h0f8, .int h0f9, .int h0f10, .int h0f11])] _ := hT
      refine lv_if_eq (tgt := 79) hx hb dX4_append_65 (by decide) (fun cc => absurd cc (by decide +kernel)) (fun _ => ?_)
      refine lv_aload_n hx hb dX4_append_68 rfl (lv_at hl 1 rfl) ?_
      refine tz_get (ci := 3) (v := .ref h5) (C := RX4) (F := TX4) (N := 12) hx hb hU iX4 hown hK hT 7 rfl rfl 3 (by decide) w155 (fun _ h9 => h9) rfl dX4_append_69 ?_
      refine lv_iload_n hx hb dX4_append_72 rfl (lv_at hl 3 rfl) ?_
      refine tz_iald hx hb hK hT 4 rfl (by omega) dX4_append_73 (fun v9 e_v9 => ?_)
      clear e_v9
      refine lv_iconst (v := 1) hx hb dX4_append_74 (by decide) ?_
      refine lv_iadd hx hb dX4_append_75 (lv_topi (fun v10 e_v10 => ?_))
      refine lv_goto (tgt := 80) hx hb dX4_append_76 (by decide) ?_
      refine tz_iast hx hb hK hT hS 4 rfl (by omega) (fun _ _ => trivial) dX4_append_80 (fun H locs hT hS => ?_)
      refine lv_aload_n hx hb dX4_append_81 rfl (lv_at hl 1 rfl) ?_
      refine lv_aload_n hx hb dX4_append_82 rfl (lv_at hl 2 rfl) ?_
      refine tcI (Tc := [(h0, ob 3 [.ref h2, .ref h3, .ref h4, .ref h5, .ref h6, .ref h7, .ref h8, .ref h1, .int h0f8, .int h0f9, .int h0f10, .int h0f11]), (h1, aJ (k 1) 60 anJ), (h7, aI (k 0) 1024 (rgI (-1) (h0f10.toInt - 1)))]) (Tr := [(h2, aJ (k 1) 12000 anJ), (h3, aI (k 0) 400 anI), (h4, aI (k 0) 400 anI), (h5, aI (k 0) 400 anI), (h8, aI (k 0) 400 (pfI (h0f10.toInt)))]) (as := [h0, h1, h7]) (zcV (q0 := 7) (ci := 3) (As := [.ref h1]) (rest := []) (Tc := [(h0, ob 3 [.ref h2, .ref h3, .ref h4, .ref h5, .ref h6, .ref h7, .ref h8, .ref h1, .int h0f8, .int h0f9, .int h0f10, .int h0f11]), (h1, aJ (k 1) 60 anJ), (h7, aI (k 0) 1024 (rgI (-1) (h0f10.toInt - 1)))]) hx hb hml hown hU hK hT rfl rfl [7, 0, 5] rfl (by decide) (cX4_slotOf_73907 l D k _ h0 h1 h7 h2 h3 h4 h5 h6 h8 h0f8 h0f9 h0f10 h0f11 (by omega) (by omega) (by omega) (by omega)) w514 w511 w513 w11 w66 hdX4_slotOf ⟨rfl, rfl⟩ ⟨Nat.le_of_ble_eq_true rfl, Nat.le_of_ble_eq_true rfl⟩ rfl hl.1 (Nat.le_of_ble_eq_true rfl) dX4_append_83 ⟨Nat.le_of_ble_eq_true rfl, Nat.le_of_ble_eq_true rfl⟩) hT hS hA [7, 0, 5] [1, 2, 3, 4, 6] rfl rfl rfl (by decide) (by decide) (fun r11 H locs hB J hS => ?_)
      obtain ⟨b_r11, hT1⟩ := hB
      have hT := J _ hT1
      have hT : TP D A [(h2, aJ (k 1) 12000 anJ), (h3, aI (k 0) 400 anI), (h4, aI (k 0) 400 anI), (h5, aI (k 0) 400 anI), (h8, aI (k 0) 400 (pfI (h0f10.toInt))), (h0, ob 3 [.ref h2, .ref h3, .ref h4, .ref h5, .ref h6, .ref h7, .ref h8, .ref h1, .int h0f8, .int h0f9, .int h0f10, .int h0f11]), (h1, aJ (k 1) 60 anJ), (h7, aI (k 0) 1024 (rgI (-1) (h0f10.toInt - 1)))] _ := hT
      refine lv_istore (lv' := [(5, .int r11), (4, .int h0f10), (0, .ref h0), (1, .ref h1), (2, .int x2), (3, .int x3)]) hx hb dX4_append_86 hl (by decide) rfl (fun ls hl => ?_)
      refine lv_aload_n hx hb dX4_append_88 rfl (lv_at hl 2 rfl) ?_
      refine tz_get (ci := 3) (v := .ref h8) (C := RX4) (F := TX4) (N := 12) hx hb hU iX4 hown hK hT 5 rfl rfl 6 (by decide) w160 (fun _ h9 => h9) rfl dX4_append_89 ?_
      refine lv_iload hx hb dX4_append_92 (lv_at hl 1 rfl) ?_
      refine lv_aload_n hx hb dX4_append_94 rfl (lv_at hl 2 rfl) ?_
      refine tz_get (ci := 3) (v := .ref h7) (C := RX4) (F := TX4) (N := 12) hx hb hU iX4 hown hK hT 5 rfl rfl 5 (by decide) w159 (fun _ h9 => h9) rfl dX4_append_95 ?_
      refine lv_iload hx hb dX4_append_98 (lv_at hl 0 rfl) ?_
      refine tz_iald hx hb hK hT 7 rfl (by omega) dX4_append_100 (fun v12 e_v12 => ?_)
      have e_v12 := rg_get e_v12
      refine tz_iastP hx hb hK hT hS 4 (pfI (h0f10.toInt + 1)) rfl (by omega) (pf_put (by omega) (by omega)) dX4_append_101 (fun H locs hT hS => ?_)
      have hT : TP D A [(h2, aJ (k 1) 12000 anJ), (h3, aI (k 0) 400 anI), (h4, aI (k 0) 400 anI), (h5, aI (k 0) 400 anI), (h8, aI (k 0) 400 (pfI (h0f10.toInt + 1))), (h0, ob 3 [.ref h2, .ref h3, .ref h4, .ref h5, .ref h6, .ref h7, .ref h8, .ref h1, .int h0f8, .int h0f9, .int h0f10, .int h0f11]), (h1, aJ (k 1) 60 anJ), (h7, aI (k 0) 1024 (rgI (-1) (h0f10.toInt - 1)))] _ := hT
      refine lv_aload_n hx hb dX4_append_102 rfl (lv_at hl 2 rfl) ?_
      refine tz_get (ci := 3) (v := .ref h7) (C := RX4) (F := TX4) (N := 12) hx hb hU iX4 hown hK hT 5 rfl rfl 5 (by decide) w159 (fun _ h9 => h9) rfl dX4_append_103 ?_
      refine lv_iload hx hb dX4_append_106 (lv_at hl 0 rfl) ?_
      refine lv_iload hx hb dX4_append_108 (lv_at hl 1 rfl) ?_
      refine tz_iastP hx hb hK hT hS 7 (rgI (-1) (h0f10.toInt + 1 - 1)) rfl (by omega) (rg_put2 (by omega)) dX4_append_110 (fun H locs hT hS => ?_)
      have hT : TP D A [(h2, aJ (k 1) 12000 anJ), (h3, aI (k 0) 400 anI), (h4, aI (k 0) 400 anI), (h5, aI (k 0) 400 anI), (h8, aI (k 0) 400 (pfI (h0f10.toInt + 1))), (h0, ob 3 [.ref h2, .ref h3, .ref h4, .ref h5, .ref h6, .ref h7, .ref h8, .ref h1, .int h0f8, .int h0f9, .int h0f10, .int h0f11]), (h1, aJ (k 1) 60 anJ), (h7, aI (k 0) 1024 (rgI (-1) (h0f10.toInt + 1 - 1)))] _ := hT
      refine lv_aload_n hx hb dX4_append_111 rfl (lv_at hl 2 rfl) ?_
      refine lv_dup hx hb dX4_append_112 rfl ?_
      refine tz_get (ci := 3) (v := .int h0f10) (C := RX4) (F := TX4) (N := 12) hx hb hU iX4 hown hK hT 5 rfl rfl 10 (by decide) w164 (fun _ h9 => h9) rfl dX4_append_113 ?_
      refine lv_iconst (v := 1) hx hb dX4_append_116 (by decide) ?_
      refine lv_iadd hx hb dX4_append_117 (lv_topi (fun v13 e_v13 => ?_))
      have e_v13 := ai_add e_v13 rfl li_1 (by omega)
      refine tz_put (ci := 3) (v := .int v13) (ty := .int) (C := RX4) (F := TX4) (N := 12) hx hb hU iX4 tyX4 tyX4_ok nmX4 hown hK hT hS 5 rfl rfl 10 (by decide) w164 (fun _ h9 => h9) rfl (by decide +kernel) rfl rfl (Nat.le_of_ble_eq_true rfl) dX4_append_118 (fun H locs hT hS => ?_)
      have hT : TP D A [(h2, aJ (k 1) 12000 anJ), (h3, aI (k 0) 400 anI), (h4, aI (k 0) 400 anI), (h5, aI (k 0) 400 anI), (h8, aI (k 0) 400 (pfI (h0f10.toInt + 1))), (h0, ob 3 [.ref h2, .ref h3, .ref h4, .ref h5, .ref h6, .ref h7, .ref h8, .ref h1, .int h0f8, .int h0f9, .int v13, .int h0f11]), (h1, aJ (k 1) 60 anJ), (h7, aI (k 0) 1024 (rgI (-1) (h0f10.toInt + 1 - 1)))] _ := hT
      refine lv_iload hx hb dX4_append_121 (lv_at hl 1 rfl) ?_
      have hT := hT.wk (q := 4) (P' := aI (k 0) 400 (pfI (v13.toInt))) rfl (pf_eq (by omega))
      have hT : TP D A [(h2, aJ (k 1) 12000 anJ), (h3, aI (k 0) 400 anI), (h4, aI (k 0) 400 anI), (h5, aI (k 0) 400 anI), (h8, aI (k 0) 400 (pfI (v13.toInt))), (h0, ob 3 [.ref h2, .ref h3, .ref h4, .ref h5, .ref h6, .ref h7, .ref h8, .ref h1, .int h0f8, .int h0f9, .int v13, .int h0f11]), (h1, aJ (k 1) 60 anJ), (h7, aI (k 0) 1024 (rgI (-1) (h0f10.toInt + 1 - 1)))] _ := hT
      have hT := hT.wk (q := 7) (P' := aI (k 0) 1024 (rgI (-1) (v13.toInt - 1))) rfl (sl_eq (by omega))
      have hT : TP D A [(h2, aJ (k 1) 12000 anJ), (h3, aI (k 0) 400 anI), (h4, aI (k 0) 400 anI), (h5, aI (k 0) 400 anI), (h8, aI (k 0) 400 (pfI (v13.toInt))), (h0, ob 3 [.ref h2, .ref h3, .ref h4, .ref h5, .ref h6, .ref h7, .ref h8, .ref h1, .int h0f8, .int h0f9, .int v13, .int h0f11]), (h1, aJ (k 1) 60 anJ), (h7, aI (k 0) 1024 (rgI (-1) (v13.toInt - 1)))] _ := hT
      exact tz_retI (B := B_cX4_append_4c89c D k h0 h1 h2 h3 h4 h5 h7 h8 h6 x2 x3 h0f8 h0f9 h0f10 h0f11) (v := h0f10) hQ hx hb hr hlocks hS (Nat.le_of_ble_eq_true rfl) (Nat.le_of_ble_eq_true rfl) dX4_append_123 (⟨v13, (by omega), (by omega), (hT.sub [5, 6, 0, 1, 2, 3, 7, 4] (by decide) rfl)⟩)
  · skip
    have c_1 := ni_nlt c_1 rfl rfl
    refine lv_iconst (v := (-1)) hx hb dX4_append_11 (by decide) ?_
    exact tz_retI (B := B_cX4_append_4c89c D k h0 h1 h2 h3 h4 h5 h7 h8 h6 x2 x3 h0f8 h0f9 h0f10 h0f11) (v := (-1)) hQ hx hb hr hlocks hS (Nat.le_of_ble_eq_true rfl) (Nat.le_of_ble_eq_true rfl) dX4_append_12 (⟨h0f10, (by have := li_m1; omega), (by have := li_m1; omega), hT⟩)
abbrev Rm_cX4_lead_a35a0 : Room := { frames := 3, cells := 0, slots := 0, locals := 68 }
abbrev B_cX4_lead_a35a0 (D : va_G) (k : Nat → ClassId) (h0 h1 h2 h3 h4 h5 h7 h8 h9 h10 h15 h6 h11 h12 h13 h14 h16 h17 h18 : Nat) (x2 : Int32) (x3 : Int32) (h0f8 : Int32) (h0f9 : Int32) (h0f10 : Int32) (h0f11 : Int32) (h10f8 : Int32) (h10f9 : Int32) (h10f10 : Int32) (h10f11 : Int32) (A : Nat → Prop) (r : Int32) (H : Heap) : Prop := ∃ o0 : Int32, (1 ≤ o0.toInt ∧ o0.toInt ≤ 200) ∧ ((-1) ≤ r.toInt ∧ r.toInt ≤ 199) ∧ TP D A [(h0, ob 3 [.ref h2, .ref h3, .ref h4, .ref h5, .ref h6, .ref h7, .ref h8, .ref h9, .int h0f8, .int h0f9, .int o0, .int h0f11]), (h1, ob 0 [.ref h10]), (h2, aJ (k 1) 12000 anJ), (h3, aI (k 0) 400 anI), (h4, aI (k 0) 400 anI), (h5, aI (k 0) 400 anI), (h7, aI (k 0) 1024 (rgI (-1) (o0.toInt - 1))), (h8, aI (k 0) 400 (pfI (o0.toInt))), (h9, aJ (k 1) 60 anJ), (h10, ob 3 [.ref h11, .ref h12, .ref h13, .ref h14, .ref h15, .ref h16, .ref h17, .ref h18, .int h10f8, .int h10f9, .int h10f10, .int h10f11]), (h15, aI (k 0) 240 anI)] H
set_option maxHeartbeats 4000000 in
set_option maxRecDepth 100000 in
theorem cX4_lead_a35a0 (l : Launch) (D : va_G) (k : Nat → ClassId) (sz : Nat) (h0 h1 h2 h3 h4 h5 h7 h8 h9 h10 h15 h6 h11 h12 h13 h14 h16 h17 h18 : Nat) (x2 : Int32) (x3 : Int32) (h0f8 : Int32) (h0f9 : Int32) (h0f10 : Int32) (h0f11 : Int32) (h10f8 : Int32) (h10f9 : Int32) (h10f10 : Int32) (h10f11 : Int32) (b_x2 : 0 ≤ x2.toInt ∧ x2.toInt ≤ 199) (b_x3 : 0 ≤ x3.toInt ∧ x3.toInt ≤ 3) (b_h0f8 : 0 ≤ h0f8.toInt ∧ h0f8.toInt ≤ 60) (b_h0f9 : 200 ≤ h0f9.toInt ∧ h0f9.toInt ≤ 200) (b_h0f10 : 1 ≤ h0f10.toInt ∧ h0f10.toInt ≤ 200) (b_h0f11 : 0 ≤ h0f11.toInt ∧ h0f11.toInt ≤ 1) (b_h10f8 : 0 ≤ h10f8.toInt ∧ h10f8.toInt ≤ 3) (b_h10f9 : 0 ≤ h10f9.toInt ∧ h10f9.toInt ≤ 60) (b_h10f10 : 0 ≤ h10f10.toInt ∧ h10f10.toInt ≤ 60) (b_h10f11 : 1 ≤ h10f11.toInt ∧ h10f11.toInt ≤ 1) : Met l yX4_lead (Cond.code yX4_lead cX4_lead 5 (some .int) :: uw) Rm_cX4_lead_a35a0 (pT D k sz [.ref h0, .ref h1, .int x2, .int x3] [(h0, ob 3 [.ref h2, .ref h3, .ref h4, .ref h5, .ref h6, .ref h7, .ref h8, .ref h9, .int h0f8, .int h0f9, .int h0f10, .int h0f11]), (h1, ob 0 [.ref h10]), (h2, aJ (k 1) 12000 anJ), (h3, aI (k 0) 400 anI), (h4, aI (k 0) 400 anI), (h5, aI (k 0) 400 anI), (h7, aI (k 0) 1024 (rgI (-1) (h0f10.toInt - 1))), (h8, aI (k 0) 400 (pfI (h0f10.toInt))), (h9, aJ (k 1) 60 anJ), (h10, ob 3 [.ref h11, .ref h12, .ref h13, .ref h14, .ref h15, .ref h16, .ref h17, .ref h18, .int h10f8, .int h10f9, .int h10f10, .int h10f11]), (h15, aI (k 0) 240 anI)]) (qI (B_cX4_lead_a35a0 D k h0 h1 h2 h3 h4 h5 h7 h8 h9 h10 h15 h6 h11 h12 h13 h14 h16 h17 h18 x2 x3 h0f8 h0f9 h0f10 h0f11 h10f8 h10f9 h10f10 h10f11 (zA [h0, h1, h2, h3, h4, h5, h7, h8, h9, h10, h15] sz)) (zA [h0, h1, h2, h3, h4, h5, h7, h8, h9, h10, h15] sz)) 0 0 (zA [h0, h1, h2, h3, h4, h5, h7, h8, h9, h10, h15] sz) := by
  refine tz_begin (as := [h0, h1, h2, h3, h4, h5, h7, h8, h9, h10, h15]) (Qc := fun A => qI (B_cX4_lead_a35a0 D k h0 h1 h2 h3 h4 h5 h7 h8 h9 h10 h15 h6 h11 h12 h13 h14 h16 h17 h18 x2 x3 h0f8 h0f9 h0f10 h0f11 h10f8 h10f9 h10f10 h10f11 A) A) (by decide +kernel) rfl (Nat.le_of_ble_eq_true rfl) ?_
  intro p e s m args below meth c ls A Q hx hb hr hml hown hlocks hin hU hK hT hS hA hl hQ
  have hl : lv_has ls 5 [(0, .ref h0), (1, .ref h1), (2, .int x2), (3, .int x3)] := hl
  have hT : TP D A [(h0, ob 3 [.ref h2, .ref h3, .ref h4, .ref h5, .ref h6, .ref h7, .ref h8, .ref h9, .int h0f8, .int h0f9, .int h0f10, .int h0f11]), (h1, ob 0 [.ref h10]), (h2, aJ (k 1) 12000 anJ), (h3, aI (k 0) 400 anI), (h4, aI (k 0) 400 anI), (h5, aI (k 0) 400 anI), (h7, aI (k 0) 1024 (rgI (-1) (h0f10.toInt - 1))), (h8, aI (k 0) 400 (pfI (h0f10.toInt))), (h9, aJ (k 1) 60 anJ), (h10, ob 3 [.ref h11, .ref h12, .ref h13, .ref h14, .ref h15, .ref h16, .ref h17, .ref h18, .int h10f8, .int h10f9, .int h10f10, .int h10f11]), (h15, aI (k 0) 240 anI)] s.heap := hT
  refine lv_aload_n hx hb dX4_lead_0 rfl (lv_at hl 1 rfl) ?_
  refine lv_aload_n hx hb dX4_lead_1 rfl (lv_at hl 0 rfl) ?_
  refine tz_get (ci := 3) (v := .ref h2) (C := RX4) (F := TX4) (N := 12) hx hb hU iX4 hown hK hT 0 rfl rfl 0 (by decide) w149 (fun _ h9 => h9) rfl dX4_lead_2 ?_
  refine lv_aload_n hx hb dX4_lead_5 rfl (lv_at hl 0 rfl) ?_
  refine lv_iload_n hx hb dX4_lead_6 rfl (lv_at hl 2 rfl) ?_
  refine tcI (Tc := [(h0, ob 3 [.ref h2, .ref h3, .ref h4, .ref h5, .ref h6, .ref h7, .ref h8, .ref h9, .int h0f8, .int h0f9, .int h0f10, .int h0f11])]) (Tr := [(h1, ob 0 [.ref h10]), (h2, aJ (k 1) 12000 anJ), (h3, aI (k 0) 400 anI), (h4, aI (k 0) 400 anI), (h5, aI (k 0) 400 anI), (h7, aI (k 0) 1024 (rgI (-1) (h0f10.toInt - 1))), (h8, aI (k 0) 400 (pfI (h0f10.toInt))), (h9, aJ (k 1) 60 anJ), (h10, ob 3 [.ref h11, .ref h12, .ref h13, .ref h14, .ref h15, .ref h16, .ref h17, .ref h18, .int h10f8, .int h10f9, .int h10f10, .int h10f11]), (h15, aI (k 0) 240 anI)]) (as := [h0]) (zcV (q0 := 0) (ci := 3) (As := [.int x2]) (rest := [.ref h2, .ref h1]) (Tc := [(h0, ob 3 [.ref h2, .ref h3, .ref h4, .ref h5, .ref h6, .ref h7, .ref h8, .ref h9, .int h0f8, .int h0f9, .int h0f10, .int h0f11])]) hx hb hml hown hU hK hT rfl rfl [0] rfl (by decide) (cX4_start_48432 l D k _ h0 h2 h3 h4 h5 h6 h7 h8 h9 x2 h0f8 h0f9 h0f10 h0f11 (by omega) (by omega) (by omega) (by omega) (by omega)) w505 w502 w503 w504 w66 hdX4_start ⟨rfl, rfl⟩ ⟨Nat.le_of_ble_eq_true rfl, Nat.le_of_ble_eq_true rfl⟩ rfl hl.1 (Nat.le_of_ble_eq_true rfl) dX4_lead_7 ⟨Nat.le_of_ble_eq_true rfl, Nat.le_of_ble_eq_true rfl⟩) hT hS hA [0] [1, 2, 3, 4, 5, 6, 7, 8, 9, 10] rfl rfl rfl (by decide) (by decide) (fun r1 H locs hB J hS => ?_)
  obtain ⟨b_r1, hT1⟩ := hB
  have hT := J _ hT1
  have hT : TP D A [(h1, ob 0 [.ref h10]), (h2, aJ (k 1) 12000 anJ), (h3, aI (k 0) 400 anI), (h4, aI (k 0) 400 anI), (h5, aI (k 0) 400 anI), (h7, aI (k 0) 1024 (rgI (-1) (h0f10.toInt - 1))), (h8, aI (k 0) 400 (pfI (h0f10.toInt))), (h9, aJ (k 1) 60 anJ), (h10, ob 3 [.ref h11, .ref h12, .ref h13, .ref h14, .ref h15, .ref h16, .ref h17, .ref h18, .int h10f8, .int h10f9, .int h10f10, .int h10f11]), (h15, aI (k 0) 240 anI), (h0, ob 3 [.ref h2, .ref h3, .ref h4, .ref h5, .ref h6, .ref h7, .ref h8, .ref h9, .int h0f8, .int h0f9, .int h0f10, .int h0f11])] _ := hT
  refine lv_iload_n hx hb dX4_lead_10 rfl (lv_at hl 3 rfl) ?_
  refine lv_aload_n hx hb dX4_lead_11 rfl (lv_at hl 0 rfl) ?_
  refine tz_get (ci := 3) (v := .ref h9) (C := RX4) (F := TX4) (N := 12) hx hb hU iX4 hown hK hT 10 rfl rfl 7 (by decide) w161 (fun _ h9 => h9) rfl dX4_lead_12 ?_
  refine tcI (Tc := [(h1, ob 0 [.ref h10]), (h2, aJ (k 1) 12000 anJ), (h9, aJ (k 1) 60 anJ), (h10, ob 3 [.ref h11, .ref h12, .ref h13, .ref h14, .ref h15, .ref h16, .ref h17, .ref h18, .int h10f8, .int h10f9, .int h10f10, .int h10f11]), (h15, aI (k 0) 240 anI)]) (Tr := [(h3, aI (k 0) 400 anI), (h4, aI (k 0) 400 anI), (h5, aI (k 0) 400 anI), (h7, aI (k 0) 1024 (rgI (-1) (h0f10.toInt - 1))), (h8, aI (k 0) 400 (pfI (h0f10.toInt))), (h0, ob 3 [.ref h2, .ref h3, .ref h4, .ref h5, .ref h6, .ref h7, .ref h8, .ref h9, .int h0f8, .int h0f9, .int h0f10, .int h0f11])]) (as := [h1, h2, h9, h10, h15]) (zcA (q0 := 0) (ci := 0) (As := [.ref h2, .int r1, .int x3, .ref h9]) (rest := []) (Tc := [(h1, ob 0 [.ref h10]), (h2, aJ (k 1) 12000 anJ), (h9, aJ (k 1) 60 anJ), (h10, ob 3 [.ref h11, .ref h12, .ref h13, .ref h14, .ref h15, .ref h16, .ref h17, .ref h18, .int h10f8, .int h10f9, .int h10f10, .int h10f11]), (h15, aI (k 0) 240 anI)]) hx hb hml hown hU hK hT rfl rfl [0, 1, 7, 8, 9] rfl (by decide) (cX0_go_5fc8a l D k _ h1 h2 h9 h10 h15 h11 h12 h13 h14 h16 h17 h18 r1 x3 h10f8 h10f9 h10f10 h10f11 (by omega) (by omega) (by omega) (by omega) (by omega) (by omega)) w529 w524 wStepSame w527 w528 w70 hdX0_go ⟨rfl, rfl⟩ ⟨Nat.le_of_ble_eq_true rfl, Nat.le_of_ble_eq_true rfl⟩ rfl hl.1 (Nat.le_of_ble_eq_true rfl) dX4_lead_15 ⟨Nat.le_of_ble_eq_true rfl, Nat.le_of_ble_eq_true rfl⟩ rfl) hT hS hA [0, 1, 7, 8, 9] [2, 3, 4, 5, 6, 10] rfl rfl rfl (by decide) (by decide) (fun r2 H locs hB J hS => ?_)
  obtain ⟨b_r2, hT1⟩ := hB
  have hT := J _ hT1
  have hT : TP D A [(h3, aI (k 0) 400 anI), (h4, aI (k 0) 400 anI), (h5, aI (k 0) 400 anI), (h7, aI (k 0) 1024 (rgI (-1) (h0f10.toInt - 1))), (h8, aI (k 0) 400 (pfI (h0f10.toInt))), (h0, ob 3 [.ref h2, .ref h3, .ref h4, .ref h5, .ref h6, .ref h7, .ref h8, .ref h9, .int h0f8, .int h0f9, .int h0f10, .int h0f11]), (h1, ob 0 [.ref h10]), (h2, aJ (k 1) 12000 anJ), (h9, aJ (k 1) 60 anJ), (h10, ob 3 [.ref h11, .ref h12, .ref h13, .ref h14, .ref h15, .ref h16, .ref h17, .ref h18, .int h10f8, .int h10f9, .int h10f10, .int h10f11]), (h15, aI (k 0) 240 anI)] _ := hT
  refine lv_if_ne (tgt := 23) hx hb dX4_lead_18 (by decide) (fun c_3 => ?_) (fun c_3 => ?_)
  · skip
    have c_3 := ni_ne c_3 rfl li_0
    refine lv_aload_n hx hb dX4_lead_23 rfl (lv_at hl 0 rfl) ?_
    refine lv_aload_n hx hb dX4_lead_24 rfl (lv_at hl 0 rfl) ?_
    refine tz_get (ci := 3) (v := .ref h9) (C := RX4) (F := TX4) (N := 12) hx hb hU iX4 hown hK hT 5 rfl rfl 7 (by decide) w161 (fun _ h9 => h9) rfl dX4_lead_25 ?_
    refine tcI (Tc := [(h0, ob 3 [.ref h2, .ref h3, .ref h4, .ref h5, .ref h6, .ref h7, .ref h8, .ref h9, .int h0f8, .int h0f9, .int h0f10, .int h0f11]), (h9, aJ (k 1) 60 anJ), (h2, aJ (k 1) 12000 anJ), (h7, aI (k 0) 1024 (rgI (-1) (h0f10.toInt - 1))), (h8, aI (k 0) 400 (pfI (h0f10.toInt)))]) (Tr := [(h3, aI (k 0) 400 anI), (h4, aI (k 0) 400 anI), (h5, aI (k 0) 400 anI), (h1, ob 0 [.ref h10]), (h10, ob 3 [.ref h11, .ref h12, .ref h13, .ref h14, .ref h15, .ref h16, .ref h17, .ref h18, .int h10f8, .int h10f9, .int h10f10, .int h10f11]), (h15, aI (k 0) 240 anI)]) (as := [h0, h9, h2, h7, h8]) (zcV (q0 := 5) (ci := 3) (As := [.ref h9]) (rest := []) (Tc := [(h0, ob 3 [.ref h2, .ref h3, .ref h4, .ref h5, .ref h6, .ref h7, .ref h8, .ref h9, .int h0f8, .int h0f9, .int h0f10, .int h0f11]), (h9, aJ (k 1) 60 anJ), (h2, aJ (k 1) 12000 anJ), (h7, aI (k 0) 1024 (rgI (-1) (h0f10.toInt - 1))), (h8, aI (k 0) 400 (pfI (h0f10.toInt)))]) hx hb hml hown hU hK hT rfl rfl [5, 8, 7, 3, 4] rfl (by decide) (cX4_search_deddd l D k _ h0 h9 h2 h7 h8 h3 h4 h5 h6 h0f8 h0f9 h0f10 h0f11 (by omega) (by omega) (by omega) (by omega)) w555 w552 w553 w554 w66 hdX4_search ⟨rfl, rfl⟩ ⟨Nat.le_of_ble_eq_true rfl, Nat.le_of_ble_eq_true rfl⟩ rfl hl.1 (Nat.le_of_ble_eq_true rfl) dX4_lead_28 ⟨Nat.le_of_ble_eq_true rfl, Nat.le_of_ble_eq_true rfl⟩) hT hS hA [5, 8, 7, 3, 4] [0, 1, 2, 6, 9, 10] rfl rfl rfl (by decide) (by decide) (fun r4 H locs hB J hS => ?_)
    obtain ⟨b_r4, hT1⟩ := hB
    have hT := J _ hT1
    have hT : TP D A [(h3, aI (k 0) 400 anI), (h4, aI (k 0) 400 anI), (h5, aI (k 0) 400 anI), (h1, ob 0 [.ref h10]), (h10, ob 3 [.ref h11, .ref h12, .ref h13, .ref h14, .ref h15, .ref h16, .ref h17, .ref h18, .int h10f8, .int h10f9, .int h10f10, .int h10f11]), (h15, aI (k 0) 240 anI), (h0, ob 3 [.ref h2, .ref h3, .ref h4, .ref h5, .ref h6, .ref h7, .ref h8, .ref h9, .int h0f8, .int h0f9, .int h0f10, .int h0f11]), (h9, aJ (k 1) 60 anJ), (h2, aJ (k 1) 12000 anJ), (h7, aI (k 0) 1024 (rgI (-1) (h0f10.toInt - 1))), (h8, aI (k 0) 400 (pfI (h0f10.toInt)))] _ := hT
    refine lv_istore (lv' := [(4, .int r4), (0, .ref h0), (1, .ref h1), (2, .int x2), (3, .int x3)]) hx hb dX4_lead_31 hl (by decide) rfl (fun ls hl => ?_)
    refine lv_iload hx hb dX4_lead_33 (lv_at hl 0 rfl) ?_
    refine lv_if_lt (tgt := 43) hx hb dX4_lead_35 (by decide) (fun c_5 => ?_) (fun c_5 => ?_)
    · skip
      have c_5 := ni_lt c_5 rfl li_0
      refine lv_aload_n hx hb dX4_lead_43 rfl (lv_at hl 1 rfl) ?_
      refine lv_aload_n hx hb dX4_lead_44 rfl (lv_at hl 1 rfl) ?_
      refine tz_get (ci := 3) (v := .ref h9) (C := RX4) (F := TX4) (N := 12) hx hb hU iX4 hown hK hT 6 rfl rfl 7 (by decide) w161 (fun _ h9 => h9) rfl dX4_lead_45 ?_
      refine lv_iload_n hx hb dX4_lead_48 rfl (lv_at hl 3 rfl) ?_
      refine lv_iload_n hx hb dX4_lead_49 rfl (lv_at hl 4 rfl) ?_
      refine tcI (Tc := [(h0, ob 3 [.ref h2, .ref h3, .ref h4, .ref h5, .ref h6, .ref h7, .ref h8, .ref h9, .int h0f8, .int h0f9, .int h0f10, .int h0f11]), (h9, aJ (k 1) 60 anJ), (h2, aJ (k 1) 12000 anJ), (h3, aI (k 0) 400 anI), (h4, aI (k 0) 400 anI), (h5, aI (k 0) 400 anI), (h7, aI (k 0) 1024 (rgI (-1) (h0f10.toInt - 1))), (h8, aI (k 0) 400 (pfI (h0f10.toInt)))]) (Tr := [(h1, ob 0 [.ref h10]), (h10, ob 3 [.ref h11, .ref h12, .ref h13, .ref h14, .ref h15, .ref h16, .ref h17, .ref h18, .int h10f8, .int h10f9, .int h10f10, .int h10f11]), (h15, aI (k 0) 240 anI)]) (as := [h0, h9, h2, h3, h4, h5, h7, h8]) (zcV (q0 := 6) (ci := 3) (As := [.ref h9, .int x2, .int x3]) (rest := []) (Tc := [(h0, ob 3 [.ref h2, .ref h3, .ref h4, .ref h5, .ref h6, .ref h7, .ref h8, .ref h9, .int h0f8, .int h0f9, .int h0f10, .int h0f11]), (h9, aJ (k 1) 60 anJ), (h2, aJ (k 1) 12000 anJ), (h3, aI (k 0) 400 anI), (h4, aI (k 0) 400 anI), (h5, aI (k 0) 400 anI), (h7, aI (k 0) 1024 (rgI (-1) (h0f10.toInt - 1))), (h8, aI (k 0) 400 (pfI (h0f10.toInt)))]) hx hb hml hown hU hK hT rfl rfl [6, 7, 8, 0, 1, 2, 9, 10] rfl (by decide) (cX4_append_4c89c l D k _ h0 h9 h2 h3 h4 h5 h7 h8 h6 x2 x3 h0f8 h0f9 h0f10 h0f11 (by omega) (by omega) (by omega) (by omega) (by omega) (by omega)) w501 w560 w499 w500 w66 hdX4_append ⟨rfl, rfl⟩ ⟨Nat.le_of_ble_eq_true rfl, Nat.le_of_ble_eq_true rfl⟩ rfl hl.1 (Nat.le_of_ble_eq_true rfl) dX4_lead_50 ⟨Nat.le_of_ble_eq_true rfl, Nat.le_of_ble_eq_true rfl⟩) hT hS hA [6, 7, 8, 0, 1, 2, 9, 10] [3, 4, 5] rfl rfl rfl (by decide) (by decide) (fun r6 H locs hB J hS => ?_)
      obtain ⟨v7, b_v7, b_r6, hT1⟩ := hB
      have hT := J _ hT1
      have hT : TP D A [(h1, ob 0 [.ref h10]), (h10, ob 3 [.ref h11, .ref h12, .ref h13, .ref h14, .ref h15, .ref h16, .ref h17, .ref h18, .int h10f8, .int h10f9, .int h10f10, .int h10f11]), (h15, aI (k 0) 240 anI), (h0, ob 3 [.ref h2, .ref h3, .ref h4, .ref h5, .ref h6, .ref h7, .ref h8, .ref h9, .int h0f8, .int h0f9, .int v7, .int h0f11]), (h9, aJ (k 1) 60 anJ), (h2, aJ (k 1) 12000 anJ), (h3, aI (k 0) 400 anI), (h4, aI (k 0) 400 anI), (h5, aI (k 0) 400 anI), (h7, aI (k 0) 1024 (rgI (-1) (v7.toInt - 1))), (h8, aI (k 0) 400 (pfI (v7.toInt)))] _ := hT
      exact tz_retI (B := B_cX4_lead_a35a0 D k h0 h1 h2 h3 h4 h5 h7 h8 h9 h10 h15 h6 h11 h12 h13 h14 h16 h17 h18 x2 x3 h0f8 h0f9 h0f10 h0f11 h10f8 h10f9 h10f10 h10f11) (v := r6) hQ hx hb hr hlocks hS (Nat.le_of_ble_eq_true rfl) (Nat.le_of_ble_eq_true rfl) dX4_lead_53 (⟨v7, (by omega), (by omega), (hT.sub [3, 0, 5, 6, 7, 8, 9, 10, 4, 1, 2] (by decide) rfl)⟩)
    · skip
      have c_5 := ni_nlt c_5 rfl li_0
      refine lv_iload hx hb dX4_lead_38 (lv_at hl 0 rfl) ?_
      refine lv_goto (tgt := 53) hx hb dX4_lead_40 (by decide) ?_
      exact tz_retI (B := B_cX4_lead_a35a0 D k h0 h1 h2 h3 h4 h5 h7 h8 h9 h10 h15 h6 h11 h12 h13 h14 h16 h17 h18 x2 x3 h0f8 h0f9 h0f10 h0f11 h10f8 h10f9 h10f10 h10f11) (v := r4) hQ hx hb hr hlocks hS (Nat.le_of_ble_eq_true rfl) (Nat.le_of_ble_eq_true rfl) dX4_lead_53 (⟨h0f10, (by omega), (by omega), (hT.sub [6, 3, 8, 0, 1, 2, 9, 10, 7, 4, 5] (by decide) rfl)⟩)
  · skip
    have c_3 := ni_eq c_3 rfl li_0
    refine lv_iconst (v := (-1)) hx hb dX4_lead_21 (by decide) ?_
    exact tz_retI (B := B_cX4_lead_a35a0 D k h0 h1 h2 h3 h4 h5 h7 h8 h9 h10 h15 h6 h11 h12 h13 h14 h16 h17 h18 x2 x3 h0f8 h0f9 h0f10 h0f11 h10f8 h10f9 h10f10 h10f11) (v := (-1)) hQ hx hb hr hlocks hS (Nat.le_of_ble_eq_true rfl) (Nat.le_of_ble_eq_true rfl) dX4_lead_22 (⟨h0f10, (by have := li_m1; omega), (by have := li_m1; omega), (hT.sub [5, 6, 7, 0, 1, 2, 3, 4, 8, 9, 10] (by decide) rfl)⟩)
abbrev Rm_cX4_spread_b4d02 : Room := { frames := 4, cells := 0, slots := 0, locals := 92 }
abbrev B_cX4_spread_b4d02 (D : va_G) (k : Nat → ClassId) (h0 h1 h2 h3 h4 h5 h6 h7 h8 h9 h10 h15 h11 h12 h13 h14 h16 h17 h18 : Nat) (x2 : Int32) (h0f8 : Int32) (h0f9 : Int32) (h0f10 : Int32) (h0f11 : Int32) (h10f8 : Int32) (h10f9 : Int32) (h10f10 : Int32) (h10f11 : Int32) (A : Nat → Prop) (H : Heap) : Prop := ∃ o0 : Int32, ∃ o1 : Int32, (1 ≤ o0.toInt ∧ o0.toInt ≤ 200) ∧ (0 ≤ o1.toInt ∧ o1.toInt ≤ 1) ∧ TP D A [(h0, ob 3 [.ref h2, .ref h3, .ref h4, .ref h5, .ref h6, .ref h7, .ref h8, .ref h9, .int h0f8, .int h0f9, .int o0, .int o1]), (h1, ob 0 [.ref h10]), (h2, aJ (k 1) 12000 anJ), (h3, aI (k 0) 400 anI), (h4, aI (k 0) 400 anI), (h5, aI (k 0) 400 anI), (h6, aI (k 0) 1600 anI), (h7, aI (k 0) 1024 (rgI (-1) (o0.toInt - 1))), (h8, aI (k 0) 400 (pfI (o0.toInt))), (h9, aJ (k 1) 60 anJ), (h10, ob 3 [.ref h11, .ref h12, .ref h13, .ref h14, .ref h15, .ref h16, .ref h17, .ref h18, .int h10f8, .int h10f9, .int h10f10, .int h10f11]), (h15, aI (k 0) 240 anI)] H
set_option maxHeartbeats 4000000 in
set_option maxRecDepth 100000 in
theorem cX4_spread_b4d02 (l : Launch) (D : va_G) (k : Nat → ClassId) (sz : Nat) (h0 h1 h2 h3 h4 h5 h6 h7 h8 h9 h10 h15 h11 h12 h13 h14 h16 h17 h18 : Nat) (x2 : Int32) (h0f8 : Int32) (h0f9 : Int32) (h0f10 : Int32) (h0f11 : Int32) (h10f8 : Int32) (h10f9 : Int32) (h10f10 : Int32) (h10f11 : Int32) (b_x2 : 0 ≤ x2.toInt ∧ x2.toInt ≤ 4) (b_h0f8 : 0 ≤ h0f8.toInt ∧ h0f8.toInt ≤ 60) (b_h0f9 : 200 ≤ h0f9.toInt ∧ h0f9.toInt ≤ 200) (b_h0f10 : 1 ≤ h0f10.toInt ∧ h0f10.toInt ≤ 1) (b_h0f11 : 0 ≤ h0f11.toInt ∧ h0f11.toInt ≤ 0) (b_h10f8 : 0 ≤ h10f8.toInt ∧ h10f8.toInt ≤ 3) (b_h10f9 : 0 ≤ h10f9.toInt ∧ h10f9.toInt ≤ 60) (b_h10f10 : 0 ≤ h10f10.toInt ∧ h10f10.toInt ≤ 60) (b_h10f11 : 1 ≤ h10f11.toInt ∧ h10f11.toInt ≤ 1) : Met l yX4_spread (Cond.code yX4_spread cX4_spread 6 none :: uw) Rm_cX4_spread_b4d02 (pT D k sz [.ref h0, .ref h1, .int x2] [(h0, ob 3 [.ref h2, .ref h3, .ref h4, .ref h5, .ref h6, .ref h7, .ref h8, .ref h9, .int h0f8, .int h0f9, .int h0f10, .int h0f11]), (h1, ob 0 [.ref h10]), (h2, aJ (k 1) 12000 anJ), (h3, aI (k 0) 400 anI), (h4, aI (k 0) 400 anI), (h5, aI (k 0) 400 anI), (h6, aI (k 0) 1600 anI), (h7, aI (k 0) 1024 (rgI (-1) (h0f10.toInt - 1))), (h8, aI (k 0) 400 (pfI (h0f10.toInt))), (h9, aJ (k 1) 60 anJ), (h10, ob 3 [.ref h11, .ref h12, .ref h13, .ref h14, .ref h15, .ref h16, .ref h17, .ref h18, .int h10f8, .int h10f9, .int h10f10, .int h10f11]), (h15, aI (k 0) 240 anI)]) (qV (B_cX4_spread_b4d02 D k h0 h1 h2 h3 h4 h5 h6 h7 h8 h9 h10 h15 h11 h12 h13 h14 h16 h17 h18 x2 h0f8 h0f9 h0f10 h0f11 h10f8 h10f9 h10f10 h10f11 (zA [h0, h1, h2, h3, h4, h5, h6, h7, h8, h9, h10, h15] sz)) (zA [h0, h1, h2, h3, h4, h5, h6, h7, h8, h9, h10, h15] sz)) 0 0 (zA [h0, h1, h2, h3, h4, h5, h6, h7, h8, h9, h10, h15] sz) := by
  refine tz_begin (as := [h0, h1, h2, h3, h4, h5, h6, h7, h8, h9, h10, h15]) (Qc := fun A => qV (B_cX4_spread_b4d02 D k h0 h1 h2 h3 h4 h5 h6 h7 h8 h9 h10 h15 h11 h12 h13 h14 h16 h17 h18 x2 h0f8 h0f9 h0f10 h0f11 h10f8 h10f9 h10f10 h10f11 A) A) (by decide +kernel) rfl (Nat.le_of_ble_eq_true rfl) ?_
  intro p e s m args below meth c ls A Q hx hb hr hml hown hlocks hin hU hK hT hS hA hl hQ
  have hl : lv_has ls 6 [(0, .ref h0), (1, .ref h1), (2, .int x2)] := hl
  have hT : TP D A [(h0, ob 3 [.ref h2, .ref h3, .ref h4, .ref h5, .ref h6, .ref h7, .ref h8, .ref h9, .int h0f8, .int h0f9, .int h0f10, .int h0f11]), (h1, ob 0 [.ref h10]), (h2, aJ (k 1) 12000 anJ), (h3, aI (k 0) 400 anI), (h4, aI (k 0) 400 anI), (h5, aI (k 0) 400 anI), (h6, aI (k 0) 1600 anI), (h7, aI (k 0) 1024 (rgI (-1) (h0f10.toInt - 1))), (h8, aI (k 0) 400 (pfI (h0f10.toInt))), (h9, aJ (k 1) 60 anJ), (h10, ob 3 [.ref h11, .ref h12, .ref h13, .ref h14, .ref h15, .ref h16, .ref h17, .ref h18, .int h10f8, .int h10f9, .int h10f10, .int h10f11]), (h15, aI (k 0) 240 anI)] s.heap := hT
  refine lv_aload_n hx hb dX4_spread_0 rfl (lv_at hl 0 rfl) ?_
  refine lv_iconst (v := 1) hx hb dX4_spread_1 (by decide) ?_
  refine tz_put (ci := 3) (v := .int 1) (ty := .boolean) (C := RX4) (F := TX4) (N := 12) hx hb hU iX4 tyX4 tyX4_ok nmX4 hown hK hT hS 0 rfl rfl 11 (by decide) w167 (fun _ h9 => h9) rfl (by decide +kernel) rfl rfl (Nat.le_of_ble_eq_true rfl) dX4_spread_2 (fun H locs hT hS => ?_)
  have hT : TP D A [(h0, ob 3 [.ref h2, .ref h3, .ref h4, .ref h5, .ref h6, .ref h7, .ref h8, .ref h9, .int h0f8, .int h0f9, .int h0f10, .int 1]), (h1, ob 0 [.ref h10]), (h2, aJ (k 1) 12000 anJ), (h3, aI (k 0) 400 anI), (h4, aI (k 0) 400 anI), (h5, aI (k 0) 400 anI), (h6, aI (k 0) 1600 anI), (h7, aI (k 0) 1024 (rgI (-1) (h0f10.toInt - 1))), (h8, aI (k 0) 400 (pfI (h0f10.toInt))), (h9, aJ (k 1) 60 anJ), (h10, ob 3 [.ref h11, .ref h12, .ref h13, .ref h14, .ref h15, .ref h16, .ref h17, .ref h18, .int h10f8, .int h10f9, .int h10f10, .int h10f11]), (h15, aI (k 0) 240 anI)] _ := hT
  refine lv_iconst (v := 0) hx hb dX4_spread_5 (by decide) ?_
  refine lv_istore_n (lv' := [(3, .int 0), (0, .ref h0), (1, .ref h1), (2, .int x2)]) hx hb dX4_spread_6 rfl hl (by decide) rfl (fun ls hl => ?_)
  have lp7_64 : ∀ (n : Nat) (y61 : Int32) (y62 : Int32) (y63 : Int32) (H : Heap) (locs : List Loc) (ls : Array Slot), (0 ≤ y61.toInt ∧ y61.toInt ≤ 200) → (1 ≤ y62.toInt ∧ y62.toInt ≤ 200) → (0 ≤ y63.toInt ∧ y63.toInt ≤ 1) → (h0f9.toInt + (-1) * y61.toInt + 1).toNat < n → TP D A [(h0, ob 3 [.ref h2, .ref h3, .ref h4, .ref h5, .ref h6, .ref h7, .ref h8, .ref h9, .int h0f8, .int h0f9, .int y62, .int y63]), (h1, ob 0 [.ref h10]), (h2, aJ (k 1) 12000 anJ), (h3, aI (k 0) 400 anI), (h4, aI (k 0) 400 anI), (h5, aI (k 0) 400 anI), (h6, aI (k 0) 1600 anI), (h7, aI (k 0) 1024 (rgI (-1) (y62.toInt - 1))), (h8, aI (k 0) 400 (pfI (y62.toInt))), (h9, aJ (k 1) 60 anJ), (h10, ob 3 [.ref h11, .ref h12, .ref h13, .ref h14, .ref h15, .ref h16, .ref h17, .ref h18, .int h10f8, .int h10f9, .int h10f10, .int h10f11]), (h15, aI (k 0) 240 anI)] H → va_S A s.heap H locs → lv_has ls 6 [(0, .ref h0), (1, .ref h1), (2, .int x2), (3, .int y61)] → W p l e Rm_cX4_spread_b4d02 s m args below meth c H locs 0 0 Q (F0 m 7 ls []) := by
    intro n
    induction n with
    | zero => intro y61 y62 y63 H locs ls b_y61 b_y62 b_y63 hm hT hS hl; exact absurd hm (Nat.not_lt_zero _)
    | succ n ih =>
      intro y61 y62 y63 H locs ls b_y61 b_y62 b_y63 hm hT hS hl
      have ih7_64 := ih
      clear ih
      refine lv_iload_n hx hb dX4_spread_7 rfl (lv_at hl 3 rfl) ?_
      refine lv_aload_n hx hb dX4_spread_8 rfl (lv_at hl 0 rfl) ?_
      refine tz_get (ci := 3) (v := .int h0f9) (C := RX4) (F := TX4) (N := 12) hx hb hU iX4 hown hK hT 0 rfl rfl 9 (by decide) w163 (fun _ h9 => h9) rfl dX4_spread_9 ?_
      refine lv_icmp_ge (tgt := 96) hx hb dX4_spread_12 (by decide) (fun c_65 => ?_) (fun c_65 => ?_)
      · skip
        have c_65 := ni_le c_65 rfl rfl
        exact tz_retV (B := B_cX4_spread_b4d02 D k h0 h1 h2 h3 h4 h5 h6 h7 h8 h9 h10 h15 h11 h12 h13 h14 h16 h17 h18 x2 h0f8 h0f9 h0f10 h0f11 h10f8 h10f9 h10f10 h10f11) hQ hx hb hr hlocks hS (Nat.le_of_ble_eq_true rfl) (Nat.le_of_ble_eq_true rfl) dX4_spread_96 (⟨y62, y63, (by omega), (by omega), hT⟩)
      · skip
        have c_65 := ni_nle c_65 rfl rfl
        refine lv_iload_n hx hb dX4_spread_15 rfl (lv_at hl 3 rfl) ?_
        refine lv_aload_n hx hb dX4_spread_16 rfl (lv_at hl 0 rfl) ?_
        refine tz_get (ci := 3) (v := .int y62) (C := RX4) (F := TX4) (N := 12) hx hb hU iX4 hown hK hT 0 rfl rfl 10 (by decide) w164 (fun _ h9 => h9) rfl dX4_spread_17 ?_
        refine lv_icmp_ge (tgt := 96) hx hb dX4_spread_20 (by decide) (fun c_66 => ?_) (fun c_66 => ?_)
        · skip
          have c_66 := ni_le c_66 rfl rfl
          exact tz_retV (B := B_cX4_spread_b4d02 D k h0 h1 h2 h3 h4 h5 h6 h7 h8 h9 h10 h15 h11 h12 h13 h14 h16 h17 h18 x2 h0f8 h0f9 h0f10 h0f11 h10f8 h10f9 h10f10 h10f11) hQ hx hb hr hlocks hS (Nat.le_of_ble_eq_true rfl) (Nat.le_of_ble_eq_true rfl) dX4_spread_96 (⟨y62, y63, (by omega), (by omega), hT⟩)
        · skip
          have c_66 := ni_nle c_66 rfl rfl
          refine lv_iconst (v := 0) hx hb dX4_spread_23 (by decide) ?_
          refine lv_istore (lv' := [(4, .int 0), (0, .ref h0), (1, .ref h1), (2, .int x2), (3, .int y61)]) hx hb dX4_spread_24 hl (by decide) rfl (fun ls hl => ?_)
          have lp26_79 : ∀ (n : Nat) (y76 : Int32) (y77 : Int32) (y78 : Int32) (H : Heap) (locs : List Loc) (ls : Array Slot), (0 ≤ y76.toInt ∧ y76.toInt ≤ 4) → (1 ≤ y77.toInt ∧ y77.toInt ≤ 200) → (0 ≤ y78.toInt ∧ y78.toInt ≤ 1) → (x2.toInt + (-1) * y76.toInt + 1).toNat < n → TP D A [(h0, ob 3 [.ref h2, .ref h3, .ref h4, .ref h5, .ref h6, .ref h7, .ref h8, .ref h9, .int h0f8, .int h0f9, .int y77, .int y78]), (h1, ob 0 [.ref h10]), (h2, aJ (k 1) 12000 anJ), (h3, aI (k 0) 400 anI), (h4, aI (k 0) 400 anI), (h5, aI (k 0) 400 anI), (h6, aI (k 0) 1600 anI), (h7, aI (k 0) 1024 (rgI (-1) (y77.toInt - 1))), (h8, aI (k 0) 400 (pfI (y77.toInt))), (h9, aJ (k 1) 60 anJ), (h10, ob 3 [.ref h11, .ref h12, .ref h13, .ref h14, .ref h15, .ref h16, .ref h17, .ref h18, .int h10f8, .int h10f9, .int h10f10, .int h10f11]), (h15, aI (k 0) 240 anI)] H → va_S A s.heap H locs → lv_has ls 6 [(0, .ref h0), (1, .ref h1), (2, .int x2), (3, .int y61), (4, .int y76)] → W p l e Rm_cX4_spread_b4d02 s m args below meth c H locs 0 0 Q (F0 m 26 ls []) := by
            intro n
            induction n with
            | zero => intro y76 y77 y78 H locs ls b_y76 b_y77 b_y78 hm hT hS hl; exact absurd hm (Nat.not_lt_zero _)
            | succ n ih =>
              intro y76 y77 y78 H locs ls b_y76 b_y77 b_y78 hm hT hS hl
              have ih26_79 := ih
              clear ih
              refine lv_iload hx hb dX4_spread_26 (lv_at hl 4 rfl) ?_
              refine lv_iload_n hx hb dX4_spread_28 rfl (lv_at hl 2 rfl) ?_
              refine lv_icmp_ge (tgt := 71) hx hb dX4_spread_29 (by decide) (fun c_80 => ?_) (fun c_80 => ?_)
              · skip
                have c_80 := ni_le c_80 rfl rfl
                refine lv_aload_n hx hb dX4_spread_71 rfl (lv_at hl 0 rfl) ?_
                refine tz_get (ci := 3) (v := .int y78) (C := RX4) (F := TX4) (N := 12) hx hb hU iX4 hown hK hT 0 rfl rfl 11 (by decide) w167 (fun _ h9 => h9) rfl dX4_spread_72 ?_
                refine lv_if_ne (tgt := 90) hx hb dX4_spread_75 (by decide) (fun c_81 => ?_) (fun c_81 => ?_)
                · skip
                  have c_81 := ni_ne c_81 rfl li_0
                  obtain ⟨v82, e_v82⟩ : ∃ x : Int32, x = y61 + Int32.ofInt 1 := ⟨_, rfl⟩
                  have f_v82 := e_v82.symm
                  have e_v82 : v82.toInt = y61.toInt + 1 := ai_add e_v82 rfl (show (Int32.ofInt 1).toInt = 1 from (by decide +kernel)) (by omega)
                  refine lv_iinc (v := v82) (lv' := [(3, .int v82), (0, .ref h0), (1, .ref h1), (2, .int x2), (4, .int y76)]) hx hb dX4_spread_90 hl (k := 3) rfl f_v82 (by decide) rfl (fun ls hl => ?_)
                  refine lv_goto (tgt := 7) hx hb dX4_spread_93 (by decide) ?_
                  exact ih7_64 v82 y77 y78 _ _ _ (by omega) (by omega) (by omega)  (by omega) hT hS (lv_sub hl [1, 2, 3, 0] rfl)
                · skip
                  have c_81 := ni_eq c_81 rfl li_0
                  refine lv_aload_n hx hb dX4_spread_78 rfl (lv_at hl 0 rfl) ?_
                  refine tz_get (ci := 3) (v := .int y77) (C := RX4) (F := TX4) (N := 12) hx hb hU iX4 hown hK hT 0 rfl rfl 10 (by decide) w164 (fun _ h9 => h9) rfl dX4_spread_79 ?_
                  refine lv_aload_n hx hb dX4_spread_82 rfl (lv_at hl 0 rfl) ?_
                  refine tz_get (ci := 3) (v := .int h0f9) (C := RX4) (F := TX4) (N := 12) hx hb hU iX4 hown hK hT 0 rfl rfl 9 (by decide) w163 (fun _ h9 => h9) rfl dX4_spread_83 ?_
                  refine lv_icmp_ne (tgt := 90) hx hb dX4_spread_86 (by decide) (fun c_83 => ?_) (fun c_83 => ?_)
                  · skip
                    have c_83 := ni_ne c_83 rfl rfl
                    obtain ⟨v84, e_v84⟩ : ∃ x : Int32, x = y61 + Int32.ofInt 1 := ⟨_, rfl⟩
                    have f_v84 := e_v84.symm
                    have e_v84 : v84.toInt = y61.toInt + 1 := ai_add e_v84 rfl (show (Int32.ofInt 1).toInt = 1 from (by decide +kernel)) (by omega)
                    refine lv_iinc (v := v84) (lv' := [(3, .int v84), (0, .ref h0), (1, .ref h1), (2, .int x2), (4, .int y76)]) hx hb dX4_spread_90 hl (k := 3) rfl f_v84 (by decide) rfl (fun ls hl => ?_)
                    refine lv_goto (tgt := 7) hx hb dX4_spread_93 (by decide) ?_
                    exact ih7_64 v84 y77 y78 _ _ _ (by omega) (by omega) (by omega)  (by omega) hT hS (lv_sub hl [1, 2, 3, 0] rfl)
                  · skip
                    have c_83 := ni_eq c_83 rfl rfl
                    exact tz_retV (B := B_cX4_spread_b4d02 D k h0 h1 h2 h3 h4 h5 h6 h7 h8 h9 h10 h15 h11 h12 h13 h14 h16 h17 h18 x2 h0f8 h0f9 h0f10 h0f11 h10f8 h10f9 h10f10 h10f11) hQ hx hb hr hlocks hS (Nat.le_of_ble_eq_true rfl) (Nat.le_of_ble_eq_true rfl) dX4_spread_89 (⟨y77, y78, (by omega), (by omega), hT⟩)
              · skip
                have c_80 := ni_nle c_80 rfl rfl
                refine lv_aload_n hx hb dX4_spread_32 rfl (lv_at hl 0 rfl) ?_
                refine lv_aload_n hx hb dX4_spread_33 rfl (lv_at hl 1 rfl) ?_
                refine lv_iload_n hx hb dX4_spread_34 rfl (lv_at hl 3 rfl) ?_
                refine lv_iload hx hb dX4_spread_35 (lv_at hl 4 rfl) ?_
                refine tcI (Tc := [(h0, ob 3 [.ref h2, .ref h3, .ref h4, .ref h5, .ref h6, .ref h7, .ref h8, .ref h9, .int h0f8, .int h0f9, .int y77, .int y78]), (h1, ob 0 [.ref h10]), (h2, aJ (k 1) 12000 anJ), (h3, aI (k 0) 400 anI), (h4, aI (k 0) 400 anI), (h5, aI (k 0) 400 anI), (h7, aI (k 0) 1024 (rgI (-1) (y77.toInt - 1))), (h8, aI (k 0) 400 (pfI (y77.toInt))), (h9, aJ (k 1) 60 anJ), (h10, ob 3 [.ref h11, .ref h12, .ref h13, .ref h14, .ref h15, .ref h16, .ref h17, .ref h18, .int h10f8, .int h10f9, .int h10f10, .int h10f11]), (h15, aI (k 0) 240 anI)]) (Tr := [(h6, aI (k 0) 1600 anI)]) (as := [h0, h1, h2, h3, h4, h5, h7, h8, h9, h10, h15]) (zcV (q0 := 0) (ci := 3) (As := [.ref h1, .int y61, .int y76]) (rest := []) (Tc := [(h0, ob 3 [.ref h2, .ref h3, .ref h4, .ref h5, .ref h6, .ref h7, .ref h8, .ref h9, .int h0f8, .int h0f9, .int y77, .int y78]), (h1, ob 0 [.ref h10]), (h2, aJ (k 1) 12000 anJ), (h3, aI (k 0) 400 anI), (h4, aI (k 0) 400 anI), (h5, aI (k 0) 400 anI), (h7, aI (k 0) 1024 (rgI (-1) (y77.toInt - 1))), (h8, aI (k 0) 400 (pfI (y77.toInt))), (h9, aJ (k 1) 60 anJ), (h10, ob 3 [.ref h11, .ref h12, .ref h13, .ref h14, .ref h15, .ref h16, .ref h17, .ref h18, .int h10f8, .int h10f9, .int h10f10, .int h10f11]), (h15, aI (k 0) 240 anI)]) hx hb hml hown hU hK hT rfl rfl [0, 1, 2, 3, 4, 5, 7, 8, 9, 10, 11] rfl (by decide) (cX4_lead_a35a0 l D k _ h0 h1 h2 h3 h4 h5 h7 h8 h9 h10 h15 h6 h11 h12 h13 h14 h16 h17 h18 y61 y76 h0f8 h0f9 y77 y78 h10f8 h10f9 h10f10 h10f11 (by omega) (by omega) (by omega) (by omega) (by omega) (by omega) (by omega) (by omega) (by omega) (by omega)) w523 w520 w522 w12 w66 hdX4_lead ⟨rfl, rfl⟩ ⟨Nat.le_of_ble_eq_true rfl, Nat.le_of_ble_eq_true rfl⟩ rfl hl.1 (Nat.le_of_ble_eq_true rfl) dX4_spread_37 ⟨Nat.le_of_ble_eq_true rfl, Nat.le_of_ble_eq_true rfl⟩) hT hS hA [0, 1, 2, 3, 4, 5, 7, 8, 9, 10, 11] [6] rfl rfl rfl (by decide) (by decide) (fun r85 H locs hB J hS => ?_)
                obtain ⟨v86, b_v86, b_r85, hT1⟩ := hB
                have hT := J _ hT1
                have hT : TP D A [(h6, aI (k 0) 1600 anI), (h0, ob 3 [.ref h2, .ref h3, .ref h4, .ref h5, .ref h6, .ref h7, .ref h8, .ref h9, .int h0f8, .int h0f9, .int v86, .int y78]), (h1, ob 0 [.ref h10]), (h2, aJ (k 1) 12000 anJ), (h3, aI (k 0) 400 anI), (h4, aI (k 0) 400 anI), (h5, aI (k 0) 400 anI), (h7, aI (k 0) 1024 (rgI (-1) (v86.toInt - 1))), (h8, aI (k 0) 400 (pfI (v86.toInt))), (h9, aJ (k 1) 60 anJ), (h10, ob 3 [.ref h11, .ref h12, .ref h13, .ref h14, .ref h15, .ref h16, .ref h17, .ref h18, .int h10f8, .int h10f9, .int h10f10, .int h10f11]), (h15, aI (k 0) 240 anI)] _ := hT
                refine lv_istore (lv' := [(5, .int r85), (0, .ref h0), (1, .ref h1), (2, .int x2), (3, .int y61), (4, .int y76)]) hx hb dX4_spread_40 hl (by decide) rfl (fun ls hl => ?_)
                refine lv_aload_n hx hb dX4_spread_42 rfl (lv_at hl 1 rfl) ?_
                refine tz_get (ci := 3) (v := .ref h6) (C := RX4) (F := TX4) (N := 12) hx hb hU iX4 hown hK hT 1 rfl rfl 4 (by decide) w157 (fun _ h9 => h9) rfl dX4_spread_43 ?_
                refine lv_iload_n hx hb dX4_spread_46 rfl (lv_at hl 4 rfl) ?_
                refine lv_iconst (v := 4) hx hb dX4_spread_47 (by decide) ?_
                refine lv_imul hx hb dX4_spread_48 (lv_topi (fun v87 e_v87 => ?_))
                have e_v87 := ai_mul e_v87 rfl li_4 (by omega)
                refine lv_iload hx hb dX4_spread_49 (lv_at hl 5 rfl) ?_
                refine lv_iadd hx hb dX4_spread_51 (lv_topi (fun v88 e_v88 => ?_))
                have e_v88 := ai_add e_v88 rfl rfl (by omega)
                refine lv_iload hx hb dX4_spread_52 (lv_at hl 0 rfl) ?_
                refine tz_iast hx hb hK hT hS 0 rfl (by omega) (fun _ _ => trivial) dX4_spread_54 (fun H locs hT hS => ?_)
                refine lv_iload hx hb dX4_spread_55 (lv_at hl 0 rfl) ?_
                refine lv_if_ge (tgt := 65) hx hb dX4_spread_57 (by decide) (fun c_89 => ?_) (fun c_89 => ?_)
                · skip
                  have c_89 := ni_le c_89 li_0 rfl
                  obtain ⟨v90, e_v90⟩ : ∃ x : Int32, x = y76 + Int32.ofInt 1 := ⟨_, rfl⟩
                  have f_v90 := e_v90.symm
                  have e_v90 : v90.toInt = y76.toInt + 1 := ai_add e_v90 rfl (show (Int32.ofInt 1).toInt = 1 from (by decide +kernel)) (by omega)
                  refine lv_iinc (v := v90) (lv' := [(4, .int v90), (5, .int r85), (0, .ref h0), (1, .ref h1), (2, .int x2), (3, .int y61)]) hx hb dX4_spread_65 hl (k := 5) rfl f_v90 (by decide) rfl (fun ls hl => ?_)
                  refine lv_goto (tgt := 26) hx hb dX4_spread_68 (by decide) ?_
                  exact ih26_79 v90 v86 y78 _ _ _ (by omega) (by omega) (by omega)  (by omega) (hT.sub [1, 2, 3, 4, 5, 6, 0, 7, 8, 9, 10, 11] (by decide) rfl) hS (lv_sub hl [2, 3, 4, 5, 0] rfl)
                · skip
                  have c_89 := ni_nle c_89 li_0 rfl
                  refine lv_aload_n hx hb dX4_spread_60 rfl (lv_at hl 1 rfl) ?_
                  refine lv_iconst (v := 0) hx hb dX4_spread_61 (by decide) ?_
                  refine tz_put (ci := 3) (v := .int 0) (ty := .boolean) (C := RX4) (F := TX4) (N := 12) hx hb hU iX4 tyX4 tyX4_ok nmX4 hown hK hT hS 1 rfl rfl 11 (by decide) w167 (fun _ h9 => h9) rfl (by decide +kernel) rfl rfl (Nat.le_of_ble_eq_true rfl) dX4_spread_62 (fun H locs hT hS => ?_)
                  have hT : TP D A [(h6, aI (k 0) 1600 anI), (h0, ob 3 [.ref h2, .ref h3, .ref h4, .ref h5, .ref h6, .ref h7, .ref h8, .ref h9, .int h0f8, .int h0f9, .int v86, .int 0]), (h1, ob 0 [.ref h10]), (h2, aJ (k 1) 12000 anJ), (h3, aI (k 0) 400 anI), (h4, aI (k 0) 400 anI), (h5, aI (k 0) 400 anI), (h7, aI (k 0) 1024 (rgI (-1) (v86.toInt - 1))), (h8, aI (k 0) 400 (pfI (v86.toInt))), (h9, aJ (k 1) 60 anJ), (h10, ob 3 [.ref h11, .ref h12, .ref h13, .ref h14, .ref h15, .ref h16, .ref h17, .ref h18, .int h10f8, .int h10f9, .int h10f10, .int h10f11]), (h15, aI (k 0) 240 anI)] _ := hT
                  obtain ⟨v91, e_v91⟩ : ∃ x : Int32, x = y76 + Int32.ofInt 1 := ⟨_, rfl⟩
                  have f_v91 := e_v91.symm
                  have e_v91 : v91.toInt = y76.toInt + 1 := ai_add e_v91 rfl (show (Int32.ofInt 1).toInt = 1 from (by decide +kernel)) (by omega)
                  refine lv_iinc (v := v91) (lv' := [(4, .int v91), (5, .int r85), (0, .ref h0), (1, .ref h1), (2, .int x2), (3, .int y61)]) hx hb dX4_spread_65 hl (k := 5) rfl f_v91 (by decide) rfl (fun ls hl => ?_)
                  refine lv_goto (tgt := 26) hx hb dX4_spread_68 (by decide) ?_
                  exact ih26_79 v91 v86 (0) _ _ _ (by have := li_0; omega) (by have := li_0; omega) (by have := li_0; omega)  (by have := li_0; omega) (hT.sub [1, 2, 3, 4, 5, 6, 0, 7, 8, 9, 10, 11] (by decide) rfl) hS (lv_sub hl [2, 3, 4, 5, 0] rfl)
          exact lp26_79 ((x2.toInt + (-1) * (0 : Int32).toInt + 1).toNat + 1) (0) y62 y63 _ _ _ (by have := li_0; omega) (by have := li_0; omega) (by have := li_0; omega)  (Nat.lt_succ_self _) hT hS (lv_sub hl [1, 2, 3, 4, 0] rfl)
  exact lp7_64 ((h0f9.toInt + (-1) * (0 : Int32).toInt + 1).toNat + 1) (0) h0f10 (1) _ _ _ (by have := li_0; have := li_1; omega) (by have := li_0; have := li_1; omega) (by have := li_0; have := li_1; omega)  (Nat.lt_succ_self _) hT hS (lv_sub hl [1, 2, 3, 0] rfl)
abbrev Rm_cX10_roundOfTrail_b52be : Room := { frames := 5, cells := 10, slots := 16356, locals := 117 }
abbrev B_cX10_roundOfTrail_b52be (D : va_G) (k : Nat → ClassId) (h0 h1 h6 h10 h33 h2 h3 h4 h5 h7 h8 h9 h11 h12 h13 h29 h30 h31 h32 h34 h35 h36 : Nat) (h0f2 : Int32) (h0f6 : Int32) (h0f8 : Int32) (h0f11 : Int32) (h1f0 : Int32) (h1f1 : Int32) (h1f2 : Int32) (h6f8 : Int32) (h6f9 : Int32) (h6f10 : Int32) (h6f11 : Int32) (A : Nat → Prop) (r : Int32) (H : Heap) : Prop := (h0f11 = r ∧ TP D A [(h0, ob 7 [.ref h1, .ref h2, .int h0f2, .ref h3, .ref h4, .ref h5, .int h0f6, .ref h6, .int h0f8, .null, .ref h7, .int h0f11, .ref h8, .ref h9, .ref h10, .ref h11, .ref h12]), (h1, ob 4 [.int h1f0, .int h1f1, .int h1f2, .ref h13]), (h6, ob 3 [.ref h29, .ref h30, .ref h31, .ref h32, .ref h33, .ref h34, .ref h35, .ref h36, .int h6f8, .int h6f9, .int h6f10, .int h6f11]), (h10, ob 0 [.ref h6]), (h33, aI (k 0) 240 anI)] H) ∨ (∃ n0 : Nat, ∃ n1 : Nat, ∃ n2 : Nat, ∃ n3 : Nat, ∃ n4 : Nat, ∃ n5 : Nat, ∃ n6 : Nat, ∃ n7 : Nat, ∃ n8 : Nat, ∃ o0 : Int32, ∃ o1 : Int32, ∃ o2 : Int32, (1 ≤ o0.toInt ∧ o0.toInt ≤ 200) ∧ (1 ≤ o1.toInt ∧ o1.toInt ≤ 200) ∧ (0 ≤ o2.toInt ∧ o2.toInt ≤ 1) ∧ (1 ≤ r.toInt ∧ r.toInt ≤ 200) ∧ TP D A [(h0, ob 7 [.ref h1, .ref h2, .int h0f2, .ref h3, .ref h4, .ref h5, .int h0f6, .ref h6, .int h0f8, .ref n0, .ref h7, .int o0, .ref h8, .ref h9, .ref h10, .ref h11, .ref h12]), (h1, ob 4 [.int h1f0, .int h1f1, .int h1f2, .ref h13]), (h6, ob 3 [.ref h29, .ref h30, .ref h31, .ref h32, .ref h33, .ref h34, .ref h35, .ref h36, .int h6f8, .int h6f9, .int h6f10, .int h6f11]), (h10, ob 0 [.ref h6]), (h33, aI (k 0) 240 anI), (n0, ob 3 [.ref n1, .ref n2, .ref n3, .ref n4, .ref n5, .ref n6, .ref n7, .ref n8, .int h6f10, .int 200, .int o1, .int o2]), (n1, aJ (k 1) 12000 anJ), (n2, aI (k 0) 400 anI), (n3, aI (k 0) 400 anI), (n4, aI (k 0) 400 anI), (n5, aI (k 0) 1600 anI), (n6, aI (k 0) 1024 anI), (n7, aI (k 0) 400 anI), (n8, aJ (k 1) 60 anJ)] H)
set_option maxHeartbeats 4000000 in
set_option maxRecDepth 100000 in
theorem cX10_roundOfTrail_b52be (l : Launch) (D : va_G) (k : Nat → ClassId) (sz : Nat) (h0 h1 h6 h10 h33 h2 h3 h4 h5 h7 h8 h9 h11 h12 h13 h29 h30 h31 h32 h34 h35 h36 : Nat) (h0f2 : Int32) (h0f6 : Int32) (h0f8 : Int32) (h0f11 : Int32) (h1f0 : Int32) (h1f1 : Int32) (h1f2 : Int32) (h6f8 : Int32) (h6f9 : Int32) (h6f10 : Int32) (h6f11 : Int32) (b_h0f2 : 0 ≤ h0f2.toInt ∧ h0f2.toInt ≤ 1) (b_h0f6 : 0 ≤ h0f6.toInt ∧ h0f6.toInt ≤ 1) (b_h0f8 : 1 ≤ h0f8.toInt ∧ h0f8.toInt ≤ 1) (b_h0f11 : 0 ≤ h0f11.toInt ∧ h0f11.toInt ≤ 200) (b_h1f0 : 1 ≤ h1f0.toInt ∧ h1f0.toInt ≤ 3) (b_h1f1 : 0 ≤ h1f1.toInt ∧ h1f1.toInt ≤ 4) (b_h6f8 : 0 ≤ h6f8.toInt ∧ h6f8.toInt ≤ 3) (b_h6f9 : 0 ≤ h6f9.toInt ∧ h6f9.toInt ≤ 60) (b_h6f10 : 0 ≤ h6f10.toInt ∧ h6f10.toInt ≤ 60) (b_h6f11 : 1 ≤ h6f11.toInt ∧ h6f11.toInt ≤ 1) : Met l yX10_roundOfTrail (Cond.code yX10_roundOfTrail cX10_roundOfTrail 4 (some .int) :: uw) Rm_cX10_roundOfTrail_b52be (pT D k sz [.ref h0] [(h0, ob 7 [.ref h1, .ref h2, .int h0f2, .ref h3, .ref h4, .ref h5, .int h0f6, .ref h6, .int h0f8, .null, .ref h7, .int h0f11, .ref h8, .ref h9, .ref h10, .ref h11, .ref h12]), (h1, ob 4 [.int h1f0, .int h1f1, .int h1f2, .ref h13]), (h6, ob 3 [.ref h29, .ref h30, .ref h31, .ref h32, .ref h33, .ref h34, .ref h35, .ref h36, .int h6f8, .int h6f9, .int h6f10, .int h6f11]), (h10, ob 0 [.ref h6]), (h33, aI (k 0) 240 anI)]) (qI (B_cX10_roundOfTrail_b52be D k h0 h1 h6 h10 h33 h2 h3 h4 h5 h7 h8 h9 h11 h12 h13 h29 h30 h31 h32 h34 h35 h36 h0f2 h0f6 h0f8 h0f11 h1f0 h1f1 h1f2 h6f8 h6f9 h6f10 h6f11 (zA [h0, h1, h6, h10, h33] sz)) (zA [h0, h1, h6, h10, h33] sz)) 10 16356 (zA [h0, h1, h6, h10, h33] sz) := by
  refine tz_begin (as := [h0, h1, h6, h10, h33]) (Qc := fun A => qI (B_cX10_roundOfTrail_b52be D k h0 h1 h6 h10 h33 h2 h3 h4 h5 h7 h8 h9 h11 h12 h13 h29 h30 h31 h32 h34 h35 h36 h0f2 h0f6 h0f8 h0f11 h1f0 h1f1 h1f2 h6f8 h6f9 h6f10 h6f11 A) A) (by decide +kernel) rfl (Nat.le_of_ble_eq_true rfl) ?_
  intro p e s m args below meth c ls A Q hx hb hr hml hown hlocks hin hU hK hT hS hA hl hQ
  have hl : lv_has ls 4 [(0, .ref h0)] := hl
  have hT : TP D A [(h0, ob 7 [.ref h1, .ref h2, .int h0f2, .ref h3, .ref h4, .ref h5, .int h0f6, .ref h6, .int h0f8, .null, .ref h7, .int h0f11, .ref h8, .ref h9, .ref h10, .ref h11, .ref h12]), (h1, ob 4 [.int h1f0, .int h1f1, .int h1f2, .ref h13]), (h6, ob 3 [.ref h29, .ref h30, .ref h31, .ref h32, .ref h33, .ref h34, .ref h35, .ref h36, .int h6f8, .int h6f9, .int h6f10, .int h6f11]), (h10, ob 0 [.ref h6]), (h33, aI (k 0) 240 anI)] s.heap := hT
  refine lv_aload_n hx hb dX10_roundOfTrail_0 rfl (lv_at hl 0 rfl) ?_
  refine tz_get (ci := 7) (v := .int h0f11) (C := RX10) (F := TX10) (N := 17) hx hb hU iX10 hown hK hT 0 rfl rfl 11 (by decide) w260 (fun _ h9 => h9) rfl dX10_roundOfTrail_1 ?_
  refine lv_if_ne (tgt := 79) hx hb dX10_roundOfTrail_4 (by decide) (fun c_1 => ?_) (fun c_1 => ?_)
  · skip
    have c_1 := ni_ne c_1 rfl li_0
    refine lv_aload_n hx hb dX10_roundOfTrail_79 rfl (lv_at hl 0 rfl) ?_
    refine tz_get (ci := 7) (v := .int h0f11) (C := RX10) (F := TX10) (N := 17) hx hb hU iX10 hown hK hT 0 rfl rfl 11 (by decide) w260 (fun _ h9 => h9) rfl dX10_roundOfTrail_80 ?_
    exact tz_retI (B := B_cX10_roundOfTrail_b52be D k h0 h1 h6 h10 h33 h2 h3 h4 h5 h7 h8 h9 h11 h12 h13 h29 h30 h31 h32 h34 h35 h36 h0f2 h0f6 h0f8 h0f11 h1f0 h1f1 h1f2 h6f8 h6f9 h6f10 h6f11) (v := h0f11) hQ hx hb hr hlocks hS (Nat.le_of_ble_eq_true rfl) (Nat.le_of_ble_eq_true rfl) dX10_roundOfTrail_83 (Or.inl ⟨rfl, hT⟩)
  · skip
    have c_1 := ni_eq c_1 rfl li_0
    refine lv_aload_n hx hb dX10_roundOfTrail_7 rfl (lv_at hl 0 rfl) ?_
    refine lv_aload_n hx hb dX10_roundOfTrail_8 rfl (lv_at hl 0 rfl) ?_
    refine tz_get (ci := 7) (v := .ref h6) (C := RX10) (F := TX10) (N := 17) hx hb hU iX10 hown hK hT 0 rfl rfl 7 (by decide) w256 (fun _ h9 => h9) rfl dX10_roundOfTrail_9 ?_
    refine tz_get (ci := 3) (v := .int h6f10) (C := RX4) (F := TX4) (N := 12) hx hb hU iX4 hown hK hT 2 rfl rfl 10 (by decide) w166 (fun _ h9 => h9) rfl dX10_roundOfTrail_12 ?_
    refine lv_sipush (v := 200) hx hb dX10_roundOfTrail_15 (by decide) ?_
    have q_q3 := li_200
    refine tcR (Tc := [(h0, ob 7 [.ref h1, .ref h2, .int h0f2, .ref h3, .ref h4, .ref h5, .int h0f6, .ref h6, .int h0f8, .null, .ref h7, .int h0f11, .ref h8, .ref h9, .ref h10, .ref h11, .ref h12])]) (Tr := [(h1, ob 4 [.int h1f0, .int h1f1, .int h1f2, .ref h13]), (h6, ob 3 [.ref h29, .ref h30, .ref h31, .ref h32, .ref h33, .ref h34, .ref h35, .ref h36, .int h6f8, .int h6f9, .int h6f10, .int h6f11]), (h10, ob 0 [.ref h6]), (h33, aI (k 0) 240 anI)]) (as := [h0]) (zcV (q0 := 0) (ci := 7) (As := [.int h6f10, .int 200]) (rest := []) (Tc := [(h0, ob 7 [.ref h1, .ref h2, .int h0f2, .ref h3, .ref h4, .ref h5, .int h0f6, .ref h6, .int h0f8, .null, .ref h7, .int h0f11, .ref h8, .ref h9, .ref h10, .ref h11, .ref h12])]) hx hb hml hown hU hK hT rfl rfl [0] rfl (by decide) (cX10_clearBench_37f2f l D k _ h0 h1 h2 h3 h4 h5 h6 h7 h8 h9 h10 h11 h12 h6f10 (200) h0f2 h0f6 h0f8 h0f11 (by omega) (by have := li_200; omega) (by omega) (by omega) (by omega) (by omega)) w672 w669 w671 w22 w63 hdX10_clearBench ⟨rfl, rfl⟩ ⟨Nat.le_of_ble_eq_true rfl, Nat.le_of_ble_eq_true rfl⟩ rfl hl.1 (Nat.le_of_ble_eq_true rfl) dX10_roundOfTrail_18 ⟨Nat.le_of_ble_eq_true rfl, Nat.le_of_ble_eq_true rfl⟩) hT hS hA [0] [1, 2, 3, 4] rfl rfl rfl (by decide) (by decide) (fun r2 H locs hB J hS => ?_)
    obtain ⟨q4, q5, q6, q7, q8, q9, q10, q11, q12, rfl, hT1⟩ := hB
    have hT := J _ hT1
    have hT : TP D A [(h1, ob 4 [.int h1f0, .int h1f1, .int h1f2, .ref h13]), (h6, ob 3 [.ref h29, .ref h30, .ref h31, .ref h32, .ref h33, .ref h34, .ref h35, .ref h36, .int h6f8, .int h6f9, .int h6f10, .int h6f11]), (h10, ob 0 [.ref h6]), (h33, aI (k 0) 240 anI), (h0, ob 7 [.ref h1, .ref h2, .int h0f2, .ref h3, .ref h4, .ref h5, .int h0f6, .ref h6, .int h0f8, .ref q4, .ref h7, .int h0f11, .ref h8, .ref h9, .ref h10, .ref h11, .ref h12]), (q4, ob 3 [.ref q5, .ref q6, .ref q7, .ref q8, .ref q9, .ref q10, .ref q11, .ref q12, .int h6f10, .int 200, .int 0, .int 0]), (q5, aJ (k 1) 12000 anJ), (q6, aI (k 0) 400 anI), (q7, aI (k 0) 400 anI), (q8, aI (k 0) 400 anI), (q9, aI (k 0) 1600 anI), (q10, aI (k 0) 1024 (rgI (-1) (0 - 1))), (q11, aI (k 0) 400 (pfI (0))), (q12, aJ (k 1) 60 anJ)] _ := hT
    refine lv_astore_n (lv' := [(1, .ref q4), (0, .ref h0)]) hx hb dX10_roundOfTrail_21 rfl hl (by decide) rfl (fun ls hl => ?_)
    refine lv_bipush (v := 60) hx hb dX10_roundOfTrail_22 (by decide) ?_
    refine tz_nal (N := 60) hx hb hU w113 hK hT hS hA (by decide +kernel) (by decide +kernel) (Nat.le_of_ble_eq_true rfl) (Nat.le_of_ble_eq_true rfl) (Nat.le_of_ble_eq_true rfl) dX10_roundOfTrail_24 (fun q13 H hT hS => ?_)
    have hT : TP D A [(h1, ob 4 [.int h1f0, .int h1f1, .int h1f2, .ref h13]), (h6, ob 3 [.ref h29, .ref h30, .ref h31, .ref h32, .ref h33, .ref h34, .ref h35, .ref h36, .int h6f8, .int h6f9, .int h6f10, .int h6f11]), (h10, ob 0 [.ref h6]), (h33, aI (k 0) 240 anI), (h0, ob 7 [.ref h1, .ref h2, .int h0f2, .ref h3, .ref h4, .ref h5, .int h0f6, .ref h6, .int h0f8, .ref q4, .ref h7, .int h0f11, .ref h8, .ref h9, .ref h10, .ref h11, .ref h12]), (q4, ob 3 [.ref q5, .ref q6, .ref q7, .ref q8, .ref q9, .ref q10, .ref q11, .ref q12, .int h6f10, .int 200, .int 0, .int 0]), (q5, aJ (k 1) 12000 anJ), (q6, aI (k 0) 400 anI), (q7, aI (k 0) 400 anI), (q8, aI (k 0) 400 anI), (q9, aI (k 0) 1600 anI), (q10, aI (k 0) 1024 (rgI (-1) (0 - 1))), (q11, aI (k 0) 400 (pfI (0))), (q12, aJ (k 1) 60 anJ), (q13, aJ (k 1) 60 anJ)] _ := hT
    refine lv_astore_n (lv' := [(2, .ref q13), (1, .ref q4), (0, .ref h0)]) hx hb dX10_roundOfTrail_26 rfl hl (by decide) rfl (fun ls hl => ?_)
    refine lv_iconst (v := 0) hx hb dX10_roundOfTrail_27 (by decide) ?_
    refine lv_istore_n (lv' := [(3, .int 0), (2, .ref q13), (1, .ref q4), (0, .ref h0)]) hx hb dX10_roundOfTrail_28 rfl hl (by decide) rfl (fun ls hl => ?_)
    have lp29_25 : ∀ (n : Nat) (y24 : Int32) (H : Heap) (locs : List Loc) (ls : Array Slot), (0 ≤ y24.toInt ∧ y24.toInt ≤ 60) → ((-1) * y24.toInt + 60 + 1).toNat < n → TP D A [(h1, ob 4 [.int h1f0, .int h1f1, .int h1f2, .ref h13]), (h6, ob 3 [.ref h29, .ref h30, .ref h31, .ref h32, .ref h33, .ref h34, .ref h35, .ref h36, .int h6f8, .int h6f9, .int h6f10, .int h6f11]), (h10, ob 0 [.ref h6]), (h33, aI (k 0) 240 anI), (h0, ob 7 [.ref h1, .ref h2, .int h0f2, .ref h3, .ref h4, .ref h5, .int h0f6, .ref h6, .int h0f8, .ref q4, .ref h7, .int h0f11, .ref h8, .ref h9, .ref h10, .ref h11, .ref h12]), (q4, ob 3 [.ref q5, .ref q6, .ref q7, .ref q8, .ref q9, .ref q10, .ref q11, .ref q12, .int h6f10, .int 200, .int 0, .int 0]), (q5, aJ (k 1) 12000 anJ), (q6, aI (k 0) 400 anI), (q7, aI (k 0) 400 anI), (q8, aI (k 0) 400 anI), (q9, aI (k 0) 1600 anI), (q10, aI (k 0) 1024 (rgI (-1) (0 - 1))), (q11, aI (k 0) 400 (pfI (0))), (q12, aJ (k 1) 60 anJ), (q13, aJ (k 1) 60 anJ)] H → va_S A s.heap H locs → lv_has ls 4 [(0, .ref h0), (1, .ref q4), (2, .ref q13), (3, .int y24)] → W p l e Rm_cX10_roundOfTrail_b52be s m args below meth c H locs 10 16356 Q (F0 m 29 ls []) := by
      intro n
      induction n with
      | zero => intro y24 H locs ls b_y24 hm hT hS hl; exact absurd hm (Nat.not_lt_zero _)
      | succ n ih =>
        intro y24 H locs ls b_y24 hm hT hS hl
        have ih29_25 := ih
        clear ih
        refine lv_iload_n hx hb dX10_roundOfTrail_29 rfl (lv_at hl 3 rfl) ?_
        refine lv_bipush (v := 60) hx hb dX10_roundOfTrail_30 (by decide) ?_
        refine lv_icmp_ge (tgt := 46) hx hb dX10_roundOfTrail_32 (by decide) (fun c_26 => ?_) (fun c_26 => ?_)
        · skip
          have c_26 := ni_le c_26 li_60 rfl
          refine lv_aload_n hx hb dX10_roundOfTrail_46 rfl (lv_at hl 1 rfl) ?_
          refine lv_aload_n hx hb dX10_roundOfTrail_47 rfl (lv_at hl 2 rfl) ?_
          refine lv_bipush (v := (-3)) hx hb dX10_roundOfTrail_48 (by decide) ?_
          refine lv_bipush (v := (-3)) hx hb dX10_roundOfTrail_50 (by decide) ?_
          have q_q28 := li_m3
          have q_q29 := li_m3
          have q_q30 := li_200
          have q_q31 := li_0
          have q_q32 := li_0
          refine tcI (Tc := [(q4, ob 3 [.ref q5, .ref q6, .ref q7, .ref q8, .ref q9, .ref q10, .ref q11, .ref q12, .int h6f10, .int 200, .int 0, .int 0]), (q13, aJ (k 1) 60 anJ), (q5, aJ (k 1) 12000 anJ), (q6, aI (k 0) 400 anI), (q7, aI (k 0) 400 anI), (q8, aI (k 0) 400 anI), (q10, aI (k 0) 1024 (rgI (-1) (0 - 1))), (q11, aI (k 0) 400 (pfI (0)))]) (Tr := [(h1, ob 4 [.int h1f0, .int h1f1, .int h1f2, .ref h13]), (h6, ob 3 [.ref h29, .ref h30, .ref h31, .ref h32, .ref h33, .ref h34, .ref h35, .ref h36, .int h6f8, .int h6f9, .int h6f10, .int h6f11]), (h10, ob 0 [.ref h6]), (h33, aI (k 0) 240 anI), (h0, ob 7 [.ref h1, .ref h2, .int h0f2, .ref h3, .ref h4, .ref h5, .int h0f6, .ref h6, .int h0f8, .ref q4, .ref h7, .int h0f11, .ref h8, .ref h9, .ref h10, .ref h11, .ref h12]), (q9, aI (k 0) 1600 anI), (q12, aJ (k 1) 60 anJ)]) (as := [q4, q13, q5, q6, q7, q8, q10, q11]) (zcV (q0 := 5) (ci := 3) (As := [.ref q13, .int (-3), .int (-3)]) (rest := []) (Tc := [(q4, ob 3 [.ref q5, .ref q6, .ref q7, .ref q8, .ref q9, .ref q10, .ref q11, .ref q12, .int h6f10, .int 200, .int 0, .int 0]), (q13, aJ (k 1) 60 anJ), (q5, aJ (k 1) 12000 anJ), (q6, aI (k 0) 400 anI), (q7, aI (k 0) 400 anI), (q8, aI (k 0) 400 anI), (q10, aI (k 0) 1024 (rgI (-1) (0 - 1))), (q11, aI (k 0) 400 (pfI (0)))]) hx hb hml hown hU hK hT rfl rfl [5, 14, 6, 7, 8, 9, 11, 12] rfl (by decide) (cX4_append_9081d l D k _ q4 q13 q5 q6 q7 q8 q10 q11 q9 q12 ((-3)) ((-3)) h6f10 (200) (0) (0) (by have := li_m3; omega) (by have := li_m3; omega) (by omega) (by have := li_200; omega) (by have := li_0; omega) (by have := li_0; omega)) w501 w498 w499 w500 w66 hdX4_append ⟨rfl, rfl⟩ ⟨Nat.le_of_ble_eq_true rfl, Nat.le_of_ble_eq_true rfl⟩ rfl hl.1 (Nat.le_of_ble_eq_true rfl) dX10_roundOfTrail_52 ⟨Nat.le_of_ble_eq_true rfl, Nat.le_of_ble_eq_true rfl⟩) hT hS hA [5, 14, 6, 7, 8, 9, 11, 12] [0, 1, 2, 3, 4, 10, 13] rfl rfl rfl (by decide) (by decide) (fun r27 H locs hB J hS => ?_)
          obtain ⟨v33, b_v33, rfl, hT1⟩ := hB
          have hT := J _ hT1
          have hT : TP D A [(h1, ob 4 [.int h1f0, .int h1f1, .int h1f2, .ref h13]), (h6, ob 3 [.ref h29, .ref h30, .ref h31, .ref h32, .ref h33, .ref h34, .ref h35, .ref h36, .int h6f8, .int h6f9, .int h6f10, .int h6f11]), (h10, ob 0 [.ref h6]), (h33, aI (k 0) 240 anI), (h0, ob 7 [.ref h1, .ref h2, .int h0f2, .ref h3, .ref h4, .ref h5, .int h0f6, .ref h6, .int h0f8, .ref q4, .ref h7, .int h0f11, .ref h8, .ref h9, .ref h10, .ref h11, .ref h12]), (q9, aI (k 0) 1600 anI), (q12, aJ (k 1) 60 anJ), (q4, ob 3 [.ref q5, .ref q6, .ref q7, .ref q8, .ref q9, .ref q10, .ref q11, .ref q12, .int h6f10, .int 200, .int v33, .int 0]), (q13, aJ (k 1) 60 anJ), (q5, aJ (k 1) 12000 anJ), (q6, aI (k 0) 400 anI), (q7, aI (k 0) 400 anI), (q8, aI (k 0) 400 anI), (q10, aI (k 0) 1024 (rgI (-1) (v33.toInt - 1))), (q11, aI (k 0) 400 (pfI (v33.toInt)))] _ := hT
          refine lv_pop hx hb dX10_roundOfTrail_55 rfl ?_
          refine lv_aload_n hx hb dX10_roundOfTrail_56 rfl (lv_at hl 1 rfl) ?_
          refine lv_aload_n hx hb dX10_roundOfTrail_57 rfl (lv_at hl 0 rfl) ?_
          refine tz_get (ci := 7) (v := .ref h10) (C := RX10) (F := TX10) (N := 17) hx hb hU iX10 hown hK hT 4 rfl rfl 14 (by decide) w263 (fun _ h9 => h9) rfl dX10_roundOfTrail_58 ?_
          refine lv_aload_n hx hb dX10_roundOfTrail_61 rfl (lv_at hl 0 rfl) ?_
          refine tz_get (ci := 7) (v := .ref h1) (C := RX10) (F := TX10) (N := 17) hx hb hU iX10 hown hK hT 4 rfl rfl 0 (by decide) w249 (fun _ h9 => h9) rfl dX10_roundOfTrail_62 ?_
          refine tz_get (ci := 4) (v := .int h1f1) (C := RX5) (F := TX5) (N := 4) hx hb hU iX5 hown hK hT 0 rfl rfl 1 (by decide) w97 (fun _ h9 => h9) rfl dX10_roundOfTrail_65 ?_
          have q_q35 := li_200
          have q_q36 := li_0
          refine tcV (Tc := [(q4, ob 3 [.ref q5, .ref q6, .ref q7, .ref q8, .ref q9, .ref q10, .ref q11, .ref q12, .int h6f10, .int 200, .int v33, .int 0]), (h10, ob 0 [.ref h6]), (q5, aJ (k 1) 12000 anJ), (q6, aI (k 0) 400 anI), (q7, aI (k 0) 400 anI), (q8, aI (k 0) 400 anI), (q9, aI (k 0) 1600 anI), (q10, aI (k 0) 1024 (rgI (-1) (v33.toInt - 1))), (q11, aI (k 0) 400 (pfI (v33.toInt))), (q12, aJ (k 1) 60 anJ), (h6, ob 3 [.ref h29, .ref h30, .ref h31, .ref h32, .ref h33, .ref h34, .ref h35, .ref h36, .int h6f8, .int h6f9, .int h6f10, .int h6f11]), (h33, aI (k 0) 240 anI)]) (Tr := [(h1, ob 4 [.int h1f0, .int h1f1, .int h1f2, .ref h13]), (h0, ob 7 [.ref h1, .ref h2, .int h0f2, .ref h3, .ref h4, .ref h5, .int h0f6, .ref h6, .int h0f8, .ref q4, .ref h7, .int h0f11, .ref h8, .ref h9, .ref h10, .ref h11, .ref h12]), (q13, aJ (k 1) 60 anJ)]) (as := [q4, h10, q5, q6, q7, q8, q9, q10, q11, q12, h6, h33]) (zcV (q0 := 7) (ci := 3) (As := [.ref h10, .int h1f1]) (rest := []) (Tc := [(q4, ob 3 [.ref q5, .ref q6, .ref q7, .ref q8, .ref q9, .ref q10, .ref q11, .ref q12, .int h6f10, .int 200, .int v33, .int 0]), (h10, ob 0 [.ref h6]), (q5, aJ (k 1) 12000 anJ), (q6, aI (k 0) 400 anI), (q7, aI (k 0) 400 anI), (q8, aI (k 0) 400 anI), (q9, aI (k 0) 1600 anI), (q10, aI (k 0) 1024 (rgI (-1) (v33.toInt - 1))), (q11, aI (k 0) 400 (pfI (v33.toInt))), (q12, aJ (k 1) 60 anJ), (h6, ob 3 [.ref h29, .ref h30, .ref h31, .ref h32, .ref h33, .ref h34, .ref h35, .ref h36, .int h6f8, .int h6f9, .int h6f10, .int h6f11]), (h33, aI (k 0) 240 anI)]) hx hb hml hown hU hK hT rfl rfl [7, 2, 9, 10, 11, 12, 5, 13, 14, 6, 1, 3] rfl (by decide) (cX4_spread_b4d02 l D k _ q4 h10 q5 q6 q7 q8 q9 q10 q11 q12 h6 h33 h29 h30 h31 h32 h34 h35 h36 h1f1 h6f10 (200) v33 (0) h6f8 h6f9 h6f10 h6f11 (by omega) (by omega) (by have := li_200; omega) (by omega) (by have := li_0; omega) (by omega) (by omega) (by omega) (by omega)) w519 w516 w517 w518 w66 hdX4_spread ⟨rfl, rfl⟩ ⟨Nat.le_of_ble_eq_true rfl, Nat.le_of_ble_eq_true rfl⟩ rfl hl.1 (Nat.le_of_ble_eq_true rfl) dX10_roundOfTrail_68 ⟨Nat.le_of_ble_eq_true rfl, Nat.le_of_ble_eq_true rfl⟩) hT hS hA [7, 2, 9, 10, 11, 12, 5, 13, 14, 6, 1, 3] [0, 4, 8] rfl rfl rfl (by decide) (by decide) (fun H locs hB J hS => ?_)
          obtain ⟨v37, v38, b_v37, b_v38, hT1⟩ := hB
          have hT := J _ hT1
          have hT : TP D A [(h1, ob 4 [.int h1f0, .int h1f1, .int h1f2, .ref h13]), (h0, ob 7 [.ref h1, .ref h2, .int h0f2, .ref h3, .ref h4, .ref h5, .int h0f6, .ref h6, .int h0f8, .ref q4, .ref h7, .int h0f11, .ref h8, .ref h9, .ref h10, .ref h11, .ref h12]), (q13, aJ (k 1) 60 anJ), (q4, ob 3 [.ref q5, .ref q6, .ref q7, .ref q8, .ref q9, .ref q10, .ref q11, .ref q12, .int h6f10, .int 200, .int v37, .int v38]), (h10, ob 0 [.ref h6]), (q5, aJ (k 1) 12000 anJ), (q6, aI (k 0) 400 anI), (q7, aI (k 0) 400 anI), (q8, aI (k 0) 400 anI), (q9, aI (k 0) 1600 anI), (q10, aI (k 0) 1024 (rgI (-1) (v37.toInt - 1))), (q11, aI (k 0) 400 (pfI (v37.toInt))), (q12, aJ (k 1) 60 anJ), (h6, ob 3 [.ref h29, .ref h30, .ref h31, .ref h32, .ref h33, .ref h34, .ref h35, .ref h36, .int h6f8, .int h6f9, .int h6f10, .int h6f11]), (h33, aI (k 0) 240 anI)] _ := hT
          refine lv_aload_n hx hb dX10_roundOfTrail_71 rfl (lv_at hl 0 rfl) ?_
          refine lv_aload_n hx hb dX10_roundOfTrail_72 rfl (lv_at hl 1 rfl) ?_
          refine tz_get (ci := 3) (v := .int v37) (C := RX4) (F := TX4) (N := 12) hx hb hU iX4 hown hK hT 3 rfl rfl 10 (by decide) w166 (fun _ h9 => h9) rfl dX10_roundOfTrail_73 ?_
          refine tz_put (ci := 7) (v := .int v37) (ty := .int) (C := RX10) (F := TX10) (N := 17) hx hb hU iX10 tyX10 tyX10_ok nmX10 hown hK hT hS 1 rfl rfl 11 (by decide) w260 (fun _ h9 => h9) rfl (by decide +kernel) rfl rfl (Nat.le_of_ble_eq_true rfl) dX10_roundOfTrail_76 (fun H locs hT hS => ?_)
          have hT : TP D A [(h1, ob 4 [.int h1f0, .int h1f1, .int h1f2, .ref h13]), (h0, ob 7 [.ref h1, .ref h2, .int h0f2, .ref h3, .ref h4, .ref h5, .int h0f6, .ref h6, .int h0f8, .ref q4, .ref h7, .int v37, .ref h8, .ref h9, .ref h10, .ref h11, .ref h12]), (q13, aJ (k 1) 60 anJ), (q4, ob 3 [.ref q5, .ref q6, .ref q7, .ref q8, .ref q9, .ref q10, .ref q11, .ref q12, .int h6f10, .int 200, .int v37, .int v38]), (h10, ob 0 [.ref h6]), (q5, aJ (k 1) 12000 anJ), (q6, aI (k 0) 400 anI), (q7, aI (k 0) 400 anI), (q8, aI (k 0) 400 anI), (q9, aI (k 0) 1600 anI), (q10, aI (k 0) 1024 (rgI (-1) (v37.toInt - 1))), (q11, aI (k 0) 400 (pfI (v37.toInt))), (q12, aJ (k 1) 60 anJ), (h6, ob 3 [.ref h29, .ref h30, .ref h31, .ref h32, .ref h33, .ref h34, .ref h35, .ref h36, .int h6f8, .int h6f9, .int h6f10, .int h6f11]), (h33, aI (k 0) 240 anI)] _ := hT
          refine lv_aload_n hx hb dX10_roundOfTrail_79 rfl (lv_at hl 0 rfl) ?_
          refine tz_get (ci := 7) (v := .int v37) (C := RX10) (F := TX10) (N := 17) hx hb hU iX10 hown hK hT 1 rfl rfl 11 (by decide) w260 (fun _ h9 => h9) rfl dX10_roundOfTrail_80 ?_
          have hT := hT.wk (q := 10) rfl (an_I (c := k 0) (n := 1024))
          have hT : TP D A [(h1, ob 4 [.int h1f0, .int h1f1, .int h1f2, .ref h13]), (h0, ob 7 [.ref h1, .ref h2, .int h0f2, .ref h3, .ref h4, .ref h5, .int h0f6, .ref h6, .int h0f8, .ref q4, .ref h7, .int v37, .ref h8, .ref h9, .ref h10, .ref h11, .ref h12]), (q13, aJ (k 1) 60 anJ), (q4, ob 3 [.ref q5, .ref q6, .ref q7, .ref q8, .ref q9, .ref q10, .ref q11, .ref q12, .int h6f10, .int 200, .int v37, .int v38]), (h10, ob 0 [.ref h6]), (q5, aJ (k 1) 12000 anJ), (q6, aI (k 0) 400 anI), (q7, aI (k 0) 400 anI), (q8, aI (k 0) 400 anI), (q9, aI (k 0) 1600 anI), (q10, aI (k 0) 1024 anI), (q11, aI (k 0) 400 (pfI (v37.toInt))), (q12, aJ (k 1) 60 anJ), (h6, ob 3 [.ref h29, .ref h30, .ref h31, .ref h32, .ref h33, .ref h34, .ref h35, .ref h36, .int h6f8, .int h6f9, .int h6f10, .int h6f11]), (h33, aI (k 0) 240 anI)] _ := hT
          have hT := hT.wk (q := 11) rfl (an_I (c := k 0) (n := 400))
          have hT : TP D A [(h1, ob 4 [.int h1f0, .int h1f1, .int h1f2, .ref h13]), (h0, ob 7 [.ref h1, .ref h2, .int h0f2, .ref h3, .ref h4, .ref h5, .int h0f6, .ref h6, .int h0f8, .ref q4, .ref h7, .int v37, .ref h8, .ref h9, .ref h10, .ref h11, .ref h12]), (q13, aJ (k 1) 60 anJ), (q4, ob 3 [.ref q5, .ref q6, .ref q7, .ref q8, .ref q9, .ref q10, .ref q11, .ref q12, .int h6f10, .int 200, .int v37, .int v38]), (h10, ob 0 [.ref h6]), (q5, aJ (k 1) 12000 anJ), (q6, aI (k 0) 400 anI), (q7, aI (k 0) 400 anI), (q8, aI (k 0) 400 anI), (q9, aI (k 0) 1600 anI), (q10, aI (k 0) 1024 anI), (q11, aI (k 0) 400 anI), (q12, aJ (k 1) 60 anJ), (h6, ob 3 [.ref h29, .ref h30, .ref h31, .ref h32, .ref h33, .ref h34, .ref h35, .ref h36, .int h6f8, .int h6f9, .int h6f10, .int h6f11]), (h33, aI (k 0) 240 anI)] _ := hT
          exact tz_retI (B := B_cX10_roundOfTrail_b52be D k h0 h1 h6 h10 h33 h2 h3 h4 h5 h7 h8 h9 h11 h12 h13 h29 h30 h31 h32 h34 h35 h36 h0f2 h0f6 h0f8 h0f11 h1f0 h1f1 h1f2 h6f8 h6f9 h6f10 h6f11) (v := v37) hQ hx hb hr hlocks hS (Nat.le_of_ble_eq_true rfl) (Nat.le_of_ble_eq_true rfl) dX10_roundOfTrail_83 (Or.inr (⟨q4, q5, q6, q7, q8, q9, q10, q11, q12, v37, v37, v38, (by omega), (by omega), (by omega), (by omega), (hT.sub [1, 0, 13, 4, 14, 3, 5, 6, 7, 8, 9, 10, 11, 12] (by decide) rfl)⟩))
        · skip
          have c_26 := ni_nle c_26 li_60 rfl
          refine lv_aload_n hx hb dX10_roundOfTrail_35 rfl (lv_at hl 2 rfl) ?_
          refine lv_iload_n hx hb dX10_roundOfTrail_36 rfl (lv_at hl 3 rfl) ?_
          refine lv_iload_n hx hb dX10_roundOfTrail_37 rfl (lv_at hl 3 rfl) ?_
          obtain ⟨v39, e_v39⟩ : ∃ x : Int64, y24.toInt64 = x := ⟨_, rfl⟩
          refine lv_i2l (v := v39) hx hb dX10_roundOfTrail_38 e_v39 ?_
          have e_v39 := ai_i2l e_v39 rfl
          refine tz_last hx hb hK hT hS 14 rfl (by omega) (fun _ _ => trivial) dX10_roundOfTrail_39 (fun H locs hT hS => ?_)
          obtain ⟨v40, e_v40⟩ : ∃ x : Int32, x = y24 + Int32.ofInt 1 := ⟨_, rfl⟩
          have f_v40 := e_v40.symm
          have e_v40 : v40.toInt = y24.toInt + 1 := ai_add e_v40 rfl (show (Int32.ofInt 1).toInt = 1 from (by decide +kernel)) (by omega)
          refine lv_iinc (v := v40) (lv' := [(3, .int v40), (0, .ref h0), (1, .ref q4), (2, .ref q13)]) hx hb dX10_roundOfTrail_40 hl (k := 3) rfl f_v40 (by decide) rfl (fun ls hl => ?_)
          refine lv_goto (tgt := 29) hx hb dX10_roundOfTrail_43 (by decide) ?_
          exact ih29_25 v40 _ _ _ (by omega)  (by omega) hT hS (lv_sub hl [1, 2, 3, 0] rfl)
    exact lp29_25 (((-1) * (0 : Int32).toInt + 60 + 1).toNat + 1) (0) _ _ _ (by have := li_0; omega)  (Nat.lt_succ_self _) hT hS (lv_sub hl [3, 2, 1, 0] rfl)
abbrev Rm_cX10_round_53f3f : Room := { frames := 6, cells := 10, slots := 16356, locals := 140 }
abbrev B_cX10_round_53f3f (D : va_G) (k : Nat → ClassId) (h0 h1 h6 h10 h33 h2 h3 h4 h5 h7 h8 h9 h11 h12 h13 h29 h30 h31 h32 h34 h35 h36 : Nat) (x1 : Int32) (h0f2 : Int32) (h0f6 : Int32) (h0f8 : Int32) (h0f11 : Int32) (h1f0 : Int32) (h1f1 : Int32) (h1f2 : Int32) (h6f8 : Int32) (h6f9 : Int32) (h6f10 : Int32) (h6f11 : Int32) (A : Nat → Prop) (r : Int32) (H : Heap) : Prop := (((-3) ≤ r.toInt ∧ r.toInt ≤ 200) ∧ TP D A [(h0, ob 7 [.ref h1, .ref h2, .int h0f2, .ref h3, .ref h4, .ref h5, .int h0f6, .ref h6, .int h0f8, .null, .ref h7, .int h0f11, .ref h8, .ref h9, .ref h10, .ref h11, .ref h12]), (h1, ob 4 [.int h1f0, .int h1f1, .int h1f2, .ref h13]), (h6, ob 3 [.ref h29, .ref h30, .ref h31, .ref h32, .ref h33, .ref h34, .ref h35, .ref h36, .int h6f8, .int h6f9, .int h6f10, .int h6f11]), (h10, ob 0 [.ref h6]), (h33, aI (k 0) 240 anI)] H) ∨ (∃ n0 : Nat, ∃ n1 : Nat, ∃ n2 : Nat, ∃ n3 : Nat, ∃ n4 : Nat, ∃ n5 : Nat, ∃ n6 : Nat, ∃ n7 : Nat, ∃ n8 : Nat, ∃ o0 : Int32, ∃ o1 : Int32, ∃ o2 : Int32, (1 ≤ o0.toInt ∧ o0.toInt ≤ 200) ∧ (1 ≤ o1.toInt ∧ o1.toInt ≤ 200) ∧ (0 ≤ o2.toInt ∧ o2.toInt ≤ 1) ∧ (1 ≤ r.toInt ∧ r.toInt ≤ 200) ∧ TP D A [(h0, ob 7 [.ref h1, .ref h2, .int h0f2, .ref h3, .ref h4, .ref h5, .int h0f6, .ref h6, .int h0f8, .ref n0, .ref h7, .int o0, .ref h8, .ref h9, .ref h10, .ref h11, .ref h12]), (h1, ob 4 [.int h1f0, .int h1f1, .int h1f2, .ref h13]), (h6, ob 3 [.ref h29, .ref h30, .ref h31, .ref h32, .ref h33, .ref h34, .ref h35, .ref h36, .int h6f8, .int h6f9, .int h6f10, .int h6f11]), (h10, ob 0 [.ref h6]), (h33, aI (k 0) 240 anI), (n0, ob 3 [.ref n1, .ref n2, .ref n3, .ref n4, .ref n5, .ref n6, .ref n7, .ref n8, .int h6f10, .int 200, .int o1, .int o2]), (n1, aJ (k 1) 12000 anJ), (n2, aI (k 0) 400 anI), (n3, aI (k 0) 400 anI), (n4, aI (k 0) 400 anI), (n5, aI (k 0) 1600 anI), (n6, aI (k 0) 1024 anI), (n7, aI (k 0) 400 anI), (n8, aJ (k 1) 60 anJ)] H)
set_option maxHeartbeats 4000000 in
set_option maxRecDepth 100000 in
theorem cX10_round_53f3f (l : Launch) (D : va_G) (k : Nat → ClassId) (sz : Nat) (h0 h1 h6 h10 h33 h2 h3 h4 h5 h7 h8 h9 h11 h12 h13 h29 h30 h31 h32 h34 h35 h36 : Nat) (x1 : Int32) (h0f2 : Int32) (h0f6 : Int32) (h0f8 : Int32) (h0f11 : Int32) (h1f0 : Int32) (h1f1 : Int32) (h1f2 : Int32) (h6f8 : Int32) (h6f9 : Int32) (h6f10 : Int32) (h6f11 : Int32) (b_h0f2 : 0 ≤ h0f2.toInt ∧ h0f2.toInt ≤ 1) (b_h0f6 : 0 ≤ h0f6.toInt ∧ h0f6.toInt ≤ 1) (b_h0f8 : 0 ≤ h0f8.toInt ∧ h0f8.toInt ≤ 1) (b_h0f11 : 0 ≤ h0f11.toInt ∧ h0f11.toInt ≤ 200) (b_h1f0 : 1 ≤ h1f0.toInt ∧ h1f0.toInt ≤ 3) (b_h1f1 : 0 ≤ h1f1.toInt ∧ h1f1.toInt ≤ 4) (b_h6f8 : 0 ≤ h6f8.toInt ∧ h6f8.toInt ≤ 3) (b_h6f9 : 0 ≤ h6f9.toInt ∧ h6f9.toInt ≤ 60) (b_h6f10 : 0 ≤ h6f10.toInt ∧ h6f10.toInt ≤ 60) (b_h6f11 : 0 ≤ h6f11.toInt ∧ h6f11.toInt ≤ 1) : Met l yX10_round (Cond.code yX10_round cX10_round 2 (some .int) :: uw) Rm_cX10_round_53f3f (pT D k sz [.ref h0, .int x1] [(h0, ob 7 [.ref h1, .ref h2, .int h0f2, .ref h3, .ref h4, .ref h5, .int h0f6, .ref h6, .int h0f8, .null, .ref h7, .int h0f11, .ref h8, .ref h9, .ref h10, .ref h11, .ref h12]), (h1, ob 4 [.int h1f0, .int h1f1, .int h1f2, .ref h13]), (h6, ob 3 [.ref h29, .ref h30, .ref h31, .ref h32, .ref h33, .ref h34, .ref h35, .ref h36, .int h6f8, .int h6f9, .int h6f10, .int h6f11]), (h10, ob 0 [.ref h6]), (h33, aI (k 0) 240 anI)]) (qI (B_cX10_round_53f3f D k h0 h1 h6 h10 h33 h2 h3 h4 h5 h7 h8 h9 h11 h12 h13 h29 h30 h31 h32 h34 h35 h36 x1 h0f2 h0f6 h0f8 h0f11 h1f0 h1f1 h1f2 h6f8 h6f9 h6f10 h6f11 (zA [h0, h1, h6, h10, h33] sz)) (zA [h0, h1, h6, h10, h33] sz)) 10 16356 (zA [h0, h1, h6, h10, h33] sz) := by
  refine tz_begin (as := [h0, h1, h6, h10, h33]) (Qc := fun A => qI (B_cX10_round_53f3f D k h0 h1 h6 h10 h33 h2 h3 h4 h5 h7 h8 h9 h11 h12 h13 h29 h30 h31 h32 h34 h35 h36 x1 h0f2 h0f6 h0f8 h0f11 h1f0 h1f1 h1f2 h6f8 h6f9 h6f10 h6f11 A) A) (by decide +kernel) rfl (Nat.le_of_ble_eq_true rfl) ?_
  intro p e s m args below meth c ls A Q hx hb hr hml hown hlocks hin hU hK hT hS hA hl hQ
  have hl : lv_has ls 2 [(0, .ref h0), (1, .int x1)] := hl
  have hT : TP D A [(h0, ob 7 [.ref h1, .ref h2, .int h0f2, .ref h3, .ref h4, .ref h5, .int h0f6, .ref h6, .int h0f8, .null, .ref h7, .int h0f11, .ref h8, .ref h9, .ref h10, .ref h11, .ref h12]), (h1, ob 4 [.int h1f0, .int h1f1, .int h1f2, .ref h13]), (h6, ob 3 [.ref h29, .ref h30, .ref h31, .ref h32, .ref h33, .ref h34, .ref h35, .ref h36, .int h6f8, .int h6f9, .int h6f10, .int h6f11]), (h10, ob 0 [.ref h6]), (h33, aI (k 0) 240 anI)] s.heap := hT
  refine lv_iload_n hx hb dX10_round_0 rfl (lv_at hl 1 rfl) ?_
  refine lv_if_lt (tgt := 9) hx hb dX10_round_1 (by decide) (fun c_1 => ?_) (fun c_1 => ?_)
  · skip
    have c_1 := ni_lt c_1 rfl li_0
    refine lv_iconst (v := (-1)) hx hb dX10_round_9 (by decide) ?_
    exact tz_retI (B := B_cX10_round_53f3f D k h0 h1 h6 h10 h33 h2 h3 h4 h5 h7 h8 h9 h11 h12 h13 h29 h30 h31 h32 h34 h35 h36 x1 h0f2 h0f6 h0f8 h0f11 h1f0 h1f1 h1f2 h6f8 h6f9 h6f10 h6f11) (v := (-1)) hQ hx hb hr hlocks hS (Nat.le_of_ble_eq_true rfl) (Nat.le_of_ble_eq_true rfl) dX10_round_10 (Or.inl ⟨(by have := li_m1; omega), hT⟩)
  · skip
    have c_1 := ni_nlt c_1 rfl li_0
    refine lv_iload_n hx hb dX10_round_4 rfl (lv_at hl 1 rfl) ?_
    refine lv_iconst (v := 2) hx hb dX10_round_5 (by decide) ?_
    refine lv_icmp_le (tgt := 11) hx hb dX10_round_6 (by decide) (fun c_2 => ?_) (fun c_2 => ?_)
    · skip
      have c_2 := ni_le c_2 rfl li_2
      refine lv_aload_n hx hb dX10_round_11 rfl (lv_at hl 0 rfl) ?_
      refine tz_get (ci := 7) (v := .int h0f8) (C := RX10) (F := TX10) (N := 17) hx hb hU iX10 hown hK hT 0 rfl rfl 8 (by decide) w257 (fun _ h9 => h9) rfl dX10_round_12 ?_
      refine lv_if_ne (tgt := 21) hx hb dX10_round_15 (by decide) (fun c_3 => ?_) (fun c_3 => ?_)
      · skip
        have c_3 := ni_ne c_3 rfl li_0
        refine lv_iload_n hx hb dX10_round_21 rfl (lv_at hl 1 rfl) ?_
        refine lv_if_ne (tgt := 33) hx hb dX10_round_22 (by decide) (fun c_4 => ?_) (fun c_4 => ?_)
        · skip
          have c_4 := ni_ne c_4 rfl li_0
          refine lv_iload_n hx hb dX10_round_33 rfl (lv_at hl 1 rfl) ?_
          refine lv_iconst (v := 1) hx hb dX10_round_34 (by decide) ?_
          refine lv_icmp_ne (tgt := 54) hx hb dX10_round_35 (by decide) (fun c_5 => ?_) (fun c_5 => ?_)
          · skip
            have c_5 := ni_ne c_5 rfl li_1
            refine lv_aload_n hx hb dX10_round_54 rfl (lv_at hl 0 rfl) ?_
            refine tz_get (ci := 7) (v := .ref h6) (C := RX10) (F := TX10) (N := 17) hx hb hU iX10 hown hK hT 0 rfl rfl 7 (by decide) w256 (fun _ h9 => h9) rfl dX10_round_55 ?_
            refine tz_get (ci := 3) (v := .int h6f11) (C := RX4) (F := TX4) (N := 12) hx hb hU iX4 hown hK hT 2 rfl rfl 11 (by decide) w168 (fun _ h9 => h9) rfl dX10_round_58 ?_
            refine lv_if_eq (tgt := 71) hx hb dX10_round_61 (by decide) (fun c_6 => ?_) (fun c_6 => ?_)
            · skip
              have c_6 := ni_eq c_6 rfl li_0
              refine lv_bipush (v := (-3)) hx hb dX10_round_71 (by decide) ?_
              exact tz_retI (B := B_cX10_round_53f3f D k h0 h1 h6 h10 h33 h2 h3 h4 h5 h7 h8 h9 h11 h12 h13 h29 h30 h31 h32 h34 h35 h36 x1 h0f2 h0f6 h0f8 h0f11 h1f0 h1f1 h1f2 h6f8 h6f9 h6f10 h6f11) (v := (-3)) hQ hx hb hr hlocks hS (Nat.le_of_ble_eq_true rfl) (Nat.le_of_ble_eq_true rfl) dX10_round_73 (Or.inl ⟨(by have := li_m3; omega), hT⟩)
            · skip
              have c_6 := ni_ne c_6 rfl li_0
              refine lv_aload_n hx hb dX10_round_64 rfl (lv_at hl 0 rfl) ?_
              refine tcI (Tc := [(h0, ob 7 [.ref h1, .ref h2, .int h0f2, .ref h3, .ref h4, .ref h5, .int h0f6, .ref h6, .int h0f8, .null, .ref h7, .int h0f11, .ref h8, .ref h9, .ref h10, .ref h11, .ref h12]), (h1, ob 4 [.int h1f0, .int h1f1, .int h1f2, .ref h13]), (h6, ob 3 [.ref h29, .ref h30, .ref h31, .ref h32, .ref h33, .ref h34, .ref h35, .ref h36, .int h6f8, .int h6f9, .int h6f10, .int h6f11]), (h10, ob 0 [.ref h6]), (h33, aI (k 0) 240 anI)]) (Tr := []) (as := [h0, h1, h6, h10, h33]) (zcV (q0 := 0) (ci := 7) (As := []) (rest := []) (Tc := [(h0, ob 7 [.ref h1, .ref h2, .int h0f2, .ref h3, .ref h4, .ref h5, .int h0f6, .ref h6, .int h0f8, .null, .ref h7, .int h0f11, .ref h8, .ref h9, .ref h10, .ref h11, .ref h12]), (h1, ob 4 [.int h1f0, .int h1f1, .int h1f2, .ref h13]), (h6, ob 3 [.ref h29, .ref h30, .ref h31, .ref h32, .ref h33, .ref h34, .ref h35, .ref h36, .int h6f8, .int h6f9, .int h6f10, .int h6f11]), (h10, ob 0 [.ref h6]), (h33, aI (k 0) 240 anI)]) hx hb hml hown hU hK hT rfl rfl [0, 1, 2, 3, 4] rfl (by decide) (cX10_roundOfTrail_b52be l D k _ h0 h1 h6 h10 h33 h2 h3 h4 h5 h7 h8 h9 h11 h12 h13 h29 h30 h31 h32 h34 h35 h36 h0f2 h0f6 h0f8 h0f11 h1f0 h1f1 h1f2 h6f8 h6f9 h6f10 h6f11 (by omega) (by omega) (by omega) (by omega) (by omega) (by omega) (by omega) (by omega) (by omega) (by omega)) w707 w704 w706 w25 w63 hdX10_roundOfTrail ⟨rfl, rfl⟩ ⟨Nat.le_of_ble_eq_true rfl, Nat.le_of_ble_eq_true rfl⟩ rfl hl.1 (Nat.le_of_ble_eq_true rfl) dX10_round_65 ⟨Nat.le_of_ble_eq_true rfl, Nat.le_of_ble_eq_true rfl⟩) hT hS hA [0, 1, 2, 3, 4] [] rfl rfl rfl (by decide) (by decide) (fun r7 H locs hB J hS => ?_)
              rcases hB with ⟨rfl, hT1⟩ | ⟨q8, q9, q10, q11, q12, q13, q14, q15, q16, v17, v18, v19, b_v17, b_v18, b_v19, b_r7, hT1⟩
              · skip
                have hT := J _ hT1
                have hT : TP D A [(h0, ob 7 [.ref h1, .ref h2, .int h0f2, .ref h3, .ref h4, .ref h5, .int h0f6, .ref h6, .int h0f8, .null, .ref h7, .int h0f11, .ref h8, .ref h9, .ref h10, .ref h11, .ref h12]), (h1, ob 4 [.int h1f0, .int h1f1, .int h1f2, .ref h13]), (h6, ob 3 [.ref h29, .ref h30, .ref h31, .ref h32, .ref h33, .ref h34, .ref h35, .ref h36, .int h6f8, .int h6f9, .int h6f10, .int h6f11]), (h10, ob 0 [.ref h6]), (h33, aI (k 0) 240 anI)] _ := hT
                refine lv_goto (tgt := 73) hx hb dX10_round_68 (by decide) ?_
                exact tz_retI (B := B_cX10_round_53f3f D k h0 h1 h6 h10 h33 h2 h3 h4 h5 h7 h8 h9 h11 h12 h13 h29 h30 h31 h32 h34 h35 h36 x1 h0f2 h0f6 h0f8 h0f11 h1f0 h1f1 h1f2 h6f8 h6f9 h6f10 h6f11) (v := h0f11) hQ hx hb hr hlocks hS (Nat.le_of_ble_eq_true rfl) (Nat.le_of_ble_eq_true rfl) dX10_round_73 (Or.inl ⟨(by omega), hT⟩)
              · skip
                have hT := J _ hT1
                have hT : TP D A [(h0, ob 7 [.ref h1, .ref h2, .int h0f2, .ref h3, .ref h4, .ref h5, .int h0f6, .ref h6, .int h0f8, .ref q8, .ref h7, .int v17, .ref h8, .ref h9, .ref h10, .ref h11, .ref h12]), (h1, ob 4 [.int h1f0, .int h1f1, .int h1f2, .ref h13]), (h6, ob 3 [.ref h29, .ref h30, .ref h31, .ref h32, .ref h33, .ref h34, .ref h35, .ref h36, .int h6f8, .int h6f9, .int h6f10, .int h6f11]), (h10, ob 0 [.ref h6]), (h33, aI (k 0) 240 anI), (q8, ob 3 [.ref q9, .ref q10, .ref q11, .ref q12, .ref q13, .ref q14, .ref q15, .ref q16, .int h6f10, .int 200, .int v18, .int v19]), (q9, aJ (k 1) 12000 anJ), (q10, aI (k 0) 400 anI), (q11, aI (k 0) 400 anI), (q12, aI (k 0) 400 anI), (q13, aI (k 0) 1600 anI), (q14, aI (k 0) 1024 anI), (q15, aI (k 0) 400 anI), (q16, aJ (k 1) 60 anJ)] _ := hT
                refine lv_goto (tgt := 73) hx hb dX10_round_68 (by decide) ?_
                exact tz_retI (B := B_cX10_round_53f3f D k h0 h1 h6 h10 h33 h2 h3 h4 h5 h7 h8 h9 h11 h12 h13 h29 h30 h31 h32 h34 h35 h36 x1 h0f2 h0f6 h0f8 h0f11 h1f0 h1f1 h1f2 h6f8 h6f9 h6f10 h6f11) (v := r7) hQ hx hb hr hlocks hS (Nat.le_of_ble_eq_true rfl) (Nat.le_of_ble_eq_true rfl) dX10_round_73 (Or.inr (⟨q8, q9, q10, q11, q12, q13, q14, q15, q16, v17, v18, v19, (by omega), (by omega), (by omega), (by omega), hT⟩))
          · skip
            have c_5 := ni_eq c_5 rfl li_1
            refine lv_aload_n hx hb dX10_round_38 rfl (lv_at hl 0 rfl) ?_
            refine tz_get (ci := 7) (v := .ref h6) (C := RX10) (F := TX10) (N := 17) hx hb hU iX10 hown hK hT 0 rfl rfl 7 (by decide) w256 (fun _ h9 => h9) rfl dX10_round_39 ?_
            refine tz_get (ci := 3) (v := .int h6f11) (C := RX4) (F := TX4) (N := 12) hx hb hU iX4 hown hK hT 2 rfl rfl 11 (by decide) w168 (fun _ h9 => h9) rfl dX10_round_42 ?_
            refine lv_if_eq (tgt := 52) hx hb dX10_round_45 (by decide) (fun c_20 => ?_) (fun c_20 => ?_)
            · skip
              have c_20 := ni_eq c_20 rfl li_0
              refine lv_iconst (v := 0) hx hb dX10_round_52 (by decide) ?_
              exact tz_retI (B := B_cX10_round_53f3f D k h0 h1 h6 h10 h33 h2 h3 h4 h5 h7 h8 h9 h11 h12 h13 h29 h30 h31 h32 h34 h35 h36 x1 h0f2 h0f6 h0f8 h0f11 h1f0 h1f1 h1f2 h6f8 h6f9 h6f10 h6f11) (v := 0) hQ hx hb hr hlocks hS (Nat.le_of_ble_eq_true rfl) (Nat.le_of_ble_eq_true rfl) dX10_round_53 (Or.inl ⟨(by have := li_0; omega), hT⟩)
            · skip
              have c_20 := ni_ne c_20 rfl li_0
              refine lv_iconst (v := 1) hx hb dX10_round_48 (by decide) ?_
              refine lv_goto (tgt := 53) hx hb dX10_round_49 (by decide) ?_
              exact tz_retI (B := B_cX10_round_53f3f D k h0 h1 h6 h10 h33 h2 h3 h4 h5 h7 h8 h9 h11 h12 h13 h29 h30 h31 h32 h34 h35 h36 x1 h0f2 h0f6 h0f8 h0f11 h1f0 h1f1 h1f2 h6f8 h6f9 h6f10 h6f11) (v := 1) hQ hx hb hr hlocks hS (Nat.le_of_ble_eq_true rfl) (Nat.le_of_ble_eq_true rfl) dX10_round_53 (Or.inl ⟨(by have := li_1; omega), hT⟩)
        · skip
          have c_4 := ni_eq c_4 rfl li_0
          refine lv_aload_n hx hb dX10_round_25 rfl (lv_at hl 0 rfl) ?_
          refine tz_get (ci := 7) (v := .ref h6) (C := RX10) (F := TX10) (N := 17) hx hb hU iX10 hown hK hT 0 rfl rfl 7 (by decide) w256 (fun _ h9 => h9) rfl dX10_round_26 ?_
          refine tz_get (ci := 3) (v := .int h6f10) (C := RX4) (F := TX4) (N := 12) hx hb hU iX4 hown hK hT 2 rfl rfl 10 (by decide) w166 (fun _ h9 => h9) rfl dX10_round_29 ?_
          exact tz_retI (B := B_cX10_round_53f3f D k h0 h1 h6 h10 h33 h2 h3 h4 h5 h7 h8 h9 h11 h12 h13 h29 h30 h31 h32 h34 h35 h36 x1 h0f2 h0f6 h0f8 h0f11 h1f0 h1f1 h1f2 h6f8 h6f9 h6f10 h6f11) (v := h6f10) hQ hx hb hr hlocks hS (Nat.le_of_ble_eq_true rfl) (Nat.le_of_ble_eq_true rfl) dX10_round_32 (Or.inl ⟨(by omega), hT⟩)
      · skip
        have c_3 := ni_eq c_3 rfl li_0
        refine lv_bipush (v := (-3)) hx hb dX10_round_18 (by decide) ?_
        exact tz_retI (B := B_cX10_round_53f3f D k h0 h1 h6 h10 h33 h2 h3 h4 h5 h7 h8 h9 h11 h12 h13 h29 h30 h31 h32 h34 h35 h36 x1 h0f2 h0f6 h0f8 h0f11 h1f0 h1f1 h1f2 h6f8 h6f9 h6f10 h6f11) (v := (-3)) hQ hx hb hr hlocks hS (Nat.le_of_ble_eq_true rfl) (Nat.le_of_ble_eq_true rfl) dX10_round_20 (Or.inl ⟨(by have := li_m3; omega), hT⟩)
    · skip
      have c_2 := ni_nle c_2 rfl li_2
      refine lv_iconst (v := (-1)) hx hb dX10_round_9 (by decide) ?_
      exact tz_retI (B := B_cX10_round_53f3f D k h0 h1 h6 h10 h33 h2 h3 h4 h5 h7 h8 h9 h11 h12 h13 h29 h30 h31 h32 h34 h35 h36 x1 h0f2 h0f6 h0f8 h0f11 h1f0 h1f1 h1f2 h6f8 h6f9 h6f10 h6f11) (v := (-1)) hQ hx hb hr hlocks hS (Nat.le_of_ble_eq_true rfl) (Nat.le_of_ble_eq_true rfl) dX10_round_10 (Or.inl ⟨(by have := li_m1; omega), hT⟩)
abbrev Rm_cX10_roundOfTrail_4ce37 : Room := { frames := 5, cells := 1, slots := 60, locals := 117 }
abbrev B_cX10_roundOfTrail_4ce37 (D : va_G) (k : Nat → ClassId) (h0 h1 h6 h7 h11 h34 h38 h39 h40 h41 h42 h43 h44 h45 h2 h3 h4 h5 h8 h9 h10 h12 h13 h14 h30 h31 h32 h33 h35 h36 h37 : Nat) (h0f2 : Int32) (h0f6 : Int32) (h0f8 : Int32) (h0f11 : Int32) (h1f0 : Int32) (h1f1 : Int32) (h1f2 : Int32) (h6f8 : Int32) (h6f9 : Int32) (h6f10 : Int32) (h6f11 : Int32) (h7f8 : Int32) (h7f9 : Int32) (h7f10 : Int32) (h7f11 : Int32) (A : Nat → Prop) (r : Int32) (H : Heap) : Prop := ∃ o0 : Int32, ∃ o1 : Int32, ∃ o2 : Int32, ∃ o3 : Int32, ∃ o4 : Int32, (1 ≤ o0.toInt ∧ o0.toInt ≤ 200) ∧ (0 ≤ o1.toInt ∧ o1.toInt ≤ 60) ∧ (0 ≤ o2.toInt ∧ o2.toInt ≤ 400) ∧ (0 ≤ o3.toInt ∧ o3.toInt ≤ 400) ∧ (0 ≤ o4.toInt ∧ o4.toInt ≤ 1) ∧ (1 ≤ r.toInt ∧ r.toInt ≤ 200) ∧ TP D A [(h0, ob 7 [.ref h1, .ref h2, .int h0f2, .ref h3, .ref h4, .ref h5, .int h0f6, .ref h6, .int h0f8, .ref h7, .ref h8, .int o0, .ref h9, .ref h10, .ref h11, .ref h12, .ref h13]), (h1, ob 4 [.int h1f0, .int h1f1, .int h1f2, .ref h14]), (h6, ob 3 [.ref h30, .ref h31, .ref h32, .ref h33, .ref h34, .ref h35, .ref h36, .ref h37, .int h6f8, .int h6f9, .int h6f10, .int h6f11]), (h7, ob 3 [.ref h38, .ref h39, .ref h40, .ref h41, .ref h42, .ref h43, .ref h44, .ref h45, .int o1, .int o2, .int o3, .int o4]), (h11, ob 0 [.ref h6]), (h34, aI (k 0) 240 anI), (h38, aJ (k 1) 12000 anJ), (h39, aI (k 0) 400 anI), (h40, aI (k 0) 400 anI), (h41, aI (k 0) 400 anI), (h42, aI (k 0) 1600 anI), (h43, aI (k 0) 1024 anI), (h44, aI (k 0) 400 anI), (h45, aJ (k 1) 60 anJ)] H
set_option maxHeartbeats 4000000 in
set_option maxRecDepth 100000 in
theorem cX10_roundOfTrail_4ce37 (l : Launch) (D : va_G) (k : Nat → ClassId) (sz : Nat) (h0 h1 h6 h7 h11 h34 h38 h39 h40 h41 h42 h43 h44 h45 h2 h3 h4 h5 h8 h9 h10 h12 h13 h14 h30 h31 h32 h33 h35 h36 h37 : Nat) (h0f2 : Int32) (h0f6 : Int32) (h0f8 : Int32) (h0f11 : Int32) (h1f0 : Int32) (h1f1 : Int32) (h1f2 : Int32) (h6f8 : Int32) (h6f9 : Int32) (h6f10 : Int32) (h6f11 : Int32) (h7f8 : Int32) (h7f9 : Int32) (h7f10 : Int32) (h7f11 : Int32) (b_h0f2 : 0 ≤ h0f2.toInt ∧ h0f2.toInt ≤ 1) (b_h0f6 : 0 ≤ h0f6.toInt ∧ h0f6.toInt ≤ 1) (b_h0f8 : 1 ≤ h0f8.toInt ∧ h0f8.toInt ≤ 1) (b_h0f11 : 0 ≤ h0f11.toInt ∧ h0f11.toInt ≤ 200) (b_h1f0 : 1 ≤ h1f0.toInt ∧ h1f0.toInt ≤ 3) (b_h1f1 : 0 ≤ h1f1.toInt ∧ h1f1.toInt ≤ 4) (b_h6f8 : 0 ≤ h6f8.toInt ∧ h6f8.toInt ≤ 3) (b_h6f9 : 0 ≤ h6f9.toInt ∧ h6f9.toInt ≤ 60) (b_h6f10 : 0 ≤ h6f10.toInt ∧ h6f10.toInt ≤ 60) (b_h6f11 : 1 ≤ h6f11.toInt ∧ h6f11.toInt ≤ 1) (b_h7f8 : 0 ≤ h7f8.toInt ∧ h7f8.toInt ≤ 60) (b_h7f9 : 0 ≤ h7f9.toInt ∧ h7f9.toInt ≤ 400) (b_h7f10 : 0 ≤ h7f10.toInt ∧ h7f10.toInt ≤ 400) (b_h7f11 : 0 ≤ h7f11.toInt ∧ h7f11.toInt ≤ 1) : Met l yX10_roundOfTrail (Cond.code yX10_roundOfTrail cX10_roundOfTrail 4 (some .int) :: uw) Rm_cX10_roundOfTrail_4ce37 (pT D k sz [.ref h0] [(h0, ob 7 [.ref h1, .ref h2, .int h0f2, .ref h3, .ref h4, .ref h5, .int h0f6, .ref h6, .int h0f8, .ref h7, .ref h8, .int h0f11, .ref h9, .ref h10, .ref h11, .ref h12, .ref h13]), (h1, ob 4 [.int h1f0, .int h1f1, .int h1f2, .ref h14]), (h6, ob 3 [.ref h30, .ref h31, .ref h32, .ref h33, .ref h34, .ref h35, .ref h36, .ref h37, .int h6f8, .int h6f9, .int h6f10, .int h6f11]), (h7, ob 3 [.ref h38, .ref h39, .ref h40, .ref h41, .ref h42, .ref h43, .ref h44, .ref h45, .int h7f8, .int h7f9, .int h7f10, .int h7f11]), (h11, ob 0 [.ref h6]), (h34, aI (k 0) 240 anI), (h38, aJ (k 1) 12000 anJ), (h39, aI (k 0) 400 anI), (h40, aI (k 0) 400 anI), (h41, aI (k 0) 400 anI), (h42, aI (k 0) 1600 anI), (h43, aI (k 0) 1024 anI), (h44, aI (k 0) 400 anI), (h45, aJ (k 1) 60 anJ)]) (qI (B_cX10_roundOfTrail_4ce37 D k h0 h1 h6 h7 h11 h34 h38 h39 h40 h41 h42 h43 h44 h45 h2 h3 h4 h5 h8 h9 h10 h12 h13 h14 h30 h31 h32 h33 h35 h36 h37 h0f2 h0f6 h0f8 h0f11 h1f0 h1f1 h1f2 h6f8 h6f9 h6f10 h6f11 h7f8 h7f9 h7f10 h7f11 (zA [h0, h1, h6, h7, h11, h34, h38, h39, h40, h41, h42, h43, h44, h45] sz)) (zA [h0, h1, h6, h7, h11, h34, h38, h39, h40, h41, h42, h43, h44, h45] sz)) 1 60 (zA [h0, h1, h6, h7, h11, h34, h38, h39, h40, h41, h42, h43, h44, h45] sz) := by
  refine tz_begin (as := [h0, h1, h6, h7, h11, h34, h38, h39, h40, h41, h42, h43, h44, h45]) (Qc := fun A => qI (B_cX10_roundOfTrail_4ce37 D k h0 h1 h6 h7 h11 h34 h38 h39 h40 h41 h42 h43 h44 h45 h2 h3 h4 h5 h8 h9 h10 h12 h13 h14 h30 h31 h32 h33 h35 h36 h37 h0f2 h0f6 h0f8 h0f11 h1f0 h1f1 h1f2 h6f8 h6f9 h6f10 h6f11 h7f8 h7f9 h7f10 h7f11 A) A) (by decide +kernel) rfl (Nat.le_of_ble_eq_true rfl) ?_
  intro p e s m args below meth c ls A Q hx hb hr hml hown hlocks hin hU hK hT hS hA hl hQ
  have hl : lv_has ls 4 [(0, .ref h0)] := hl
  have hT : TP D A [(h0, ob 7 [.ref h1, .ref h2, .int h0f2, .ref h3, .ref h4, .ref h5, .int h0f6, .ref h6, .int h0f8, .ref h7, .ref h8, .int h0f11, .ref h9, .ref h10, .ref h11, .ref h12, .ref h13]), (h1, ob 4 [.int h1f0, .int h1f1, .int h1f2, .ref h14]), (h6, ob 3 [.ref h30, .ref h31, .ref h32, .ref h33, .ref h34, .ref h35, .ref h36, .ref h37, .int h6f8, .int h6f9, .int h6f10, .int h6f11]), (h7, ob 3 [.ref h38, .ref h39, .ref h40, .ref h41, .ref h42, .ref h43, .ref h44, .ref h45, .int h7f8, .int h7f9, .int h7f10, .int h7f11]), (h11, ob 0 [.ref h6]), (h34, aI (k 0) 240 anI), (h38, aJ (k 1) 12000 anJ), (h39, aI (k 0) 400 anI), (h40, aI (k 0) 400 anI), (h41, aI (k 0) 400 anI), (h42, aI (k 0) 1600 anI), (h43, aI (k 0) 1024 anI), (h44, aI (k 0) 400 anI), (h45, aJ (k 1) 60 anJ)] s.heap := hT
  refine lv_aload_n hx hb dX10_roundOfTrail_0 rfl (lv_at hl 0 rfl) ?_
  refine tz_get (ci := 7) (v := .int h0f11) (C := RX10) (F := TX10) (N := 17) hx hb hU iX10 hown hK hT 0 rfl rfl 11 (by decide) w260 (fun _ h9 => h9) rfl dX10_roundOfTrail_1 ?_
  refine lv_if_ne (tgt := 79) hx hb dX10_roundOfTrail_4 (by decide) (fun c_1 => ?_) (fun c_1 => ?_)
  · skip
    have c_1 := ni_ne c_1 rfl li_0
    refine lv_aload_n hx hb dX10_roundOfTrail_79 rfl (lv_at hl 0 rfl) ?_
    refine tz_get (ci := 7) (v := .int h0f11) (C := RX10) (F := TX10) (N := 17) hx hb hU iX10 hown hK hT 0 rfl rfl 11 (by decide) w260 (fun _ h9 => h9) rfl dX10_roundOfTrail_80 ?_
    exact tz_retI (B := B_cX10_roundOfTrail_4ce37 D k h0 h1 h6 h7 h11 h34 h38 h39 h40 h41 h42 h43 h44 h45 h2 h3 h4 h5 h8 h9 h10 h12 h13 h14 h30 h31 h32 h33 h35 h36 h37 h0f2 h0f6 h0f8 h0f11 h1f0 h1f1 h1f2 h6f8 h6f9 h6f10 h6f11 h7f8 h7f9 h7f10 h7f11) (v := h0f11) hQ hx hb hr hlocks hS (Nat.le_of_ble_eq_true rfl) (Nat.le_of_ble_eq_true rfl) dX10_roundOfTrail_83 (⟨h0f11, h7f8, h7f9, h7f10, h7f11, (by omega), (by omega), (by omega), (by omega), (by omega), (by omega), hT⟩)
  · skip
    have c_1 := ni_eq c_1 rfl li_0
    refine lv_aload_n hx hb dX10_roundOfTrail_7 rfl (lv_at hl 0 rfl) ?_
    refine lv_aload_n hx hb dX10_roundOfTrail_8 rfl (lv_at hl 0 rfl) ?_
    refine tz_get (ci := 7) (v := .ref h6) (C := RX10) (F := TX10) (N := 17) hx hb hU iX10 hown hK hT 0 rfl rfl 7 (by decide) w256 (fun _ h9 => h9) rfl dX10_roundOfTrail_9 ?_
    refine tz_get (ci := 3) (v := .int h6f10) (C := RX4) (F := TX4) (N := 12) hx hb hU iX4 hown hK hT 2 rfl rfl 10 (by decide) w166 (fun _ h9 => h9) rfl dX10_roundOfTrail_12 ?_
    refine lv_sipush (v := 200) hx hb dX10_roundOfTrail_15 (by decide) ?_
    have q_q3 := li_200
    refine tcR (Tc := [(h0, ob 7 [.ref h1, .ref h2, .int h0f2, .ref h3, .ref h4, .ref h5, .int h0f6, .ref h6, .int h0f8, .ref h7, .ref h8, .int h0f11, .ref h9, .ref h10, .ref h11, .ref h12, .ref h13]), (h7, ob 3 [.ref h38, .ref h39, .ref h40, .ref h41, .ref h42, .ref h43, .ref h44, .ref h45, .int h7f8, .int h7f9, .int h7f10, .int h7f11]), (h43, aI (k 0) 1024 anI), (h44, aI (k 0) 400 anI)]) (Tr := [(h1, ob 4 [.int h1f0, .int h1f1, .int h1f2, .ref h14]), (h6, ob 3 [.ref h30, .ref h31, .ref h32, .ref h33, .ref h34, .ref h35, .ref h36, .ref h37, .int h6f8, .int h6f9, .int h6f10, .int h6f11]), (h11, ob 0 [.ref h6]), (h34, aI (k 0) 240 anI), (h38, aJ (k 1) 12000 anJ), (h39, aI (k 0) 400 anI), (h40, aI (k 0) 400 anI), (h41, aI (k 0) 400 anI), (h42, aI (k 0) 1600 anI), (h45, aJ (k 1) 60 anJ)]) (as := [h0, h7, h43, h44]) (zcV (q0 := 0) (ci := 7) (As := [.int h6f10, .int 200]) (rest := []) (Tc := [(h0, ob 7 [.ref h1, .ref h2, .int h0f2, .ref h3, .ref h4, .ref h5, .int h0f6, .ref h6, .int h0f8, .ref h7, .ref h8, .int h0f11, .ref h9, .ref h10, .ref h11, .ref h12, .ref h13]), (h7, ob 3 [.ref h38, .ref h39, .ref h40, .ref h41, .ref h42, .ref h43, .ref h44, .ref h45, .int h7f8, .int h7f9, .int h7f10, .int h7f11]), (h43, aI (k 0) 1024 anI), (h44, aI (k 0) 400 anI)]) hx hb hml hown hU hK hT rfl rfl [0, 3, 11, 12] rfl (by decide) (cX10_clearBench_b283c l D k _ h0 h7 h43 h44 h1 h2 h3 h4 h5 h6 h8 h9 h10 h11 h12 h13 h38 h39 h40 h41 h42 h45 h6f10 (200) h0f2 h0f6 h0f8 h0f11 h7f8 h7f9 h7f10 h7f11 (by omega) (by have := li_200; omega) (by omega) (by omega) (by omega) (by omega) (by omega) (by omega) (by omega) (by omega)) w672 w669 w671 w22 w63 hdX10_clearBench ⟨rfl, rfl⟩ ⟨Nat.le_of_ble_eq_true rfl, Nat.le_of_ble_eq_true rfl⟩ rfl hl.1 (Nat.le_of_ble_eq_true rfl) dX10_roundOfTrail_18 ⟨Nat.le_of_ble_eq_true rfl, Nat.le_of_ble_eq_true rfl⟩) hT hS hA [0, 3, 11, 12] [1, 2, 4, 5, 6, 7, 8, 9, 10, 13] rfl rfl rfl (by decide) (by decide) (fun r2 H locs hB J hS => ?_)
    obtain ⟨rfl, hT1⟩ := hB
    have hT := J _ hT1
    have hT : TP D A [(h1, ob 4 [.int h1f0, .int h1f1, .int h1f2, .ref h14]), (h6, ob 3 [.ref h30, .ref h31, .ref h32, .ref h33, .ref h34, .ref h35, .ref h36, .ref h37, .int h6f8, .int h6f9, .int h6f10, .int h6f11]), (h11, ob 0 [.ref h6]), (h34, aI (k 0) 240 anI), (h38, aJ (k 1) 12000 anJ), (h39, aI (k 0) 400 anI), (h40, aI (k 0) 400 anI), (h41, aI (k 0) 400 anI), (h42, aI (k 0) 1600 anI), (h45, aJ (k 1) 60 anJ), (h0, ob 7 [.ref h1, .ref h2, .int h0f2, .ref h3, .ref h4, .ref h5, .int h0f6, .ref h6, .int h0f8, .ref h7, .ref h8, .int h0f11, .ref h9, .ref h10, .ref h11, .ref h12, .ref h13]), (h7, ob 3 [.ref h38, .ref h39, .ref h40, .ref h41, .ref h42, .ref h43, .ref h44, .ref h45, .int h6f10, .int 200, .int 0, .int 0]), (h43, aI (k 0) 1024 (rgI (-1) (0 - 1))), (h44, aI (k 0) 400 (pfI (0)))] _ := hT
    refine lv_astore_n (lv' := [(1, .ref h7), (0, .ref h0)]) hx hb dX10_roundOfTrail_21 rfl hl (by decide) rfl (fun ls hl => ?_)
    refine lv_bipush (v := 60) hx hb dX10_roundOfTrail_22 (by decide) ?_
    refine tz_nal (N := 60) hx hb hU w113 hK hT hS hA (by decide +kernel) (by decide +kernel) (Nat.le_of_ble_eq_true rfl) (Nat.le_of_ble_eq_true rfl) (Nat.le_of_ble_eq_true rfl) dX10_roundOfTrail_24 (fun q4 H hT hS => ?_)
    have hT : TP D A [(h1, ob 4 [.int h1f0, .int h1f1, .int h1f2, .ref h14]), (h6, ob 3 [.ref h30, .ref h31, .ref h32, .ref h33, .ref h34, .ref h35, .ref h36, .ref h37, .int h6f8, .int h6f9, .int h6f10, .int h6f11]), (h11, ob 0 [.ref h6]), (h34, aI (k 0) 240 anI), (h38, aJ (k 1) 12000 anJ), (h39, aI (k 0) 400 anI), (h40, aI (k 0) 400 anI), (h41, aI (k 0) 400 anI), (h42, aI (k 0) 1600 anI), (h45, aJ (k 1) 60 anJ), (h0, ob 7 [.ref h1, .ref h2, .int h0f2, .ref h3, .ref h4, .ref h5, .int h0f6, .ref h6, .int h0f8, .ref h7, .ref h8, .int h0f11, .ref h9, .ref h10, .ref h11, .ref h12, .ref h13]), (h7, ob 3 [.ref h38, .ref h39, .ref h40, .ref h41, .ref h42, .ref h43, .ref h44, .ref h45, .int h6f10, .int 200, .int 0, .int 0]), (h43, aI (k 0) 1024 (rgI (-1) (0 - 1))), (h44, aI (k 0) 400 (pfI (0))), (q4, aJ (k 1) 60 anJ)] _ := hT
    refine lv_astore_n (lv' := [(2, .ref q4), (1, .ref h7), (0, .ref h0)]) hx hb dX10_roundOfTrail_26 rfl hl (by decide) rfl (fun ls hl => ?_)
    refine lv_iconst (v := 0) hx hb dX10_roundOfTrail_27 (by decide) ?_
    refine lv_istore_n (lv' := [(3, .int 0), (2, .ref q4), (1, .ref h7), (0, .ref h0)]) hx hb dX10_roundOfTrail_28 rfl hl (by decide) rfl (fun ls hl => ?_)
    have lp29_16 : ∀ (n : Nat) (y15 : Int32) (H : Heap) (locs : List Loc) (ls : Array Slot), (0 ≤ y15.toInt ∧ y15.toInt ≤ 60) → ((-1) * y15.toInt + 60 + 1).toNat < n → TP D A [(h1, ob 4 [.int h1f0, .int h1f1, .int h1f2, .ref h14]), (h6, ob 3 [.ref h30, .ref h31, .ref h32, .ref h33, .ref h34, .ref h35, .ref h36, .ref h37, .int h6f8, .int h6f9, .int h6f10, .int h6f11]), (h11, ob 0 [.ref h6]), (h34, aI (k 0) 240 anI), (h38, aJ (k 1) 12000 anJ), (h39, aI (k 0) 400 anI), (h40, aI (k 0) 400 anI), (h41, aI (k 0) 400 anI), (h42, aI (k 0) 1600 anI), (h45, aJ (k 1) 60 anJ), (h0, ob 7 [.ref h1, .ref h2, .int h0f2, .ref h3, .ref h4, .ref h5, .int h0f6, .ref h6, .int h0f8, .ref h7, .ref h8, .int h0f11, .ref h9, .ref h10, .ref h11, .ref h12, .ref h13]), (h7, ob 3 [.ref h38, .ref h39, .ref h40, .ref h41, .ref h42, .ref h43, .ref h44, .ref h45, .int h6f10, .int 200, .int 0, .int 0]), (h43, aI (k 0) 1024 (rgI (-1) (0 - 1))), (h44, aI (k 0) 400 (pfI (0))), (q4, aJ (k 1) 60 anJ)] H → va_S A s.heap H locs → lv_has ls 4 [(0, .ref h0), (1, .ref h7), (2, .ref q4), (3, .int y15)] → W p l e Rm_cX10_roundOfTrail_4ce37 s m args below meth c H locs 1 60 Q (F0 m 29 ls []) := by
      intro n
      induction n with
      | zero => intro y15 H locs ls b_y15 hm hT hS hl; exact absurd hm (Nat.not_lt_zero _)
      | succ n ih =>
        intro y15 H locs ls b_y15 hm hT hS hl
        have ih29_16 := ih
        clear ih
        refine lv_iload_n hx hb dX10_roundOfTrail_29 rfl (lv_at hl 3 rfl) ?_
        refine lv_bipush (v := 60) hx hb dX10_roundOfTrail_30 (by decide) ?_
        refine lv_icmp_ge (tgt := 46) hx hb dX10_roundOfTrail_32 (by decide) (fun c_17 => ?_) (fun c_17 => ?_)
        · skip
          have c_17 := ni_le c_17 li_60 rfl
          refine lv_aload_n hx hb dX10_roundOfTrail_46 rfl (lv_at hl 1 rfl) ?_
          refine lv_aload_n hx hb dX10_roundOfTrail_47 rfl (lv_at hl 2 rfl) ?_
          refine lv_bipush (v := (-3)) hx hb dX10_roundOfTrail_48 (by decide) ?_
          refine lv_bipush (v := (-3)) hx hb dX10_roundOfTrail_50 (by decide) ?_
          have q_q19 := li_m3
          have q_q20 := li_m3
          have q_q21 := li_200
          have q_q22 := li_0
          have q_q23 := li_0
          refine tcI (Tc := [(h7, ob 3 [.ref h38, .ref h39, .ref h40, .ref h41, .ref h42, .ref h43, .ref h44, .ref h45, .int h6f10, .int 200, .int 0, .int 0]), (q4, aJ (k 1) 60 anJ), (h38, aJ (k 1) 12000 anJ), (h39, aI (k 0) 400 anI), (h40, aI (k 0) 400 anI), (h41, aI (k 0) 400 anI), (h43, aI (k 0) 1024 (rgI (-1) (0 - 1))), (h44, aI (k 0) 400 (pfI (0)))]) (Tr := [(h1, ob 4 [.int h1f0, .int h1f1, .int h1f2, .ref h14]), (h6, ob 3 [.ref h30, .ref h31, .ref h32, .ref h33, .ref h34, .ref h35, .ref h36, .ref h37, .int h6f8, .int h6f9, .int h6f10, .int h6f11]), (h11, ob 0 [.ref h6]), (h34, aI (k 0) 240 anI), (h42, aI (k 0) 1600 anI), (h45, aJ (k 1) 60 anJ), (h0, ob 7 [.ref h1, .ref h2, .int h0f2, .ref h3, .ref h4, .ref h5, .int h0f6, .ref h6, .int h0f8, .ref h7, .ref h8, .int h0f11, .ref h9, .ref h10, .ref h11, .ref h12, .ref h13])]) (as := [h7, q4, h38, h39, h40, h41, h43, h44]) (zcV (q0 := 11) (ci := 3) (As := [.ref q4, .int (-3), .int (-3)]) (rest := []) (Tc := [(h7, ob 3 [.ref h38, .ref h39, .ref h40, .ref h41, .ref h42, .ref h43, .ref h44, .ref h45, .int h6f10, .int 200, .int 0, .int 0]), (q4, aJ (k 1) 60 anJ), (h38, aJ (k 1) 12000 anJ), (h39, aI (k 0) 400 anI), (h40, aI (k 0) 400 anI), (h41, aI (k 0) 400 anI), (h43, aI (k 0) 1024 (rgI (-1) (0 - 1))), (h44, aI (k 0) 400 (pfI (0)))]) hx hb hml hown hU hK hT rfl rfl [11, 14, 4, 5, 6, 7, 12, 13] rfl (by decide) (cX4_append_9081d l D k _ h7 q4 h38 h39 h40 h41 h43 h44 h42 h45 ((-3)) ((-3)) h6f10 (200) (0) (0) (by have := li_m3; omega) (by have := li_m3; omega) (by omega) (by have := li_200; omega) (by have := li_0; omega) (by have := li_0; omega)) w501 w498 w499 w500 w66 hdX4_append ⟨rfl, rfl⟩ ⟨Nat.le_of_ble_eq_true rfl, Nat.le_of_ble_eq_true rfl⟩ rfl hl.1 (Nat.le_of_ble_eq_true rfl) dX10_roundOfTrail_52 ⟨Nat.le_of_ble_eq_true rfl, Nat.le_of_ble_eq_true rfl⟩) hT hS hA [11, 14, 4, 5, 6, 7, 12, 13] [0, 1, 2, 3, 8, 9, 10] rfl rfl rfl (by decide) (by decide) (fun r18 H locs hB J hS => ?_)
          obtain ⟨v24, b_v24, rfl, hT1⟩ := hB
          have hT := J _ hT1
          have hT : TP D A [(h1, ob 4 [.int h1f0, .int h1f1, .int h1f2, .ref h14]), (h6, ob 3 [.ref h30, .ref h31, .ref h32, .ref h33, .ref h34, .ref h35, .ref h36, .ref h37, .int h6f8, .int h6f9, .int h6f10, .int h6f11]), (h11, ob 0 [.ref h6]), (h34, aI (k 0) 240 anI), (h42, aI (k 0) 1600 anI), (h45, aJ (k 1) 60 anJ), (h0, ob 7 [.ref h1, .ref h2, .int h0f2, .ref h3, .ref h4, .ref h5, .int h0f6, .ref h6, .int h0f8, .ref h7, .ref h8, .int h0f11, .ref h9, .ref h10, .ref h11, .ref h12, .ref h13]), (h7, ob 3 [.ref h38, .ref h39, .ref h40, .ref h41, .ref h42, .ref h43, .ref h44, .ref h45, .int h6f10, .int 200, .int v24, .int 0]), (q4, aJ (k 1) 60 anJ), (h38, aJ (k 1) 12000 anJ), (h39, aI (k 0) 400 anI), (h40, aI (k 0) 400 anI), (h41, aI (k 0) 400 anI), (h43, aI (k 0) 1024 (rgI (-1) (v24.toInt - 1))), (h44, aI (k 0) 400 (pfI (v24.toInt)))] _ := hT
          refine lv_pop hx hb dX10_roundOfTrail_55 rfl ?_
          refine lv_aload_n hx hb dX10_roundOfTrail_56 rfl (lv_at hl 1 rfl) ?_
          refine lv_aload_n hx hb dX10_roundOfTrail_57 rfl (lv_at hl 0 rfl) ?_
          refine tz_get (ci := 7) (v := .ref h11) (C := RX10) (F := TX10) (N := 17) hx hb hU iX10 hown hK hT 6 rfl rfl 14 (by decide) w263 (fun _ h9 => h9) rfl dX10_roundOfTrail_58 ?_
          refine lv_aload_n hx hb dX10_roundOfTrail_61 rfl (lv_at hl 0 rfl) ?_
          refine tz_get (ci := 7) (v := .ref h1) (C := RX10) (F := TX10) (N := 17) hx hb hU iX10 hown hK hT 6 rfl rfl 0 (by decide) w249 (fun _ h9 => h9) rfl dX10_roundOfTrail_62 ?_
          refine tz_get (ci := 4) (v := .int h1f1) (C := RX5) (F := TX5) (N := 4) hx hb hU iX5 hown hK hT 0 rfl rfl 1 (by decide) w97 (fun _ h9 => h9) rfl dX10_roundOfTrail_65 ?_
          have q_q26 := li_200
          have q_q27 := li_0
          refine tcV (Tc := [(h7, ob 3 [.ref h38, .ref h39, .ref h40, .ref h41, .ref h42, .ref h43, .ref h44, .ref h45, .int h6f10, .int 200, .int v24, .int 0]), (h11, ob 0 [.ref h6]), (h38, aJ (k 1) 12000 anJ), (h39, aI (k 0) 400 anI), (h40, aI (k 0) 400 anI), (h41, aI (k 0) 400 anI), (h42, aI (k 0) 1600 anI), (h43, aI (k 0) 1024 (rgI (-1) (v24.toInt - 1))), (h44, aI (k 0) 400 (pfI (v24.toInt))), (h45, aJ (k 1) 60 anJ), (h6, ob 3 [.ref h30, .ref h31, .ref h32, .ref h33, .ref h34, .ref h35, .ref h36, .ref h37, .int h6f8, .int h6f9, .int h6f10, .int h6f11]), (h34, aI (k 0) 240 anI)]) (Tr := [(h1, ob 4 [.int h1f0, .int h1f1, .int h1f2, .ref h14]), (h0, ob 7 [.ref h1, .ref h2, .int h0f2, .ref h3, .ref h4, .ref h5, .int h0f6, .ref h6, .int h0f8, .ref h7, .ref h8, .int h0f11, .ref h9, .ref h10, .ref h11, .ref h12, .ref h13]), (q4, aJ (k 1) 60 anJ)]) (as := [h7, h11, h38, h39, h40, h41, h42, h43, h44, h45, h6, h34]) (zcV (q0 := 7) (ci := 3) (As := [.ref h11, .int h1f1]) (rest := []) (Tc := [(h7, ob 3 [.ref h38, .ref h39, .ref h40, .ref h41, .ref h42, .ref h43, .ref h44, .ref h45, .int h6f10, .int 200, .int v24, .int 0]), (h11, ob 0 [.ref h6]), (h38, aJ (k 1) 12000 anJ), (h39, aI (k 0) 400 anI), (h40, aI (k 0) 400 anI), (h41, aI (k 0) 400 anI), (h42, aI (k 0) 1600 anI), (h43, aI (k 0) 1024 (rgI (-1) (v24.toInt - 1))), (h44, aI (k 0) 400 (pfI (v24.toInt))), (h45, aJ (k 1) 60 anJ), (h6, ob 3 [.ref h30, .ref h31, .ref h32, .ref h33, .ref h34, .ref h35, .ref h36, .ref h37, .int h6f8, .int h6f9, .int h6f10, .int h6f11]), (h34, aI (k 0) 240 anI)]) hx hb hml hown hU hK hT rfl rfl [7, 2, 9, 10, 11, 12, 4, 13, 14, 5, 1, 3] rfl (by decide) (cX4_spread_b4d02 l D k _ h7 h11 h38 h39 h40 h41 h42 h43 h44 h45 h6 h34 h30 h31 h32 h33 h35 h36 h37 h1f1 h6f10 (200) v24 (0) h6f8 h6f9 h6f10 h6f11 (by omega) (by omega) (by have := li_200; omega) (by omega) (by have := li_0; omega) (by omega) (by omega) (by omega) (by omega)) w519 w516 w517 w518 w66 hdX4_spread ⟨rfl, rfl⟩ ⟨Nat.le_of_ble_eq_true rfl, Nat.le_of_ble_eq_true rfl⟩ rfl hl.1 (Nat.le_of_ble_eq_true rfl) dX10_roundOfTrail_68 ⟨Nat.le_of_ble_eq_true rfl, Nat.le_of_ble_eq_true rfl⟩) hT hS hA [7, 2, 9, 10, 11, 12, 4, 13, 14, 5, 1, 3] [0, 6, 8] rfl rfl rfl (by decide) (by decide) (fun H locs hB J hS => ?_)
          obtain ⟨v28, v29, b_v28, b_v29, hT1⟩ := hB
          have hT := J _ hT1
          have hT : TP D A [(h1, ob 4 [.int h1f0, .int h1f1, .int h1f2, .ref h14]), (h0, ob 7 [.ref h1, .ref h2, .int h0f2, .ref h3, .ref h4, .ref h5, .int h0f6, .ref h6, .int h0f8, .ref h7, .ref h8, .int h0f11, .ref h9, .ref h10, .ref h11, .ref h12, .ref h13]), (q4, aJ (k 1) 60 anJ), (h7, ob 3 [.ref h38, .ref h39, .ref h40, .ref h41, .ref h42, .ref h43, .ref h44, .ref h45, .int h6f10, .int 200, .int v28, .int v29]), (h11, ob 0 [.ref h6]), (h38, aJ (k 1) 12000 anJ), (h39, aI (k 0) 400 anI), (h40, aI (k 0) 400 anI), (h41, aI (k 0) 400 anI), (h42, aI (k 0) 1600 anI), (h43, aI (k 0) 1024 (rgI (-1) (v28.toInt - 1))), (h44, aI (k 0) 400 (pfI (v28.toInt))), (h45, aJ (k 1) 60 anJ), (h6, ob 3 [.ref h30, .ref h31, .ref h32, .ref h33, .ref h34, .ref h35, .ref h36, .ref h37, .int h6f8, .int h6f9, .int h6f10, .int h6f11]), (h34, aI (k 0) 240 anI)] _ := hT
          refine lv_aload_n hx hb dX10_roundOfTrail_71 rfl (lv_at hl 0 rfl) ?_
          refine lv_aload_n hx hb dX10_roundOfTrail_72 rfl (lv_at hl 1 rfl) ?_
          refine tz_get (ci := 3) (v := .int v28) (C := RX4) (F := TX4) (N := 12) hx hb hU iX4 hown hK hT 3 rfl rfl 10 (by decide) w166 (fun _ h9 => h9) rfl dX10_roundOfTrail_73 ?_
          refine tz_put (ci := 7) (v := .int v28) (ty := .int) (C := RX10) (F := TX10) (N := 17) hx hb hU iX10 tyX10 tyX10_ok nmX10 hown hK hT hS 1 rfl rfl 11 (by decide) w260 (fun _ h9 => h9) rfl (by decide +kernel) rfl rfl (Nat.le_of_ble_eq_true rfl) dX10_roundOfTrail_76 (fun H locs hT hS => ?_)
          have hT : TP D A [(h1, ob 4 [.int h1f0, .int h1f1, .int h1f2, .ref h14]), (h0, ob 7 [.ref h1, .ref h2, .int h0f2, .ref h3, .ref h4, .ref h5, .int h0f6, .ref h6, .int h0f8, .ref h7, .ref h8, .int v28, .ref h9, .ref h10, .ref h11, .ref h12, .ref h13]), (q4, aJ (k 1) 60 anJ), (h7, ob 3 [.ref h38, .ref h39, .ref h40, .ref h41, .ref h42, .ref h43, .ref h44, .ref h45, .int h6f10, .int 200, .int v28, .int v29]), (h11, ob 0 [.ref h6]), (h38, aJ (k 1) 12000 anJ), (h39, aI (k 0) 400 anI), (h40, aI (k 0) 400 anI), (h41, aI (k 0) 400 anI), (h42, aI (k 0) 1600 anI), (h43, aI (k 0) 1024 (rgI (-1) (v28.toInt - 1))), (h44, aI (k 0) 400 (pfI (v28.toInt))), (h45, aJ (k 1) 60 anJ), (h6, ob 3 [.ref h30, .ref h31, .ref h32, .ref h33, .ref h34, .ref h35, .ref h36, .ref h37, .int h6f8, .int h6f9, .int h6f10, .int h6f11]), (h34, aI (k 0) 240 anI)] _ := hT
          refine lv_aload_n hx hb dX10_roundOfTrail_79 rfl (lv_at hl 0 rfl) ?_
          refine tz_get (ci := 7) (v := .int v28) (C := RX10) (F := TX10) (N := 17) hx hb hU iX10 hown hK hT 1 rfl rfl 11 (by decide) w260 (fun _ h9 => h9) rfl dX10_roundOfTrail_80 ?_
          have hT := hT.wk (q := 10) rfl (an_I (c := k 0) (n := 1024))
          have hT : TP D A [(h1, ob 4 [.int h1f0, .int h1f1, .int h1f2, .ref h14]), (h0, ob 7 [.ref h1, .ref h2, .int h0f2, .ref h3, .ref h4, .ref h5, .int h0f6, .ref h6, .int h0f8, .ref h7, .ref h8, .int v28, .ref h9, .ref h10, .ref h11, .ref h12, .ref h13]), (q4, aJ (k 1) 60 anJ), (h7, ob 3 [.ref h38, .ref h39, .ref h40, .ref h41, .ref h42, .ref h43, .ref h44, .ref h45, .int h6f10, .int 200, .int v28, .int v29]), (h11, ob 0 [.ref h6]), (h38, aJ (k 1) 12000 anJ), (h39, aI (k 0) 400 anI), (h40, aI (k 0) 400 anI), (h41, aI (k 0) 400 anI), (h42, aI (k 0) 1600 anI), (h43, aI (k 0) 1024 anI), (h44, aI (k 0) 400 (pfI (v28.toInt))), (h45, aJ (k 1) 60 anJ), (h6, ob 3 [.ref h30, .ref h31, .ref h32, .ref h33, .ref h34, .ref h35, .ref h36, .ref h37, .int h6f8, .int h6f9, .int h6f10, .int h6f11]), (h34, aI (k 0) 240 anI)] _ := hT
          have hT := hT.wk (q := 11) rfl (an_I (c := k 0) (n := 400))
          have hT : TP D A [(h1, ob 4 [.int h1f0, .int h1f1, .int h1f2, .ref h14]), (h0, ob 7 [.ref h1, .ref h2, .int h0f2, .ref h3, .ref h4, .ref h5, .int h0f6, .ref h6, .int h0f8, .ref h7, .ref h8, .int v28, .ref h9, .ref h10, .ref h11, .ref h12, .ref h13]), (q4, aJ (k 1) 60 anJ), (h7, ob 3 [.ref h38, .ref h39, .ref h40, .ref h41, .ref h42, .ref h43, .ref h44, .ref h45, .int h6f10, .int 200, .int v28, .int v29]), (h11, ob 0 [.ref h6]), (h38, aJ (k 1) 12000 anJ), (h39, aI (k 0) 400 anI), (h40, aI (k 0) 400 anI), (h41, aI (k 0) 400 anI), (h42, aI (k 0) 1600 anI), (h43, aI (k 0) 1024 anI), (h44, aI (k 0) 400 anI), (h45, aJ (k 1) 60 anJ), (h6, ob 3 [.ref h30, .ref h31, .ref h32, .ref h33, .ref h34, .ref h35, .ref h36, .ref h37, .int h6f8, .int h6f9, .int h6f10, .int h6f11]), (h34, aI (k 0) 240 anI)] _ := hT
          exact tz_retI (B := B_cX10_roundOfTrail_4ce37 D k h0 h1 h6 h7 h11 h34 h38 h39 h40 h41 h42 h43 h44 h45 h2 h3 h4 h5 h8 h9 h10 h12 h13 h14 h30 h31 h32 h33 h35 h36 h37 h0f2 h0f6 h0f8 h0f11 h1f0 h1f1 h1f2 h6f8 h6f9 h6f10 h6f11 h7f8 h7f9 h7f10 h7f11) (v := v28) hQ hx hb hr hlocks hS (Nat.le_of_ble_eq_true rfl) (Nat.le_of_ble_eq_true rfl) dX10_roundOfTrail_83 (⟨v28, h6f10, 200, v28, v29, (by have := li_200; omega), (by have := li_200; omega), (by have := li_200; omega), (by have := li_200; omega), (by have := li_200; omega), (by have := li_200; omega), (hT.sub [1, 0, 13, 3, 4, 14, 5, 6, 7, 8, 9, 10, 11, 12] (by decide) rfl)⟩)
        · skip
          have c_17 := ni_nle c_17 li_60 rfl
          refine lv_aload_n hx hb dX10_roundOfTrail_35 rfl (lv_at hl 2 rfl) ?_
          refine lv_iload_n hx hb dX10_roundOfTrail_36 rfl (lv_at hl 3 rfl) ?_
          refine lv_iload_n hx hb dX10_roundOfTrail_37 rfl (lv_at hl 3 rfl) ?_
          obtain ⟨v30, e_v30⟩ : ∃ x : Int64, y15.toInt64 = x := ⟨_, rfl⟩
          refine lv_i2l (v := v30) hx hb dX10_roundOfTrail_38 e_v30 ?_
          have e_v30 := ai_i2l e_v30 rfl
          refine tz_last hx hb hK hT hS 14 rfl (by omega) (fun _ _ => trivial) dX10_roundOfTrail_39 (fun H locs hT hS => ?_)
          obtain ⟨v31, e_v31⟩ : ∃ x : Int32, x = y15 + Int32.ofInt 1 := ⟨_, rfl⟩
          have f_v31 := e_v31.symm
          have e_v31 : v31.toInt = y15.toInt + 1 := ai_add e_v31 rfl (show (Int32.ofInt 1).toInt = 1 from (by decide +kernel)) (by omega)
          refine lv_iinc (v := v31) (lv' := [(3, .int v31), (0, .ref h0), (1, .ref h7), (2, .ref q4)]) hx hb dX10_roundOfTrail_40 hl (k := 3) rfl f_v31 (by decide) rfl (fun ls hl => ?_)
          refine lv_goto (tgt := 29) hx hb dX10_roundOfTrail_43 (by decide) ?_
          exact ih29_16 v31 _ _ _ (by omega)  (by omega) hT hS (lv_sub hl [1, 2, 3, 0] rfl)
    exact lp29_16 (((-1) * (0 : Int32).toInt + 60 + 1).toNat + 1) (0) _ _ _ (by have := li_0; omega)  (Nat.lt_succ_self _) hT hS (lv_sub hl [3, 2, 1, 0] rfl)
abbrev Rm_cX10_round_8ae09 : Room := { frames := 6, cells := 1, slots := 60, locals := 140 }
abbrev B_cX10_round_8ae09 (D : va_G) (k : Nat → ClassId) (h0 h1 h6 h7 h11 h34 h38 h39 h40 h41 h42 h43 h44 h45 h2 h3 h4 h5 h8 h9 h10 h12 h13 h14 h30 h31 h32 h33 h35 h36 h37 : Nat) (x1 : Int32) (h0f2 : Int32) (h0f6 : Int32) (h0f8 : Int32) (h0f11 : Int32) (h1f0 : Int32) (h1f1 : Int32) (h1f2 : Int32) (h6f8 : Int32) (h6f9 : Int32) (h6f10 : Int32) (h6f11 : Int32) (h7f8 : Int32) (h7f9 : Int32) (h7f10 : Int32) (h7f11 : Int32) (A : Nat → Prop) (r : Int32) (H : Heap) : Prop := ∃ o0 : Int32, ∃ o1 : Int32, ∃ o2 : Int32, ∃ o3 : Int32, ∃ o4 : Int32, (0 ≤ o0.toInt ∧ o0.toInt ≤ 200) ∧ (0 ≤ o1.toInt ∧ o1.toInt ≤ 60) ∧ (0 ≤ o2.toInt ∧ o2.toInt ≤ 400) ∧ (0 ≤ o3.toInt ∧ o3.toInt ≤ 400) ∧ (0 ≤ o4.toInt ∧ o4.toInt ≤ 1) ∧ ((-3) ≤ r.toInt ∧ r.toInt ≤ 200) ∧ TP D A [(h0, ob 7 [.ref h1, .ref h2, .int h0f2, .ref h3, .ref h4, .ref h5, .int h0f6, .ref h6, .int h0f8, .ref h7, .ref h8, .int o0, .ref h9, .ref h10, .ref h11, .ref h12, .ref h13]), (h1, ob 4 [.int h1f0, .int h1f1, .int h1f2, .ref h14]), (h6, ob 3 [.ref h30, .ref h31, .ref h32, .ref h33, .ref h34, .ref h35, .ref h36, .ref h37, .int h6f8, .int h6f9, .int h6f10, .int h6f11]), (h7, ob 3 [.ref h38, .ref h39, .ref h40, .ref h41, .ref h42, .ref h43, .ref h44, .ref h45, .int o1, .int o2, .int o3, .int o4]), (h11, ob 0 [.ref h6]), (h34, aI (k 0) 240 anI), (h38, aJ (k 1) 12000 anJ), (h39, aI (k 0) 400 anI), (h40, aI (k 0) 400 anI), (h41, aI (k 0) 400 anI), (h42, aI (k 0) 1600 anI), (h43, aI (k 0) 1024 anI), (h44, aI (k 0) 400 anI), (h45, aJ (k 1) 60 anJ)] H
set_option maxHeartbeats 4000000 in
set_option maxRecDepth 100000 in
theorem cX10_round_8ae09 (l : Launch) (D : va_G) (k : Nat → ClassId) (sz : Nat) (h0 h1 h6 h7 h11 h34 h38 h39 h40 h41 h42 h43 h44 h45 h2 h3 h4 h5 h8 h9 h10 h12 h13 h14 h30 h31 h32 h33 h35 h36 h37 : Nat) (x1 : Int32) (h0f2 : Int32) (h0f6 : Int32) (h0f8 : Int32) (h0f11 : Int32) (h1f0 : Int32) (h1f1 : Int32) (h1f2 : Int32) (h6f8 : Int32) (h6f9 : Int32) (h6f10 : Int32) (h6f11 : Int32) (h7f8 : Int32) (h7f9 : Int32) (h7f10 : Int32) (h7f11 : Int32) (b_h0f2 : 0 ≤ h0f2.toInt ∧ h0f2.toInt ≤ 1) (b_h0f6 : 0 ≤ h0f6.toInt ∧ h0f6.toInt ≤ 1) (b_h0f8 : 0 ≤ h0f8.toInt ∧ h0f8.toInt ≤ 1) (b_h0f11 : 0 ≤ h0f11.toInt ∧ h0f11.toInt ≤ 200) (b_h1f0 : 1 ≤ h1f0.toInt ∧ h1f0.toInt ≤ 3) (b_h1f1 : 0 ≤ h1f1.toInt ∧ h1f1.toInt ≤ 4) (b_h6f8 : 0 ≤ h6f8.toInt ∧ h6f8.toInt ≤ 3) (b_h6f9 : 0 ≤ h6f9.toInt ∧ h6f9.toInt ≤ 60) (b_h6f10 : 0 ≤ h6f10.toInt ∧ h6f10.toInt ≤ 60) (b_h6f11 : 0 ≤ h6f11.toInt ∧ h6f11.toInt ≤ 1) (b_h7f8 : 0 ≤ h7f8.toInt ∧ h7f8.toInt ≤ 60) (b_h7f9 : 0 ≤ h7f9.toInt ∧ h7f9.toInt ≤ 400) (b_h7f10 : 0 ≤ h7f10.toInt ∧ h7f10.toInt ≤ 400) (b_h7f11 : 0 ≤ h7f11.toInt ∧ h7f11.toInt ≤ 1) : Met l yX10_round (Cond.code yX10_round cX10_round 2 (some .int) :: uw) Rm_cX10_round_8ae09 (pT D k sz [.ref h0, .int x1] [(h0, ob 7 [.ref h1, .ref h2, .int h0f2, .ref h3, .ref h4, .ref h5, .int h0f6, .ref h6, .int h0f8, .ref h7, .ref h8, .int h0f11, .ref h9, .ref h10, .ref h11, .ref h12, .ref h13]), (h1, ob 4 [.int h1f0, .int h1f1, .int h1f2, .ref h14]), (h6, ob 3 [.ref h30, .ref h31, .ref h32, .ref h33, .ref h34, .ref h35, .ref h36, .ref h37, .int h6f8, .int h6f9, .int h6f10, .int h6f11]), (h7, ob 3 [.ref h38, .ref h39, .ref h40, .ref h41, .ref h42, .ref h43, .ref h44, .ref h45, .int h7f8, .int h7f9, .int h7f10, .int h7f11]), (h11, ob 0 [.ref h6]), (h34, aI (k 0) 240 anI), (h38, aJ (k 1) 12000 anJ), (h39, aI (k 0) 400 anI), (h40, aI (k 0) 400 anI), (h41, aI (k 0) 400 anI), (h42, aI (k 0) 1600 anI), (h43, aI (k 0) 1024 anI), (h44, aI (k 0) 400 anI), (h45, aJ (k 1) 60 anJ)]) (qI (B_cX10_round_8ae09 D k h0 h1 h6 h7 h11 h34 h38 h39 h40 h41 h42 h43 h44 h45 h2 h3 h4 h5 h8 h9 h10 h12 h13 h14 h30 h31 h32 h33 h35 h36 h37 x1 h0f2 h0f6 h0f8 h0f11 h1f0 h1f1 h1f2 h6f8 h6f9 h6f10 h6f11 h7f8 h7f9 h7f10 h7f11 (zA [h0, h1, h6, h7, h11, h34, h38, h39, h40, h41, h42, h43, h44, h45] sz)) (zA [h0, h1, h6, h7, h11, h34, h38, h39, h40, h41, h42, h43, h44, h45] sz)) 1 60 (zA [h0, h1, h6, h7, h11, h34, h38, h39, h40, h41, h42, h43, h44, h45] sz) := by
  refine tz_begin (as := [h0, h1, h6, h7, h11, h34, h38, h39, h40, h41, h42, h43, h44, h45]) (Qc := fun A => qI (B_cX10_round_8ae09 D k h0 h1 h6 h7 h11 h34 h38 h39 h40 h41 h42 h43 h44 h45 h2 h3 h4 h5 h8 h9 h10 h12 h13 h14 h30 h31 h32 h33 h35 h36 h37 x1 h0f2 h0f6 h0f8 h0f11 h1f0 h1f1 h1f2 h6f8 h6f9 h6f10 h6f11 h7f8 h7f9 h7f10 h7f11 A) A) (by decide +kernel) rfl (Nat.le_of_ble_eq_true rfl) ?_
  intro p e s m args below meth c ls A Q hx hb hr hml hown hlocks hin hU hK hT hS hA hl hQ
  have hl : lv_has ls 2 [(0, .ref h0), (1, .int x1)] := hl
  have hT : TP D A [(h0, ob 7 [.ref h1, .ref h2, .int h0f2, .ref h3, .ref h4, .ref h5, .int h0f6, .ref h6, .int h0f8, .ref h7, .ref h8, .int h0f11, .ref h9, .ref h10, .ref h11, .ref h12, .ref h13]), (h1, ob 4 [.int h1f0, .int h1f1, .int h1f2, .ref h14]), (h6, ob 3 [.ref h30, .ref h31, .ref h32, .ref h33, .ref h34, .ref h35, .ref h36, .ref h37, .int h6f8, .int h6f9, .int h6f10, .int h6f11]), (h7, ob 3 [.ref h38, .ref h39, .ref h40, .ref h41, .ref h42, .ref h43, .ref h44, .ref h45, .int h7f8, .int h7f9, .int h7f10, .int h7f11]), (h11, ob 0 [.ref h6]), (h34, aI (k 0) 240 anI), (h38, aJ (k 1) 12000 anJ), (h39, aI (k 0) 400 anI), (h40, aI (k 0) 400 anI), (h41, aI (k 0) 400 anI), (h42, aI (k 0) 1600 anI), (h43, aI (k 0) 1024 anI), (h44, aI (k 0) 400 anI), (h45, aJ (k 1) 60 anJ)] s.heap := hT
  refine lv_iload_n hx hb dX10_round_0 rfl (lv_at hl 1 rfl) ?_
  refine lv_if_lt (tgt := 9) hx hb dX10_round_1 (by decide) (fun c_1 => ?_) (fun c_1 => ?_)
  · skip
    have c_1 := ni_lt c_1 rfl li_0
    refine lv_iconst (v := (-1)) hx hb dX10_round_9 (by decide) ?_
    exact tz_retI (B := B_cX10_round_8ae09 D k h0 h1 h6 h7 h11 h34 h38 h39 h40 h41 h42 h43 h44 h45 h2 h3 h4 h5 h8 h9 h10 h12 h13 h14 h30 h31 h32 h33 h35 h36 h37 x1 h0f2 h0f6 h0f8 h0f11 h1f0 h1f1 h1f2 h6f8 h6f9 h6f10 h6f11 h7f8 h7f9 h7f10 h7f11) (v := (-1)) hQ hx hb hr hlocks hS (Nat.le_of_ble_eq_true rfl) (Nat.le_of_ble_eq_true rfl) dX10_round_10 (⟨h0f11, h7f8, h7f9, h7f10, h7f11, (by have := li_m1; omega), (by have := li_m1; omega), (by have := li_m1; omega), (by have := li_m1; omega), (by have := li_m1; omega), (by have := li_m1; omega), hT⟩)
  · skip
    have c_1 := ni_nlt c_1 rfl li_0
    refine lv_iload_n hx hb dX10_round_4 rfl (lv_at hl 1 rfl) ?_
    refine lv_iconst (v := 2) hx hb dX10_round_5 (by decide) ?_
    refine lv_icmp_le (tgt := 11) hx hb dX10_round_6 (by decide) (fun c_2 => ?_) (fun c_2 => ?_)
    · skip
      have c_2 := ni_le c_2 rfl li_2
      refine lv_aload_n hx hb dX10_round_11 rfl (lv_at hl 0 rfl) ?_
      refine tz_get (ci := 7) (v := .int h0f8) (C := RX10) (F := TX10) (N := 17) hx hb hU iX10 hown hK hT 0 rfl rfl 8 (by decide) w257 (fun _ h9 => h9) rfl dX10_round_12 ?_
      refine lv_if_ne (tgt := 21) hx hb dX10_round_15 (by decide) (fun c_3 => ?_) (fun c_3 => ?_)
      · skip
        have c_3 := ni_ne c_3 rfl li_0
        refine lv_iload_n hx hb dX10_round_21 rfl (lv_at hl 1 rfl) ?_
        refine lv_if_ne (tgt := 33) hx hb dX10_round_22 (by decide) (fun c_4 => ?_) (fun c_4 => ?_)
        · skip
          have c_4 := ni_ne c_4 rfl li_0
          refine lv_iload_n hx hb dX10_round_33 rfl (lv_at hl 1 rfl) ?_
          refine lv_iconst (v := 1) hx hb dX10_round_34 (by decide) ?_
          refine lv_icmp_ne (tgt := 54) hx hb dX10_round_35 (by decide) (fun c_5 => ?_) (fun c_5 => ?_)
          · skip
            have c_5 := ni_ne c_5 rfl li_1
            refine lv_aload_n hx hb dX10_round_54 rfl (lv_at hl 0 rfl) ?_
            refine tz_get (ci := 7) (v := .ref h6) (C := RX10) (F := TX10) (N := 17) hx hb hU iX10 hown hK hT 0 rfl rfl 7 (by decide) w256 (fun _ h9 => h9) rfl dX10_round_55 ?_
            refine tz_get (ci := 3) (v := .int h6f11) (C := RX4) (F := TX4) (N := 12) hx hb hU iX4 hown hK hT 2 rfl rfl 11 (by decide) w168 (fun _ h9 => h9) rfl dX10_round_58 ?_
            refine lv_if_eq (tgt := 71) hx hb dX10_round_61 (by decide) (fun c_6 => ?_) (fun c_6 => ?_)
            · skip
              have c_6 := ni_eq c_6 rfl li_0
              refine lv_bipush (v := (-3)) hx hb dX10_round_71 (by decide) ?_
              exact tz_retI (B := B_cX10_round_8ae09 D k h0 h1 h6 h7 h11 h34 h38 h39 h40 h41 h42 h43 h44 h45 h2 h3 h4 h5 h8 h9 h10 h12 h13 h14 h30 h31 h32 h33 h35 h36 h37 x1 h0f2 h0f6 h0f8 h0f11 h1f0 h1f1 h1f2 h6f8 h6f9 h6f10 h6f11 h7f8 h7f9 h7f10 h7f11) (v := (-3)) hQ hx hb hr hlocks hS (Nat.le_of_ble_eq_true rfl) (Nat.le_of_ble_eq_true rfl) dX10_round_73 (⟨h0f11, h7f8, h7f9, h7f10, h7f11, (by have := li_m3; omega), (by have := li_m3; omega), (by have := li_m3; omega), (by have := li_m3; omega), (by have := li_m3; omega), (by have := li_m3; omega), hT⟩)
            · skip
              have c_6 := ni_ne c_6 rfl li_0
              refine lv_aload_n hx hb dX10_round_64 rfl (lv_at hl 0 rfl) ?_
              refine tcI (Tc := [(h0, ob 7 [.ref h1, .ref h2, .int h0f2, .ref h3, .ref h4, .ref h5, .int h0f6, .ref h6, .int h0f8, .ref h7, .ref h8, .int h0f11, .ref h9, .ref h10, .ref h11, .ref h12, .ref h13]), (h1, ob 4 [.int h1f0, .int h1f1, .int h1f2, .ref h14]), (h6, ob 3 [.ref h30, .ref h31, .ref h32, .ref h33, .ref h34, .ref h35, .ref h36, .ref h37, .int h6f8, .int h6f9, .int h6f10, .int h6f11]), (h7, ob 3 [.ref h38, .ref h39, .ref h40, .ref h41, .ref h42, .ref h43, .ref h44, .ref h45, .int h7f8, .int h7f9, .int h7f10, .int h7f11]), (h11, ob 0 [.ref h6]), (h34, aI (k 0) 240 anI), (h38, aJ (k 1) 12000 anJ), (h39, aI (k 0) 400 anI), (h40, aI (k 0) 400 anI), (h41, aI (k 0) 400 anI), (h42, aI (k 0) 1600 anI), (h43, aI (k 0) 1024 anI), (h44, aI (k 0) 400 anI), (h45, aJ (k 1) 60 anJ)]) (Tr := []) (as := [h0, h1, h6, h7, h11, h34, h38, h39, h40, h41, h42, h43, h44, h45]) (zcV (q0 := 0) (ci := 7) (As := []) (rest := []) (Tc := [(h0, ob 7 [.ref h1, .ref h2, .int h0f2, .ref h3, .ref h4, .ref h5, .int h0f6, .ref h6, .int h0f8, .ref h7, .ref h8, .int h0f11, .ref h9, .ref h10, .ref h11, .ref h12, .ref h13]), (h1, ob 4 [.int h1f0, .int h1f1, .int h1f2, .ref h14]), (h6, ob 3 [.ref h30, .ref h31, .ref h32, .ref h33, .ref h34, .ref h35, .ref h36, .ref h37, .int h6f8, .int h6f9, .int h6f10, .int h6f11]), (h7, ob 3 [.ref h38, .ref h39, .ref h40, .ref h41, .ref h42, .ref h43, .ref h44, .ref h45, .int h7f8, .int h7f9, .int h7f10, .int h7f11]), (h11, ob 0 [.ref h6]), (h34, aI (k 0) 240 anI), (h38, aJ (k 1) 12000 anJ), (h39, aI (k 0) 400 anI), (h40, aI (k 0) 400 anI), (h41, aI (k 0) 400 anI), (h42, aI (k 0) 1600 anI), (h43, aI (k 0) 1024 anI), (h44, aI (k 0) 400 anI), (h45, aJ (k 1) 60 anJ)]) hx hb hml hown hU hK hT rfl rfl [0, 1, 2, 3, 4, 5, 6, 7, 8, 9, 10, 11, 12, 13] rfl (by decide) (cX10_roundOfTrail_4ce37 l D k _ h0 h1 h6 h7 h11 h34 h38 h39 h40 h41 h42 h43 h44 h45 h2 h3 h4 h5 h8 h9 h10 h12 h13 h14 h30 h31 h32 h33 h35 h36 h37 h0f2 h0f6 h0f8 h0f11 h1f0 h1f1 h1f2 h6f8 h6f9 h6f10 h6f11 h7f8 h7f9 h7f10 h7f11 (by omega) (by omega) (by omega) (by omega) (by omega) (by omega) (by omega) (by omega) (by omega) (by omega) (by omega) (by omega) (by omega) (by omega)) w707 w704 w706 w25 w63 hdX10_roundOfTrail ⟨rfl, rfl⟩ ⟨Nat.le_of_ble_eq_true rfl, Nat.le_of_ble_eq_true rfl⟩ rfl hl.1 (Nat.le_of_ble_eq_true rfl) dX10_round_65 ⟨Nat.le_of_ble_eq_true rfl, Nat.le_of_ble_eq_true rfl⟩) hT hS hA [0, 1, 2, 3, 4, 5, 6, 7, 8, 9, 10, 11, 12, 13] [] rfl rfl rfl (by decide) (by decide) (fun r7 H locs hB J hS => ?_)
              obtain ⟨v8, v9, v10, v11, v12, b_v8, b_v9, b_v10, b_v11, b_v12, b_r7, hT1⟩ := hB
              have hT := J _ hT1
              have hT : TP D A [(h0, ob 7 [.ref h1, .ref h2, .int h0f2, .ref h3, .ref h4, .ref h5, .int h0f6, .ref h6, .int h0f8, .ref h7, .ref h8, .int v8, .ref h9, .ref h10, .ref h11, .ref h12, .ref h13]), (h1, ob 4 [.int h1f0, .int h1f1, .int h1f2, .ref h14]), (h6, ob 3 [.ref h30, .ref h31, .ref h32, .ref h33, .ref h34, .ref h35, .ref h36, .ref h37, .int h6f8, .int h6f9, .int h6f10, .int h6f11]), (h7, ob 3 [.ref h38, .ref h39, .ref h40, .ref h41, .ref h42, .ref h43, .ref h44, .ref h45, .int v9, .int v10, .int v11, .int v12]), (h11, ob 0 [.ref h6]), (h34, aI (k 0) 240 anI), (h38, aJ (k 1) 12000 anJ), (h39, aI (k 0) 400 anI), (h40, aI (k 0) 400 anI), (h41, aI (k 0) 400 anI), (h42, aI (k 0) 1600 anI), (h43, aI (k 0) 1024 anI), (h44, aI (k 0) 400 anI), (h45, aJ (k 1) 60 anJ)] _ := hT
              refine lv_goto (tgt := 73) hx hb dX10_round_68 (by decide) ?_
              exact tz_retI (B := B_cX10_round_8ae09 D k h0 h1 h6 h7 h11 h34 h38 h39 h40 h41 h42 h43 h44 h45 h2 h3 h4 h5 h8 h9 h10 h12 h13 h14 h30 h31 h32 h33 h35 h36 h37 x1 h0f2 h0f6 h0f8 h0f11 h1f0 h1f1 h1f2 h6f8 h6f9 h6f10 h6f11 h7f8 h7f9 h7f10 h7f11) (v := r7) hQ hx hb hr hlocks hS (Nat.le_of_ble_eq_true rfl) (Nat.le_of_ble_eq_true rfl) dX10_round_73 (⟨v8, v9, v10, v11, v12, (by omega), (by omega), (by omega), (by omega), (by omega), (by omega), hT⟩)
          · skip
            have c_5 := ni_eq c_5 rfl li_1
            refine lv_aload_n hx hb dX10_round_38 rfl (lv_at hl 0 rfl) ?_
            refine tz_get (ci := 7) (v := .ref h6) (C := RX10) (F := TX10) (N := 17) hx hb hU iX10 hown hK hT 0 rfl rfl 7 (by decide) w256 (fun _ h9 => h9) rfl dX10_round_39 ?_
            refine tz_get (ci := 3) (v := .int h6f11) (C := RX4) (F := TX4) (N := 12) hx hb hU iX4 hown hK hT 2 rfl rfl 11 (by decide) w168 (fun _ h9 => h9) rfl dX10_round_42 ?_
            refine lv_if_eq (tgt := 52) hx hb dX10_round_45 (by decide) (fun c_13 => ?_) (fun c_13 => ?_)
            · skip
              have c_13 := ni_eq c_13 rfl li_0
              refine lv_iconst (v := 0) hx hb dX10_round_52 (by decide) ?_
              exact tz_retI (B := B_cX10_round_8ae09 D k h0 h1 h6 h7 h11 h34 h38 h39 h40 h41 h42 h43 h44 h45 h2 h3 h4 h5 h8 h9 h10 h12 h13 h14 h30 h31 h32 h33 h35 h36 h37 x1 h0f2 h0f6 h0f8 h0f11 h1f0 h1f1 h1f2 h6f8 h6f9 h6f10 h6f11 h7f8 h7f9 h7f10 h7f11) (v := 0) hQ hx hb hr hlocks hS (Nat.le_of_ble_eq_true rfl) (Nat.le_of_ble_eq_true rfl) dX10_round_53 (⟨h0f11, h7f8, h7f9, h7f10, h7f11, (by have := li_0; omega), (by have := li_0; omega), (by have := li_0; omega), (by have := li_0; omega), (by have := li_0; omega), (by have := li_0; omega), hT⟩)
            · skip
              have c_13 := ni_ne c_13 rfl li_0
              refine lv_iconst (v := 1) hx hb dX10_round_48 (by decide) ?_
              refine lv_goto (tgt := 53) hx hb dX10_round_49 (by decide) ?_
              exact tz_retI (B := B_cX10_round_8ae09 D k h0 h1 h6 h7 h11 h34 h38 h39 h40 h41 h42 h43 h44 h45 h2 h3 h4 h5 h8 h9 h10 h12 h13 h14 h30 h31 h32 h33 h35 h36 h37 x1 h0f2 h0f6 h0f8 h0f11 h1f0 h1f1 h1f2 h6f8 h6f9 h6f10 h6f11 h7f8 h7f9 h7f10 h7f11) (v := 1) hQ hx hb hr hlocks hS (Nat.le_of_ble_eq_true rfl) (Nat.le_of_ble_eq_true rfl) dX10_round_53 (⟨h0f11, h7f8, h7f9, h7f10, h7f11, (by have := li_1; omega), (by have := li_1; omega), (by have := li_1; omega), (by have := li_1; omega), (by have := li_1; omega), (by have := li_1; omega), hT⟩)
        · skip
          have c_4 := ni_eq c_4 rfl li_0
          refine lv_aload_n hx hb dX10_round_25 rfl (lv_at hl 0 rfl) ?_
          refine tz_get (ci := 7) (v := .ref h6) (C := RX10) (F := TX10) (N := 17) hx hb hU iX10 hown hK hT 0 rfl rfl 7 (by decide) w256 (fun _ h9 => h9) rfl dX10_round_26 ?_
          refine tz_get (ci := 3) (v := .int h6f10) (C := RX4) (F := TX4) (N := 12) hx hb hU iX4 hown hK hT 2 rfl rfl 10 (by decide) w166 (fun _ h9 => h9) rfl dX10_round_29 ?_
          exact tz_retI (B := B_cX10_round_8ae09 D k h0 h1 h6 h7 h11 h34 h38 h39 h40 h41 h42 h43 h44 h45 h2 h3 h4 h5 h8 h9 h10 h12 h13 h14 h30 h31 h32 h33 h35 h36 h37 x1 h0f2 h0f6 h0f8 h0f11 h1f0 h1f1 h1f2 h6f8 h6f9 h6f10 h6f11 h7f8 h7f9 h7f10 h7f11) (v := h6f10) hQ hx hb hr hlocks hS (Nat.le_of_ble_eq_true rfl) (Nat.le_of_ble_eq_true rfl) dX10_round_32 (⟨h0f11, h7f8, h7f9, h7f10, h7f11, (by omega), (by omega), (by omega), (by omega), (by omega), (by omega), hT⟩)
      · skip
        have c_3 := ni_eq c_3 rfl li_0
        refine lv_bipush (v := (-3)) hx hb dX10_round_18 (by decide) ?_
        exact tz_retI (B := B_cX10_round_8ae09 D k h0 h1 h6 h7 h11 h34 h38 h39 h40 h41 h42 h43 h44 h45 h2 h3 h4 h5 h8 h9 h10 h12 h13 h14 h30 h31 h32 h33 h35 h36 h37 x1 h0f2 h0f6 h0f8 h0f11 h1f0 h1f1 h1f2 h6f8 h6f9 h6f10 h6f11 h7f8 h7f9 h7f10 h7f11) (v := (-3)) hQ hx hb hr hlocks hS (Nat.le_of_ble_eq_true rfl) (Nat.le_of_ble_eq_true rfl) dX10_round_20 (⟨h0f11, h7f8, h7f9, h7f10, h7f11, (by have := li_m3; omega), (by have := li_m3; omega), (by have := li_m3; omega), (by have := li_m3; omega), (by have := li_m3; omega), (by have := li_m3; omega), hT⟩)
    · skip
      have c_2 := ni_nle c_2 rfl li_2
      refine lv_iconst (v := (-1)) hx hb dX10_round_9 (by decide) ?_
      exact tz_retI (B := B_cX10_round_8ae09 D k h0 h1 h6 h7 h11 h34 h38 h39 h40 h41 h42 h43 h44 h45 h2 h3 h4 h5 h8 h9 h10 h12 h13 h14 h30 h31 h32 h33 h35 h36 h37 x1 h0f2 h0f6 h0f8 h0f11 h1f0 h1f1 h1f2 h6f8 h6f9 h6f10 h6f11 h7f8 h7f9 h7f10 h7f11) (v := (-1)) hQ hx hb hr hlocks hS (Nat.le_of_ble_eq_true rfl) (Nat.le_of_ble_eq_true rfl) dX10_round_10 (⟨h0f11, h7f8, h7f9, h7f10, h7f11, (by have := li_m1; omega), (by have := li_m1; omega), (by have := li_m1; omega), (by have := li_m1; omega), (by have := li_m1; omega), (by have := li_m1; omega), hT⟩)
abbrev Rm_cX11_roundNow_55c93 : Room := { frames := 0, cells := 0, slots := 0, locals := 0 }
abbrev B_cX11_roundNow_55c93 (D : va_G) (k : Nat → ClassId) (h0 h16 h17 h1 h2 h3 h4 h5 h6 h7 h8 h9 h10 h11 h12 h13 h14 h15 h18 h19 h20 h21 : Nat) (h0f0 : Int32) (h0f1 : Int32) (h0f2 : Int32) (h0f3 : Int32) (h0f4 : Int32) (h0f5 : Int32) (h0f8 : Int32) (h0f9 : Int32) (h0f17 : Int32) (h0f18 : Int32) (h0f19 : Int32) (h0f24 : Int32) (h0f25 : Int32) (h0f30 : Int32) (h0f31 : Int32) (A : Nat → Prop) (r : Int32) (H : Heap) : Prop := (1 ≤ r.toInt ∧ r.toInt ≤ 200) ∧ TP D A [(h0, ob 8 [.int h0f0, .int h0f1, .int h0f2, .int h0f3, .int h0f4, .int h0f5, .ref h1, .ref h2, .int h0f8, .int h0f9, .ref h3, .ref h4, .ref h5, .ref h6, .ref h7, .ref h8, .ref h9, .int h0f17, .int h0f18, .int h0f19, .ref h10, .ref h11, .ref h12, .ref h13, .int h0f24, .int h0f25, .ref h14, .ref h15, .ref h16, .ref h17, .int h0f30, .int h0f31, .ref h18, .ref h19, .ref h20, .ref h21]), (h16, aI (k 0) 240 (gtP (h0f30.toInt) (h0f1.toInt) (h0f31.toInt))), (h17, aI (k 0) 12000 anI)] H
set_option maxHeartbeats 4000000 in
set_option maxRecDepth 100000 in
theorem cX11_roundNow_55c93 (l : Launch) (D : va_G) (k : Nat → ClassId) (sz : Nat) (h0 h16 h17 h1 h2 h3 h4 h5 h6 h7 h8 h9 h10 h11 h12 h13 h14 h15 h18 h19 h20 h21 : Nat) (h0f0 : Int32) (h0f1 : Int32) (h0f2 : Int32) (h0f3 : Int32) (h0f4 : Int32) (h0f5 : Int32) (h0f8 : Int32) (h0f9 : Int32) (h0f17 : Int32) (h0f18 : Int32) (h0f19 : Int32) (h0f24 : Int32) (h0f25 : Int32) (h0f30 : Int32) (h0f31 : Int32) (b_h0f0 : 1 ≤ h0f0.toInt ∧ h0f0.toInt ≤ 3) (b_h0f1 : 0 ≤ h0f1.toInt ∧ h0f1.toInt ≤ 4) (b_h0f3 : 0 ≤ h0f3.toInt ∧ h0f3.toInt ≤ 3) (b_h0f4 : 0 ≤ h0f4.toInt ∧ h0f4.toInt ≤ 4) (b_h0f8 : 0 ≤ h0f8.toInt ∧ h0f8.toInt ≤ 1) (b_h0f9 : 0 ≤ h0f9.toInt ∧ h0f9.toInt ≤ 1) (b_h0f17 : 0 ≤ h0f17.toInt ∧ h0f17.toInt ≤ 120) (b_h0f18 : 0 ≤ h0f18.toInt ∧ h0f18.toInt ≤ 120) (b_h0f19 : 0 ≤ h0f19.toInt ∧ h0f19.toInt ≤ 4) (b_h0f24 : 0 ≤ h0f24.toInt ∧ h0f24.toInt ≤ 100) (b_h0f25 : 0 ≤ h0f25.toInt ∧ h0f25.toInt ≤ 1) (b_h0f30 : 1 ≤ h0f30.toInt ∧ h0f30.toInt ≤ 60) (b_h0f31 : 1 ≤ h0f31.toInt ∧ h0f31.toInt ≤ 1) (i_0 : h0f8.toInt ≤ h0f3.toInt) (i_1 : h0f9.toInt ≤ h0f24.toInt) : Met l yX11_roundNow (Cond.code yX11_roundNow cX11_roundNow 8 (some .int) :: uw) Rm_cX11_roundNow_55c93 (pT D k sz [.ref h0] [(h0, ob 8 [.int h0f0, .int h0f1, .int h0f2, .int h0f3, .int h0f4, .int h0f5, .ref h1, .ref h2, .int h0f8, .int h0f9, .ref h3, .ref h4, .ref h5, .ref h6, .ref h7, .ref h8, .ref h9, .int h0f17, .int h0f18, .int h0f19, .ref h10, .ref h11, .ref h12, .ref h13, .int h0f24, .int h0f25, .ref h14, .ref h15, .ref h16, .ref h17, .int h0f30, .int h0f31, .ref h18, .ref h19, .ref h20, .ref h21]), (h16, aI (k 0) 240 (gtP (h0f30.toInt) (h0f1.toInt) (h0f31.toInt))), (h17, aI (k 0) 12000 anI)]) (qI (B_cX11_roundNow_55c93 D k h0 h16 h17 h1 h2 h3 h4 h5 h6 h7 h8 h9 h10 h11 h12 h13 h14 h15 h18 h19 h20 h21 h0f0 h0f1 h0f2 h0f3 h0f4 h0f5 h0f8 h0f9 h0f17 h0f18 h0f19 h0f24 h0f25 h0f30 h0f31 (zA [h0, h16, h17] sz)) (zA [h0, h16, h17] sz)) 0 0 (zA [h0, h16, h17] sz) := by
  refine tz_begin (as := [h0, h16, h17]) (Qc := fun A => qI (B_cX11_roundNow_55c93 D k h0 h16 h17 h1 h2 h3 h4 h5 h6 h7 h8 h9 h10 h11 h12 h13 h14 h15 h18 h19 h20 h21 h0f0 h0f1 h0f2 h0f3 h0f4 h0f5 h0f8 h0f9 h0f17 h0f18 h0f19 h0f24 h0f25 h0f30 h0f31 A) A) (by decide +kernel) rfl (Nat.le_of_ble_eq_true rfl) ?_
  intro p e s m args below meth c ls A Q hx hb hr hml hown hlocks hin hU hK hT hS hA hl hQ
  have hl : lv_has ls 8 [(0, .ref h0)] := hl
  have hT : TP D A [(h0, ob 8 [.int h0f0, .int h0f1, .int h0f2, .int h0f3, .int h0f4, .int h0f5, .ref h1, .ref h2, .int h0f8, .int h0f9, .ref h3, .ref h4, .ref h5, .ref h6, .ref h7, .ref h8, .ref h9, .int h0f17, .int h0f18, .int h0f19, .ref h10, .ref h11, .ref h12, .ref h13, .int h0f24, .int h0f25, .ref h14, .ref h15, .ref h16, .ref h17, .int h0f30, .int h0f31, .ref h18, .ref h19, .ref h20, .ref h21]), (h16, aI (k 0) 240 (gtP (h0f30.toInt) (h0f1.toInt) (h0f31.toInt))), (h17, aI (k 0) 12000 anI)] s.heap := hT
  refine lv_iconst (v := 0) hx hb dX11_roundNow_0 (by decide) ?_
  refine lv_istore_n (lv' := [(1, .int 0), (0, .ref h0)]) hx hb dX11_roundNow_1 rfl hl (by decide) rfl (fun ls hl => ?_)
  have hT := hT.wk (q := 2) (P' := aI (k 0) 12000 (plP (h0f30.toInt) ((0 : Int32).toInt) ((0 : Int32).toInt))) rfl (pl_0 (by have := li_0; omega))
  have hT : TP D A [(h0, ob 8 [.int h0f0, .int h0f1, .int h0f2, .int h0f3, .int h0f4, .int h0f5, .ref h1, .ref h2, .int h0f8, .int h0f9, .ref h3, .ref h4, .ref h5, .ref h6, .ref h7, .ref h8, .ref h9, .int h0f17, .int h0f18, .int h0f19, .ref h10, .ref h11, .ref h12, .ref h13, .int h0f24, .int h0f25, .ref h14, .ref h15, .ref h16, .ref h17, .int h0f30, .int h0f31, .ref h18, .ref h19, .ref h20, .ref h21]), (h16, aI (k 0) 240 (gtP (h0f30.toInt) (h0f1.toInt) (h0f31.toInt))), (h17, aI (k 0) 12000 (plP (h0f30.toInt) ((0 : Int32).toInt) ((0 : Int32).toInt)))] _ := hT
  have lp2_2 : ∀ (n : Nat) (y1 : Int32) (H : Heap) (locs : List Loc) (ls : Array Slot), (0 ≤ y1.toInt ∧ y1.toInt ≤ 60) → (h0f30.toInt + (-1) * y1.toInt + 1).toNat < n → TP D A [(h0, ob 8 [.int h0f0, .int h0f1, .int h0f2, .int h0f3, .int h0f4, .int h0f5, .ref h1, .ref h2, .int h0f8, .int h0f9, .ref h3, .ref h4, .ref h5, .ref h6, .ref h7, .ref h8, .ref h9, .int h0f17, .int h0f18, .int h0f19, .ref h10, .ref h11, .ref h12, .ref h13, .int h0f24, .int h0f25, .ref h14, .ref h15, .ref h16, .ref h17, .int h0f30, .int h0f31, .ref h18, .ref h19, .ref h20, .ref h21]), (h16, aI (k 0) 240 (gtP (h0f30.toInt) (h0f1.toInt) (h0f31.toInt))), (h17, aI (k 0) 12000 (plP (h0f30.toInt) ((0 : Int32).toInt) (y1.toInt)))] H → va_S A s.heap H locs → lv_has ls 8 [(0, .ref h0), (1, .int y1)] → W p l e Rm_cX11_roundNow_55c93 s m args below meth c H locs 0 0 Q (F0 m 2 ls []) := by
    intro n
    induction n with
    | zero => intro y1 H locs ls b_y1 hm hT hS hl; exact absurd hm (Nat.not_lt_zero _)
    | succ n ih =>
      intro y1 H locs ls b_y1 hm hT hS hl
      have ih2_2 := ih
      clear ih
      refine lv_iload_n hx hb dX11_roundNow_2 rfl (lv_at hl 1 rfl) ?_
      refine lv_aload_n hx hb dX11_roundNow_3 rfl (lv_at hl 0 rfl) ?_
      refine tz_get (ci := 8) (v := .int h0f30) (C := RX11) (F := TX11) (N := 36) hx hb hU iX11 hown hK hT 0 rfl rfl 30 (by decide) w815 (fun _ h9 => h9) rfl dX11_roundNow_4 ?_
      refine lv_icmp_ge (tgt := 23) hx hb dX11_roundNow_7 (by decide) (fun c_3 => ?_) (fun c_3 => ?_)
      · skip
        have c_3 := ni_le c_3 rfl rfl
        refine lv_iconst (v := 1) hx hb dX11_roundNow_23 (by decide) ?_
        refine lv_istore_n (lv' := [(1, .int 1), (0, .ref h0)]) hx hb dX11_roundNow_24 rfl hl (by decide) rfl (fun ls hl => ?_)
        refine lv_iconst (v := 0) hx hb dX11_roundNow_25 (by decide) ?_
        refine lv_istore_n (lv' := [(2, .int 0), (1, .int 1), (0, .ref h0)]) hx hb dX11_roundNow_26 rfl hl (by decide) rfl (fun ls hl => ?_)
        have hT := hT.wk (q := 2) (P' := aI (k 0) 12000 (plP (h0f30.toInt) ((1 : Int32).toInt) ((0 : Int32).toInt))) rfl (pl_cv (by have := li_0; have := li_1; omega))
        have hT : TP D A [(h0, ob 8 [.int h0f0, .int h0f1, .int h0f2, .int h0f3, .int h0f4, .int h0f5, .ref h1, .ref h2, .int h0f8, .int h0f9, .ref h3, .ref h4, .ref h5, .ref h6, .ref h7, .ref h8, .ref h9, .int h0f17, .int h0f18, .int h0f19, .ref h10, .ref h11, .ref h12, .ref h13, .int h0f24, .int h0f25, .ref h14, .ref h15, .ref h16, .ref h17, .int h0f30, .int h0f31, .ref h18, .ref h19, .ref h20, .ref h21]), (h16, aI (k 0) 240 (gtP (h0f30.toInt) (h0f1.toInt) (h0f31.toInt))), (h17, aI (k 0) 12000 (plP (h0f30.toInt) ((1 : Int32).toInt) ((0 : Int32).toInt)))] _ := hT
        have lp27_6 : ∀ (n : Nat) (y4 : Int32) (y5 : Int32) (H : Heap) (locs : List Loc) (ls : Array Slot), (0 ≤ y4.toInt ∧ y4.toInt ≤ 200) → (1 ≤ y5.toInt ∧ y5.toInt ≤ 200) → (200 - y4.toInt).toNat < n → TP D A [(h0, ob 8 [.int h0f0, .int h0f1, .int h0f2, .int h0f3, .int h0f4, .int h0f5, .ref h1, .ref h2, .int h0f8, .int h0f9, .ref h3, .ref h4, .ref h5, .ref h6, .ref h7, .ref h8, .ref h9, .int h0f17, .int h0f18, .int h0f19, .ref h10, .ref h11, .ref h12, .ref h13, .int h0f24, .int h0f25, .ref h14, .ref h15, .ref h16, .ref h17, .int h0f30, .int h0f31, .ref h18, .ref h19, .ref h20, .ref h21]), (h16, aI (k 0) 240 (gtP (h0f30.toInt) (h0f1.toInt) (h0f31.toInt))), (h17, aI (k 0) 12000 (plP (h0f30.toInt) (y5.toInt) ((0 : Int32).toInt)))] H → va_S A s.heap H locs → lv_has ls 8 [(0, .ref h0), (1, .int y5), (2, .int y4)] → W p l e Rm_cX11_roundNow_55c93 s m args below meth c H locs 0 0 Q (F0 m 27 ls []) := by
          intro n
          induction n with
          | zero => intro y4 y5 H locs ls b_y4 b_y5 hm hT hS hl; exact absurd hm (Nat.not_lt_zero _)
          | succ n ih =>
            intro y4 y5 H locs ls b_y4 b_y5 hm hT hS hl
            have ih27_6 := ih
            clear ih
            refine lv_iload_n hx hb dX11_roundNow_27 rfl (lv_at hl 2 rfl) ?_
            refine lv_iload_n hx hb dX11_roundNow_28 rfl (lv_at hl 1 rfl) ?_
            refine lv_icmp_ge (tgt := 222) hx hb dX11_roundNow_29 (by decide) (fun c_7 => ?_) (fun c_7 => ?_)
            · skip
              have c_7 := ni_le c_7 rfl rfl
              refine lv_iload_n hx hb dX11_roundNow_222 rfl (lv_at hl 1 rfl) ?_
              have hT := hT.wk (q := 2) (P' := aI (k 0) 12000 anI) rfl (an_I)
              have hT : TP D A [(h0, ob 8 [.int h0f0, .int h0f1, .int h0f2, .int h0f3, .int h0f4, .int h0f5, .ref h1, .ref h2, .int h0f8, .int h0f9, .ref h3, .ref h4, .ref h5, .ref h6, .ref h7, .ref h8, .ref h9, .int h0f17, .int h0f18, .int h0f19, .ref h10, .ref h11, .ref h12, .ref h13, .int h0f24, .int h0f25, .ref h14, .ref h15, .ref h16, .ref h17, .int h0f30, .int h0f31, .ref h18, .ref h19, .ref h20, .ref h21]), (h16, aI (k 0) 240 (gtP (h0f30.toInt) (h0f1.toInt) (h0f31.toInt))), (h17, aI (k 0) 12000 anI)] _ := hT
              exact tz_retI (B := B_cX11_roundNow_55c93 D k h0 h16 h17 h1 h2 h3 h4 h5 h6 h7 h8 h9 h10 h11 h12 h13 h14 h15 h18 h19 h20 h21 h0f0 h0f1 h0f2 h0f3 h0f4 h0f5 h0f8 h0f9 h0f17 h0f18 h0f19 h0f24 h0f25 h0f30 h0f31) (v := y5) hQ hx hb hr hlocks hS (Nat.le_of_ble_eq_true rfl) (Nat.le_of_ble_eq_true rfl) dX11_roundNow_223 (⟨(by omega), hT⟩)
            · skip
              have c_7 := ni_nle c_7 rfl rfl
              refine lv_iconst (v := 0) hx hb dX11_roundNow_32 (by decide) ?_
              refine lv_istore_n (lv' := [(3, .int 0), (0, .ref h0), (1, .int y5), (2, .int y4)]) hx hb dX11_roundNow_33 rfl hl (by decide) rfl (fun ls hl => ?_)
              have lp34_10 : ∀ (n : Nat) (y8 : Int32) (y9 : Int32) (H : Heap) (locs : List Loc) (ls : Array Slot), (0 ≤ y8.toInt ∧ y8.toInt ≤ 4) → (1 ≤ y9.toInt ∧ y9.toInt ≤ 200) → (y4.toInt < y9.toInt) → (h0f1.toInt + (-1) * y8.toInt + 1).toNat < n → TP D A [(h0, ob 8 [.int h0f0, .int h0f1, .int h0f2, .int h0f3, .int h0f4, .int h0f5, .ref h1, .ref h2, .int h0f8, .int h0f9, .ref h3, .ref h4, .ref h5, .ref h6, .ref h7, .ref h8, .ref h9, .int h0f17, .int h0f18, .int h0f19, .ref h10, .ref h11, .ref h12, .ref h13, .int h0f24, .int h0f25, .ref h14, .ref h15, .ref h16, .ref h17, .int h0f30, .int h0f31, .ref h18, .ref h19, .ref h20, .ref h21]), (h16, aI (k 0) 240 (gtP (h0f30.toInt) (h0f1.toInt) (h0f31.toInt))), (h17, aI (k 0) 12000 (plP (h0f30.toInt) (y9.toInt) ((0 : Int32).toInt)))] H → va_S A s.heap H locs → lv_has ls 8 [(0, .ref h0), (1, .int y9), (2, .int y4), (3, .int y8)] → W p l e Rm_cX11_roundNow_55c93 s m args below meth c H locs 0 0 Q (F0 m 34 ls []) := by
                intro n
                induction n with
                | zero => intro y8 y9 H locs ls b_y8 b_y9 x_0 hm hT hS hl; exact absurd hm (Nat.not_lt_zero _)
                | succ n ih =>
                  intro y8 y9 H locs ls b_y8 b_y9 x_0 hm hT hS hl
                  have ih34_10 := ih
                  clear ih
                  refine lv_iload_n hx hb dX11_roundNow_34 rfl (lv_at hl 3 rfl) ?_
                  refine lv_aload_n hx hb dX11_roundNow_35 rfl (lv_at hl 0 rfl) ?_
                  refine tz_get (ci := 8) (v := .int h0f1) (C := RX11) (F := TX11) (N := 36) hx hb hU iX11 hown hK hT 0 rfl rfl 1 (by decide) w786 (fun _ h9 => h9) rfl dX11_roundNow_36 ?_
                  refine lv_icmp_ge (tgt := 216) hx hb dX11_roundNow_39 (by decide) (fun c_11 => ?_) (fun c_11 => ?_)
                  · skip
                    have c_11 := ni_le c_11 rfl rfl
                    obtain ⟨v12, e_v12⟩ : ∃ x : Int32, x = y4 + Int32.ofInt 1 := ⟨_, rfl⟩
                    have f_v12 := e_v12.symm
                    have e_v12 : v12.toInt = y4.toInt + 1 := ai_add e_v12 rfl (show (Int32.ofInt 1).toInt = 1 from (by decide +kernel)) (by omega)
                    refine lv_iinc (v := v12) (lv' := [(2, .int v12), (0, .ref h0), (1, .int y9), (3, .int y8)]) hx hb dX11_roundNow_216 hl (k := 2) rfl f_v12 (by decide) rfl (fun ls hl => ?_)
                    refine lv_goto (tgt := 27) hx hb dX11_roundNow_219 (by decide) ?_
                    exact ih27_6 v12 y9 _ _ _ (by omega) (by omega)  (by omega) hT hS (lv_sub hl [1, 2, 0] rfl)
                  · skip
                    have c_11 := ni_nle c_11 rfl rfl
                    refine lv_iload_n hx hb dX11_roundNow_42 rfl (lv_at hl 1 rfl) ?_
                    refine lv_sipush (v := 200) hx hb dX11_roundNow_43 (by decide) ?_
                    refine lv_icmp_ge (tgt := 216) hx hb dX11_roundNow_46 (by decide) (fun c_13 => ?_) (fun c_13 => ?_)
                    · skip
                      have c_13 := ni_le c_13 li_200 rfl
                      obtain ⟨v14, e_v14⟩ : ∃ x : Int32, x = y4 + Int32.ofInt 1 := ⟨_, rfl⟩
                      have f_v14 := e_v14.symm
                      have e_v14 : v14.toInt = y4.toInt + 1 := ai_add e_v14 rfl (show (Int32.ofInt 1).toInt = 1 from (by decide +kernel)) (by omega)
                      refine lv_iinc (v := v14) (lv' := [(2, .int v14), (0, .ref h0), (1, .int y9), (3, .int y8)]) hx hb dX11_roundNow_216 hl (k := 2) rfl f_v14 (by decide) rfl (fun ls hl => ?_)
                      refine lv_goto (tgt := 27) hx hb dX11_roundNow_219 (by decide) ?_
                      exact ih27_6 v14 y9 _ _ _ (by omega) (by omega)  (by omega) hT hS (lv_sub hl [1, 2, 0] rfl)
                    · skip
                      have c_13 := ni_nle c_13 li_200 rfl
                      refine lv_iconst (v := 0) hx hb dX11_roundNow_49 (by decide) ?_
                      refine lv_istore (lv' := [(4, .int 0), (0, .ref h0), (1, .int y9), (2, .int y4), (3, .int y8)]) hx hb dX11_roundNow_50 hl (by decide) rfl (fun ls hl => ?_)
                      have lp52_16 : ∀ (n : Nat) (y15 : Int32) (H : Heap) (locs : List Loc) (ls : Array Slot), (0 ≤ y15.toInt ∧ y15.toInt ≤ 60) → (y4.toInt < y9.toInt) → (h0f30.toInt + (-1) * y15.toInt + 1).toNat < n → TP D A [(h0, ob 8 [.int h0f0, .int h0f1, .int h0f2, .int h0f3, .int h0f4, .int h0f5, .ref h1, .ref h2, .int h0f8, .int h0f9, .ref h3, .ref h4, .ref h5, .ref h6, .ref h7, .ref h8, .ref h9, .int h0f17, .int h0f18, .int h0f19, .ref h10, .ref h11, .ref h12, .ref h13, .int h0f24, .int h0f25, .ref h14, .ref h15, .ref h16, .ref h17, .int h0f30, .int h0f31, .ref h18, .ref h19, .ref h20, .ref h21]), (h16, aI (k 0) 240 (gtP (h0f30.toInt) (h0f1.toInt) (h0f31.toInt))), (h17, aI (k 0) 12000 (plP (h0f30.toInt) (y9.toInt) (y15.toInt)))] H → va_S A s.heap H locs → lv_has ls 8 [(0, .ref h0), (1, .int y9), (2, .int y4), (3, .int y8), (4, .int y15)] → W p l e Rm_cX11_roundNow_55c93 s m args below meth c H locs 0 0 Q (F0 m 52 ls []) := by
                        intro n
                        induction n with
                        | zero => intro y15 H locs ls b_y15 x_0 hm hT hS hl; exact absurd hm (Nat.not_lt_zero _)
                        | succ n ih =>
                          intro y15 H locs ls b_y15 x_0 hm hT hS hl
                          have ih52_16 := ih
                          clear ih
                          refine lv_iload hx hb dX11_roundNow_52 (lv_at hl 4 rfl) ?_
                          refine lv_aload_n hx hb dX11_roundNow_54 rfl (lv_at hl 0 rfl) ?_
                          refine tz_get (ci := 8) (v := .int h0f30) (C := RX11) (F := TX11) (N := 36) hx hb hU iX11 hown hK hT 0 rfl rfl 30 (by decide) w815 (fun _ h9 => h9) rfl dX11_roundNow_55 ?_
                          refine lv_icmp_ge (tgt := 101) hx hb dX11_roundNow_58 (by decide) (fun c_17 => ?_) (fun c_17 => ?_)
                          · skip
                            have c_17 := ni_le c_17 rfl rfl
                            refine lv_iconst (v := 1) hx hb dX11_roundNow_101 (by decide) ?_
                            refine lv_istore (lv' := [(4, .int 1), (0, .ref h0), (1, .int y9), (2, .int y4), (3, .int y8)]) hx hb dX11_roundNow_102 hl (by decide) rfl (fun ls hl => ?_)
                            refine lv_iconst (v := 0) hx hb dX11_roundNow_104 (by decide) ?_
                            refine lv_istore (lv' := [(5, .int 0), (4, .int 1), (0, .ref h0), (1, .int y9), (2, .int y4), (3, .int y8)]) hx hb dX11_roundNow_105 hl (by decide) rfl (fun ls hl => ?_)
                            have hT := hT.wk (q := 2) (P' := aI (k 0) 12000 (plP (h0f30.toInt) (y9.toInt + 1) ((0 : Int32).toInt))) rfl (pl_cv (by have := li_0; omega))
                            have hT : TP D A [(h0, ob 8 [.int h0f0, .int h0f1, .int h0f2, .int h0f3, .int h0f4, .int h0f5, .ref h1, .ref h2, .int h0f8, .int h0f9, .ref h3, .ref h4, .ref h5, .ref h6, .ref h7, .ref h8, .ref h9, .int h0f17, .int h0f18, .int h0f19, .ref h10, .ref h11, .ref h12, .ref h13, .int h0f24, .int h0f25, .ref h14, .ref h15, .ref h16, .ref h17, .int h0f30, .int h0f31, .ref h18, .ref h19, .ref h20, .ref h21]), (h16, aI (k 0) 240 (gtP (h0f30.toInt) (h0f1.toInt) (h0f31.toInt))), (h17, aI (k 0) 12000 (plP (h0f30.toInt) (y9.toInt + 1) ((0 : Int32).toInt)))] _ := hT
                            have lp107_20 : ∀ (n : Nat) (y18 : Int32) (y19 : Int32) (H : Heap) (locs : List Loc) (ls : Array Slot), (0 ≤ y18.toInt ∧ y18.toInt ≤ 199) → (0 ≤ y19.toInt ∧ y19.toInt ≤ 1) → (y4.toInt < y9.toInt) → (y9.toInt + (-1) * y18.toInt + 1).toNat < n → TP D A [(h0, ob 8 [.int h0f0, .int h0f1, .int h0f2, .int h0f3, .int h0f4, .int h0f5, .ref h1, .ref h2, .int h0f8, .int h0f9, .ref h3, .ref h4, .ref h5, .ref h6, .ref h7, .ref h8, .ref h9, .int h0f17, .int h0f18, .int h0f19, .ref h10, .ref h11, .ref h12, .ref h13, .int h0f24, .int h0f25, .ref h14, .ref h15, .ref h16, .ref h17, .int h0f30, .int h0f31, .ref h18, .ref h19, .ref h20, .ref h21]), (h16, aI (k 0) 240 (gtP (h0f30.toInt) (h0f1.toInt) (h0f31.toInt))), (h17, aI (k 0) 12000 (plP (h0f30.toInt) (y9.toInt + 1) ((0 : Int32).toInt)))] H → va_S A s.heap H locs → lv_has ls 8 [(0, .ref h0), (1, .int y9), (2, .int y4), (3, .int y8), (4, .int y19), (5, .int y18)] → W p l e Rm_cX11_roundNow_55c93 s m args below meth c H locs 0 0 Q (F0 m 107 ls []) := by
                              intro n
                              induction n with
                              | zero => intro y18 y19 H locs ls b_y18 b_y19 x_0 hm hT hS hl; exact absurd hm (Nat.not_lt_zero _)
                              | succ n ih =>
                                intro y18 y19 H locs ls b_y18 b_y19 x_0 hm hT hS hl
                                have ih107_20 := ih
                                clear ih
                                refine lv_iload hx hb dX11_roundNow_107 (lv_at hl 5 rfl) ?_
                                refine lv_iload_n hx hb dX11_roundNow_109 rfl (lv_at hl 1 rfl) ?_
                                refine lv_icmp_ge (tgt := 197) hx hb dX11_roundNow_110 (by decide) (fun c_21 => ?_) (fun c_21 => ?_)
                                · skip
                                  have c_21 := ni_le c_21 rfl rfl
                                  refine lv_iload_n hx hb dX11_roundNow_197 rfl (lv_at hl 1 rfl) ?_
                                  refine lv_iload hx hb dX11_roundNow_198 (lv_at hl 4 rfl) ?_
                                  refine lv_if_eq (tgt := 207) hx hb dX11_roundNow_200 (by decide) (fun c_22 => ?_) (fun c_22 => ?_)
                                  · skip
                                    have c_22 := ni_eq c_22 rfl li_0
                                    refine lv_iconst (v := 0) hx hb dX11_roundNow_207 (by decide) ?_
                                    refine lv_iadd hx hb dX11_roundNow_208 (lv_topi (fun v23 e_v23 => ?_))
                                    have e_v23 := ai_add e_v23 rfl li_0 (by omega)
                                    refine lv_istore_n (lv' := [(1, .int v23), (0, .ref h0), (2, .int y4), (3, .int y8), (4, .int y19), (5, .int y18)]) hx hb dX11_roundNow_209 rfl hl (by decide) rfl (fun ls hl => ?_)
                                    obtain ⟨v24, e_v24⟩ : ∃ x : Int32, x = y8 + Int32.ofInt 1 := ⟨_, rfl⟩
                                    have f_v24 := e_v24.symm
                                    have e_v24 : v24.toInt = y8.toInt + 1 := ai_add e_v24 rfl (show (Int32.ofInt 1).toInt = 1 from (by decide +kernel)) (by omega)
                                    refine lv_iinc (v := v24) (lv' := [(3, .int v24), (1, .int v23), (0, .ref h0), (2, .int y4), (4, .int y19), (5, .int y18)]) hx hb dX11_roundNow_210 hl (k := 3) rfl f_v24 (by decide) rfl (fun ls hl => ?_)
                                    refine lv_goto (tgt := 34) hx hb dX11_roundNow_213 (by decide) ?_
                                    have hT := hT.wk (q := 2) (P' := aI (k 0) 12000 (plP (h0f30.toInt) (v23.toInt) ((0 : Int32).toInt))) rfl (pl_cv (by have := li_0; omega))
                                    have hT : TP D A [(h0, ob 8 [.int h0f0, .int h0f1, .int h0f2, .int h0f3, .int h0f4, .int h0f5, .ref h1, .ref h2, .int h0f8, .int h0f9, .ref h3, .ref h4, .ref h5, .ref h6, .ref h7, .ref h8, .ref h9, .int h0f17, .int h0f18, .int h0f19, .ref h10, .ref h11, .ref h12, .ref h13, .int h0f24, .int h0f25, .ref h14, .ref h15, .ref h16, .ref h17, .int h0f30, .int h0f31, .ref h18, .ref h19, .ref h20, .ref h21]), (h16, aI (k 0) 240 (gtP (h0f30.toInt) (h0f1.toInt) (h0f31.toInt))), (h17, aI (k 0) 12000 (plP (h0f30.toInt) (v23.toInt) ((0 : Int32).toInt)))] _ := hT
                                    exact ih34_10 v24 v23 _ _ _ (by omega) (by omega) (by omega) (by omega) hT hS (lv_sub hl [2, 1, 3, 0] rfl)
                                  · skip
                                    have c_22 := ni_ne c_22 rfl li_0
                                    refine lv_iconst (v := 1) hx hb dX11_roundNow_203 (by decide) ?_
                                    refine lv_goto (tgt := 208) hx hb dX11_roundNow_204 (by decide) ?_
                                    refine lv_iadd hx hb dX11_roundNow_208 (lv_topi (fun v25 e_v25 => ?_))
                                    have e_v25 := ai_add e_v25 rfl li_1 (by omega)
                                    refine lv_istore_n (lv' := [(1, .int v25), (0, .ref h0), (2, .int y4), (3, .int y8), (4, .int y19), (5, .int y18)]) hx hb dX11_roundNow_209 rfl hl (by decide) rfl (fun ls hl => ?_)
                                    obtain ⟨v26, e_v26⟩ : ∃ x : Int32, x = y8 + Int32.ofInt 1 := ⟨_, rfl⟩
                                    have f_v26 := e_v26.symm
                                    have e_v26 : v26.toInt = y8.toInt + 1 := ai_add e_v26 rfl (show (Int32.ofInt 1).toInt = 1 from (by decide +kernel)) (by omega)
                                    refine lv_iinc (v := v26) (lv' := [(3, .int v26), (1, .int v25), (0, .ref h0), (2, .int y4), (4, .int y19), (5, .int y18)]) hx hb dX11_roundNow_210 hl (k := 3) rfl f_v26 (by decide) rfl (fun ls hl => ?_)
                                    refine lv_goto (tgt := 34) hx hb dX11_roundNow_213 (by decide) ?_
                                    have hT := hT.wk (q := 2) (P' := aI (k 0) 12000 (plP (h0f30.toInt) (v25.toInt) ((0 : Int32).toInt))) rfl (pl_cv (by have := li_0; omega))
                                    have hT : TP D A [(h0, ob 8 [.int h0f0, .int h0f1, .int h0f2, .int h0f3, .int h0f4, .int h0f5, .ref h1, .ref h2, .int h0f8, .int h0f9, .ref h3, .ref h4, .ref h5, .ref h6, .ref h7, .ref h8, .ref h9, .int h0f17, .int h0f18, .int h0f19, .ref h10, .ref h11, .ref h12, .ref h13, .int h0f24, .int h0f25, .ref h14, .ref h15, .ref h16, .ref h17, .int h0f30, .int h0f31, .ref h18, .ref h19, .ref h20, .ref h21]), (h16, aI (k 0) 240 (gtP (h0f30.toInt) (h0f1.toInt) (h0f31.toInt))), (h17, aI (k 0) 12000 (plP (h0f30.toInt) (v25.toInt) ((0 : Int32).toInt)))] _ := hT
                                    exact ih34_10 v26 v25 _ _ _ (by omega) (by omega) (by omega) (by omega) hT hS (lv_sub hl [2, 1, 3, 0] rfl)
                                · skip
                                  have c_21 := ni_nle c_21 rfl rfl
                                  refine lv_iload hx hb dX11_roundNow_113 (lv_at hl 4 rfl) ?_
                                  refine lv_if_eq (tgt := 197) hx hb dX11_roundNow_115 (by decide) (fun c_27 => ?_) (fun c_27 => ?_)
                                  · skip
                                    have c_27 := ni_eq c_27 rfl li_0
                                    refine lv_iload_n hx hb dX11_roundNow_197 rfl (lv_at hl 1 rfl) ?_
                                    refine lv_iload hx hb dX11_roundNow_198 (lv_at hl 4 rfl) ?_
                                    refine lv_if_eq (tgt := 207) hx hb dX11_roundNow_200 (by decide) (fun c_28 => ?_) (fun c_28 => ?_)
                                    · skip
                                      have c_28 := ni_eq c_28 rfl li_0
                                      refine lv_iconst (v := 0) hx hb dX11_roundNow_207 (by decide) ?_
                                      refine lv_iadd hx hb dX11_roundNow_208 (lv_topi (fun v29 e_v29 => ?_))
                                      have e_v29 := ai_add e_v29 rfl li_0 (by omega)
                                      refine lv_istore_n (lv' := [(1, .int v29), (0, .ref h0), (2, .int y4), (3, .int y8), (4, .int y19), (5, .int y18)]) hx hb dX11_roundNow_209 rfl hl (by decide) rfl (fun ls hl => ?_)
                                      obtain ⟨v30, e_v30⟩ : ∃ x : Int32, x = y8 + Int32.ofInt 1 := ⟨_, rfl⟩
                                      have f_v30 := e_v30.symm
                                      have e_v30 : v30.toInt = y8.toInt + 1 := ai_add e_v30 rfl (show (Int32.ofInt 1).toInt = 1 from (by decide +kernel)) (by omega)
                                      refine lv_iinc (v := v30) (lv' := [(3, .int v30), (1, .int v29), (0, .ref h0), (2, .int y4), (4, .int y19), (5, .int y18)]) hx hb dX11_roundNow_210 hl (k := 3) rfl f_v30 (by decide) rfl (fun ls hl => ?_)
                                      refine lv_goto (tgt := 34) hx hb dX11_roundNow_213 (by decide) ?_
                                      have hT := hT.wk (q := 2) (P' := aI (k 0) 12000 (plP (h0f30.toInt) (v29.toInt) ((0 : Int32).toInt))) rfl (pl_cv (by have := li_0; omega))
                                      have hT : TP D A [(h0, ob 8 [.int h0f0, .int h0f1, .int h0f2, .int h0f3, .int h0f4, .int h0f5, .ref h1, .ref h2, .int h0f8, .int h0f9, .ref h3, .ref h4, .ref h5, .ref h6, .ref h7, .ref h8, .ref h9, .int h0f17, .int h0f18, .int h0f19, .ref h10, .ref h11, .ref h12, .ref h13, .int h0f24, .int h0f25, .ref h14, .ref h15, .ref h16, .ref h17, .int h0f30, .int h0f31, .ref h18, .ref h19, .ref h20, .ref h21]), (h16, aI (k 0) 240 (gtP (h0f30.toInt) (h0f1.toInt) (h0f31.toInt))), (h17, aI (k 0) 12000 (plP (h0f30.toInt) (v29.toInt) ((0 : Int32).toInt)))] _ := hT
                                      exact ih34_10 v30 v29 _ _ _ (by omega) (by omega) (by omega) (by omega) hT hS (lv_sub hl [2, 1, 3, 0] rfl)
                                    · skip
                                      have c_28 := ni_ne c_28 rfl li_0
                                      exfalso; omega
                                  · skip
                                    have c_27 := ni_ne c_27 rfl li_0
                                    refine lv_iconst (v := 1) hx hb dX11_roundNow_118 (by decide) ?_
                                    refine lv_istore (lv' := [(6, .int 1), (0, .ref h0), (1, .int y9), (2, .int y4), (3, .int y8), (4, .int y19), (5, .int y18)]) hx hb dX11_roundNow_119 hl (by decide) rfl (fun ls hl => ?_)
                                    refine lv_iconst (v := 0) hx hb dX11_roundNow_121 (by decide) ?_
                                    refine lv_istore (lv' := [(7, .int 0), (6, .int 1), (0, .ref h0), (1, .int y9), (2, .int y4), (3, .int y8), (4, .int y19), (5, .int y18)]) hx hb dX11_roundNow_122 hl (by decide) rfl (fun ls hl => ?_)
                                    have lp124_33 : ∀ (n : Nat) (y31 : Int32) (y32 : Int32) (H : Heap) (locs : List Loc) (ls : Array Slot), (0 ≤ y31.toInt ∧ y31.toInt ≤ 60) → (0 ≤ y32.toInt ∧ y32.toInt ≤ 1) → (y4.toInt < y9.toInt) → (h0f30.toInt + (-1) * y31.toInt + 1).toNat < n → TP D A [(h0, ob 8 [.int h0f0, .int h0f1, .int h0f2, .int h0f3, .int h0f4, .int h0f5, .ref h1, .ref h2, .int h0f8, .int h0f9, .ref h3, .ref h4, .ref h5, .ref h6, .ref h7, .ref h8, .ref h9, .int h0f17, .int h0f18, .int h0f19, .ref h10, .ref h11, .ref h12, .ref h13, .int h0f24, .int h0f25, .ref h14, .ref h15, .ref h16, .ref h17, .int h0f30, .int h0f31, .ref h18, .ref h19, .ref h20, .ref h21]), (h16, aI (k 0) 240 (gtP (h0f30.toInt) (h0f1.toInt) (h0f31.toInt))), (h17, aI (k 0) 12000 (plP (h0f30.toInt) (y9.toInt + 1) ((0 : Int32).toInt)))] H → va_S A s.heap H locs → lv_has ls 8 [(0, .ref h0), (1, .int y9), (2, .int y4), (3, .int y8), (5, .int y18), (6, .int y32), (7, .int y31)] → W p l e Rm_cX11_roundNow_55c93 s m args below meth c H locs 0 0 Q (F0 m 124 ls []) := by
                                      intro n
                                      induction n with
                                      | zero => intro y31 y32 H locs ls b_y31 b_y32 x_0 hm hT hS hl; exact absurd hm (Nat.not_lt_zero _)
                                      | succ n ih =>
                                        intro y31 y32 H locs ls b_y31 b_y32 x_0 hm hT hS hl
                                        have ih124_33 := ih
                                        clear ih
                                        refine lv_iload hx hb dX11_roundNow_124 (lv_at hl 6 rfl) ?_
                                        refine lv_aload_n hx hb dX11_roundNow_126 rfl (lv_at hl 0 rfl) ?_
                                        refine tz_get (ci := 8) (v := .int h0f30) (C := RX11) (F := TX11) (N := 36) hx hb hU iX11 hown hK hT 0 rfl rfl 30 (by decide) w815 (fun _ h9 => h9) rfl dX11_roundNow_127 ?_
                                        refine lv_icmp_ge (tgt := 179) hx hb dX11_roundNow_130 (by decide) (fun c_34 => ?_) (fun c_34 => ?_)
                                        · skip
                                          have c_34 := ni_le c_34 rfl rfl
                                          refine lv_iload hx hb dX11_roundNow_179 (lv_at hl 5 rfl) ?_
                                          refine lv_if_ne (tgt := 188) hx hb dX11_roundNow_181 (by decide) (fun c_35 => ?_) (fun c_35 => ?_)
                                          · skip
                                            have c_35 := ni_ne c_35 rfl li_0
                                            refine lv_iconst (v := 0) hx hb dX11_roundNow_188 (by decide) ?_
                                            refine lv_istore (lv' := [(4, .int 0), (0, .ref h0), (1, .int y9), (2, .int y4), (3, .int y8), (5, .int y18), (6, .int y32), (7, .int y31)]) hx hb dX11_roundNow_189 hl (by decide) rfl (fun ls hl => ?_)
                                            obtain ⟨v36, e_v36⟩ : ∃ x : Int32, x = y18 + Int32.ofInt 1 := ⟨_, rfl⟩
                                            have f_v36 := e_v36.symm
                                            have e_v36 : v36.toInt = y18.toInt + 1 := ai_add e_v36 rfl (show (Int32.ofInt 1).toInt = 1 from (by decide +kernel)) (by omega)
                                            refine lv_iinc (v := v36) (lv' := [(5, .int v36), (4, .int 0), (0, .ref h0), (1, .int y9), (2, .int y4), (3, .int y8), (6, .int y32), (7, .int y31)]) hx hb dX11_roundNow_191 hl (k := 5) rfl f_v36 (by decide) rfl (fun ls hl => ?_)
                                            refine lv_goto (tgt := 107) hx hb dX11_roundNow_194 (by decide) ?_
                                            exact ih107_20 v36 (0) _ _ _ (by have := li_0; omega) (by have := li_0; omega) (by have := li_0; omega) (by have := li_0; omega) hT hS (lv_sub hl [2, 3, 4, 5, 1, 0] rfl)
                                          · skip
                                            have c_35 := ni_eq c_35 rfl li_0
                                            refine lv_iconst (v := 1) hx hb dX11_roundNow_184 (by decide) ?_
                                            refine lv_goto (tgt := 189) hx hb dX11_roundNow_185 (by decide) ?_
                                            refine lv_istore (lv' := [(4, .int 1), (0, .ref h0), (1, .int y9), (2, .int y4), (3, .int y8), (5, .int y18), (6, .int y32), (7, .int y31)]) hx hb dX11_roundNow_189 hl (by decide) rfl (fun ls hl => ?_)
                                            obtain ⟨v37, e_v37⟩ : ∃ x : Int32, x = y18 + Int32.ofInt 1 := ⟨_, rfl⟩
                                            have f_v37 := e_v37.symm
                                            have e_v37 : v37.toInt = y18.toInt + 1 := ai_add e_v37 rfl (show (Int32.ofInt 1).toInt = 1 from (by decide +kernel)) (by omega)
                                            refine lv_iinc (v := v37) (lv' := [(5, .int v37), (4, .int 1), (0, .ref h0), (1, .int y9), (2, .int y4), (3, .int y8), (6, .int y32), (7, .int y31)]) hx hb dX11_roundNow_191 hl (k := 5) rfl f_v37 (by decide) rfl (fun ls hl => ?_)
                                            refine lv_goto (tgt := 107) hx hb dX11_roundNow_194 (by decide) ?_
                                            exact ih107_20 v37 (1) _ _ _ (by have := li_1; omega) (by have := li_1; omega) (by have := li_1; omega) (by have := li_1; omega) hT hS (lv_sub hl [2, 3, 4, 5, 1, 0] rfl)
                                        · skip
                                          have c_34 := ni_nle c_34 rfl rfl
                                          refine lv_iload hx hb dX11_roundNow_133 (lv_at hl 5 rfl) ?_
                                          refine lv_if_eq (tgt := 179) hx hb dX11_roundNow_135 (by decide) (fun c_38 => ?_) (fun c_38 => ?_)
                                          · skip
                                            have c_38 := ni_eq c_38 rfl li_0
                                            refine lv_iload hx hb dX11_roundNow_179 (lv_at hl 5 rfl) ?_
                                            refine lv_if_ne (tgt := 188) hx hb dX11_roundNow_181 (by decide) (fun c_39 => ?_) (fun c_39 => ?_)
                                            · skip
                                              have c_39 := ni_ne c_39 rfl li_0
                                              exfalso; omega
                                            · skip
                                              have c_39 := ni_eq c_39 rfl li_0
                                              refine lv_iconst (v := 1) hx hb dX11_roundNow_184 (by decide) ?_
                                              refine lv_goto (tgt := 189) hx hb dX11_roundNow_185 (by decide) ?_
                                              refine lv_istore (lv' := [(4, .int 1), (0, .ref h0), (1, .int y9), (2, .int y4), (3, .int y8), (5, .int y18), (6, .int y32), (7, .int y31)]) hx hb dX11_roundNow_189 hl (by decide) rfl (fun ls hl => ?_)
                                              obtain ⟨v40, e_v40⟩ : ∃ x : Int32, x = y18 + Int32.ofInt 1 := ⟨_, rfl⟩
                                              have f_v40 := e_v40.symm
                                              have e_v40 : v40.toInt = y18.toInt + 1 := ai_add e_v40 rfl (show (Int32.ofInt 1).toInt = 1 from (by decide +kernel)) (by omega)
                                              refine lv_iinc (v := v40) (lv' := [(5, .int v40), (4, .int 1), (0, .ref h0), (1, .int y9), (2, .int y4), (3, .int y8), (6, .int y32), (7, .int y31)]) hx hb dX11_roundNow_191 hl (k := 5) rfl f_v40 (by decide) rfl (fun ls hl => ?_)
                                              refine lv_goto (tgt := 107) hx hb dX11_roundNow_194 (by decide) ?_
                                              exact ih107_20 v40 (1) _ _ _ (by have := li_1; omega) (by have := li_1; omega) (by have := li_1; omega) (by have := li_1; omega) hT hS (lv_sub hl [2, 3, 4, 5, 1, 0] rfl)
                                          · skip
                                            have c_38 := ni_ne c_38 rfl li_0
                                            refine lv_aload_n hx hb dX11_roundNow_138 rfl (lv_at hl 0 rfl) ?_
                                            refine tz_get (ci := 8) (v := .ref h17) (C := RX11) (F := TX11) (N := 36) hx hb hU iX11 hown hK hT 0 rfl rfl 29 (by decide) w814 (fun _ h9 => h9) rfl dX11_roundNow_139 ?_
                                            refine lv_bipush (v := 60) hx hb dX11_roundNow_142 (by decide) ?_
                                            refine lv_iload hx hb dX11_roundNow_144 (lv_at hl 4 rfl) ?_
                                            refine lv_imul hx hb dX11_roundNow_146 (lv_topi (fun v41 e_v41 => ?_))
                                            have e_v41 := ai_mul e_v41 li_60 rfl (by omega)
                                            refine lv_iload hx hb dX11_roundNow_147 (lv_at hl 6 rfl) ?_
                                            refine lv_iadd hx hb dX11_roundNow_149 (lv_topi (fun v42 e_v42 => ?_))
                                            have e_v42 := ai_add e_v42 rfl rfl (by omega)
                                            refine tz_iald hx hb hK hT 2 rfl (by omega) dX11_roundNow_150 (fun v43 e_v43 => ?_)
                                            clear e_v43
                                            refine lv_aload_n hx hb dX11_roundNow_151 rfl (lv_at hl 0 rfl) ?_
                                            refine tz_get (ci := 8) (v := .ref h17) (C := RX11) (F := TX11) (N := 36) hx hb hU iX11 hown hK hT 0 rfl rfl 29 (by decide) w814 (fun _ h9 => h9) rfl dX11_roundNow_152 ?_
                                            refine lv_bipush (v := 60) hx hb dX11_roundNow_155 (by decide) ?_
                                            refine lv_iload_n hx hb dX11_roundNow_157 rfl (lv_at hl 1 rfl) ?_
                                            refine lv_imul hx hb dX11_roundNow_158 (lv_topi (fun v44 e_v44 => ?_))
                                            have e_v44 := ai_mul e_v44 li_60 rfl (by omega)
                                            refine lv_iload hx hb dX11_roundNow_159 (lv_at hl 6 rfl) ?_
                                            refine lv_iadd hx hb dX11_roundNow_161 (lv_topi (fun v45 e_v45 => ?_))
                                            have e_v45 := ai_add e_v45 rfl rfl (by omega)
                                            refine tz_iald hx hb hK hT 2 rfl (by omega) dX11_roundNow_162 (fun v46 e_v46 => ?_)
                                            clear e_v46
                                            refine lv_icmp_ne (tgt := 170) hx hb dX11_roundNow_163 (by decide) (fun c_47 => ?_) (fun c_47 => ?_)
                                            · skip
                                              have c_47 := ni_ne c_47 rfl rfl
                                              refine lv_iconst (v := 0) hx hb dX11_roundNow_170 (by decide) ?_
                                              refine lv_istore (lv' := [(6, .int 0), (0, .ref h0), (1, .int y9), (2, .int y4), (3, .int y8), (5, .int y18), (7, .int y31)]) hx hb dX11_roundNow_171 hl (by decide) rfl (fun ls hl => ?_)
                                              obtain ⟨v48, e_v48⟩ : ∃ x : Int32, x = y31 + Int32.ofInt 1 := ⟨_, rfl⟩
                                              have f_v48 := e_v48.symm
                                              have e_v48 : v48.toInt = y31.toInt + 1 := ai_add e_v48 rfl (show (Int32.ofInt 1).toInt = 1 from (by decide +kernel)) (by omega)
                                              refine lv_iinc (v := v48) (lv' := [(7, .int v48), (6, .int 0), (0, .ref h0), (1, .int y9), (2, .int y4), (3, .int y8), (5, .int y18)]) hx hb dX11_roundNow_173 hl (k := 6) rfl f_v48 (by decide) rfl (fun ls hl => ?_)
                                              refine lv_goto (tgt := 124) hx hb dX11_roundNow_176 (by decide) ?_
                                              exact ih124_33 v48 (0) _ _ _ (by have := li_0; omega) (by have := li_0; omega) (by have := li_0; omega) (by have := li_0; omega) hT hS (lv_sub hl [2, 3, 4, 5, 6, 1, 0] rfl)
                                            · skip
                                              have c_47 := ni_eq c_47 rfl rfl
                                              refine lv_iconst (v := 1) hx hb dX11_roundNow_166 (by decide) ?_
                                              refine lv_goto (tgt := 171) hx hb dX11_roundNow_167 (by decide) ?_
                                              refine lv_istore (lv' := [(6, .int 1), (0, .ref h0), (1, .int y9), (2, .int y4), (3, .int y8), (5, .int y18), (7, .int y31)]) hx hb dX11_roundNow_171 hl (by decide) rfl (fun ls hl => ?_)
                                              obtain ⟨v49, e_v49⟩ : ∃ x : Int32, x = y31 + Int32.ofInt 1 := ⟨_, rfl⟩
                                              have f_v49 := e_v49.symm
                                              have e_v49 : v49.toInt = y31.toInt + 1 := ai_add e_v49 rfl (show (Int32.ofInt 1).toInt = 1 from (by decide +kernel)) (by omega)
                                              refine lv_iinc (v := v49) (lv' := [(7, .int v49), (6, .int 1), (0, .ref h0), (1, .int y9), (2, .int y4), (3, .int y8), (5, .int y18)]) hx hb dX11_roundNow_173 hl (k := 6) rfl f_v49 (by decide) rfl (fun ls hl => ?_)
                                              refine lv_goto (tgt := 124) hx hb dX11_roundNow_176 (by decide) ?_
                                              exact ih124_33 v49 (1) _ _ _ (by have := li_1; omega) (by have := li_1; omega) (by have := li_1; omega) (by have := li_1; omega) hT hS (lv_sub hl [2, 3, 4, 5, 6, 1, 0] rfl)
                                    exact lp124_33 ((h0f30.toInt + (-1) * (0 : Int32).toInt + 1).toNat + 1) (0) (1) _ _ _ (by have := li_0; have := li_1; omega) (by have := li_0; have := li_1; omega) (by have := li_0; have := li_1; omega) (Nat.lt_succ_self _) hT hS (lv_sub hl [2, 3, 4, 5, 7, 1, 0] rfl)
                            exact lp107_20 ((y9.toInt + (-1) * (0 : Int32).toInt + 1).toNat + 1) (0) (1) _ _ _ (by have := li_0; have := li_1; omega) (by have := li_0; have := li_1; omega) (by have := li_0; have := li_1; omega) (Nat.lt_succ_self _) hT hS (lv_sub hl [2, 3, 4, 5, 1, 0] rfl)
                          · skip
                            have c_17 := ni_nle c_17 rfl rfl
                            refine lv_aload_n hx hb dX11_roundNow_61 rfl (lv_at hl 0 rfl) ?_
                            refine tz_get (ci := 8) (v := .ref h17) (C := RX11) (F := TX11) (N := 36) hx hb hU iX11 hown hK hT 0 rfl rfl 29 (by decide) w814 (fun _ h9 => h9) rfl dX11_roundNow_62 ?_
                            refine lv_bipush (v := 60) hx hb dX11_roundNow_65 (by decide) ?_
                            refine lv_iload_n hx hb dX11_roundNow_67 rfl (lv_at hl 1 rfl) ?_
                            refine lv_imul hx hb dX11_roundNow_68 (lv_topi (fun v50 e_v50 => ?_))
                            have e_v50 := ai_mul e_v50 li_60 rfl (by omega)
                            refine lv_iload hx hb dX11_roundNow_69 (lv_at hl 4 rfl) ?_
                            refine lv_iadd hx hb dX11_roundNow_71 (lv_topi (fun v51 e_v51 => ?_))
                            have e_v51 := ai_add e_v51 rfl rfl (by omega)
                            refine lv_aload_n hx hb dX11_roundNow_72 rfl (lv_at hl 0 rfl) ?_
                            refine tz_get (ci := 8) (v := .ref h16) (C := RX11) (F := TX11) (N := 36) hx hb hU iX11 hown hK hT 0 rfl rfl 28 (by decide) w813 (fun _ h9 => h9) rfl dX11_roundNow_73 ?_
                            refine lv_bipush (v := 60) hx hb dX11_roundNow_76 (by decide) ?_
                            refine lv_iload_n hx hb dX11_roundNow_78 rfl (lv_at hl 3 rfl) ?_
                            refine lv_imul hx hb dX11_roundNow_79 (lv_topi (fun v52 e_v52 => ?_))
                            have e_v52 := ai_mul e_v52 li_60 rfl (by omega)
                            refine lv_aload_n hx hb dX11_roundNow_80 rfl (lv_at hl 0 rfl) ?_
                            refine tz_get (ci := 8) (v := .ref h17) (C := RX11) (F := TX11) (N := 36) hx hb hU iX11 hown hK hT 0 rfl rfl 29 (by decide) w814 (fun _ h9 => h9) rfl dX11_roundNow_81 ?_
                            refine lv_bipush (v := 60) hx hb dX11_roundNow_84 (by decide) ?_
                            refine lv_iload_n hx hb dX11_roundNow_86 rfl (lv_at hl 2 rfl) ?_
                            refine lv_imul hx hb dX11_roundNow_87 (lv_topi (fun v53 e_v53 => ?_))
                            have e_v53 := ai_mul e_v53 li_60 rfl (by omega)
                            refine lv_iload hx hb dX11_roundNow_88 (lv_at hl 4 rfl) ?_
                            refine lv_iadd hx hb dX11_roundNow_90 (lv_topi (fun v54 e_v54 => ?_))
                            have e_v54 := ai_add e_v54 rfl rfl (by omega)
                            refine tz_iald hx hb hK hT 2 rfl (by omega) dX11_roundNow_91 (fun v55 e_v55 => ?_)
                            have e_v55 := pl_get (r := y4.toInt) (c := y15.toInt) e_v55 (by omega)
                            refine lv_iadd hx hb dX11_roundNow_92 (lv_topi (fun v56 e_v56 => ?_))
                            have e_v56 := ai_add e_v56 rfl rfl (by omega)
                            refine tz_iald hx hb hK hT 1 rfl (by omega) dX11_roundNow_93 (fun v57 e_v57 => ?_)
                            have e_v57 := gt_get (r := y8.toInt) (c := v55.toInt) e_v57 (by omega)
                            refine tz_iastP hx hb hK hT hS 2 (plP (h0f30.toInt) (y9.toInt) (y15.toInt + 1)) rfl (by omega) (pl_put (by omega)) dX11_roundNow_94 (fun H locs hT hS => ?_)
                            have hT : TP D A [(h0, ob 8 [.int h0f0, .int h0f1, .int h0f2, .int h0f3, .int h0f4, .int h0f5, .ref h1, .ref h2, .int h0f8, .int h0f9, .ref h3, .ref h4, .ref h5, .ref h6, .ref h7, .ref h8, .ref h9, .int h0f17, .int h0f18, .int h0f19, .ref h10, .ref h11, .ref h12, .ref h13, .int h0f24, .int h0f25, .ref h14, .ref h15, .ref h16, .ref h17, .int h0f30, .int h0f31, .ref h18, .ref h19, .ref h20, .ref h21]), (h16, aI (k 0) 240 (gtP (h0f30.toInt) (h0f1.toInt) (h0f31.toInt))), (h17, aI (k 0) 12000 (plP (h0f30.toInt) (y9.toInt) (y15.toInt + 1)))] _ := hT
                            obtain ⟨v58, e_v58⟩ : ∃ x : Int32, x = y15 + Int32.ofInt 1 := ⟨_, rfl⟩
                            have f_v58 := e_v58.symm
                            have e_v58 : v58.toInt = y15.toInt + 1 := ai_add e_v58 rfl (show (Int32.ofInt 1).toInt = 1 from (by decide +kernel)) (by omega)
                            refine lv_iinc (v := v58) (lv' := [(4, .int v58), (0, .ref h0), (1, .int y9), (2, .int y4), (3, .int y8)]) hx hb dX11_roundNow_95 hl (k := 4) rfl f_v58 (by decide) rfl (fun ls hl => ?_)
                            refine lv_goto (tgt := 52) hx hb dX11_roundNow_98 (by decide) ?_
                            have hT := hT.wk (q := 2) (P' := aI (k 0) 12000 (plP (h0f30.toInt) (y9.toInt) (v58.toInt))) rfl (pl_cv (by omega))
                            have hT : TP D A [(h0, ob 8 [.int h0f0, .int h0f1, .int h0f2, .int h0f3, .int h0f4, .int h0f5, .ref h1, .ref h2, .int h0f8, .int h0f9, .ref h3, .ref h4, .ref h5, .ref h6, .ref h7, .ref h8, .ref h9, .int h0f17, .int h0f18, .int h0f19, .ref h10, .ref h11, .ref h12, .ref h13, .int h0f24, .int h0f25, .ref h14, .ref h15, .ref h16, .ref h17, .int h0f30, .int h0f31, .ref h18, .ref h19, .ref h20, .ref h21]), (h16, aI (k 0) 240 (gtP (h0f30.toInt) (h0f1.toInt) (h0f31.toInt))), (h17, aI (k 0) 12000 (plP (h0f30.toInt) (y9.toInt) (v58.toInt)))] _ := hT
                            exact ih52_16 v58 _ _ _ (by omega) (by omega) (by omega) hT hS (lv_sub hl [1, 2, 3, 4, 0] rfl)
                      exact lp52_16 ((h0f30.toInt + (-1) * (0 : Int32).toInt + 1).toNat + 1) (0) _ _ _ (by have := li_0; omega) (by have := li_0; omega) (Nat.lt_succ_self _) hT hS (lv_sub hl [1, 2, 3, 4, 0] rfl)
              exact lp34_10 ((h0f1.toInt + (-1) * (0 : Int32).toInt + 1).toNat + 1) (0) y5 _ _ _ (by have := li_0; omega) (by have := li_0; omega) (by have := li_0; omega) (Nat.lt_succ_self _) hT hS (lv_sub hl [1, 2, 3, 0] rfl)
        exact lp27_6 ((200 - (0 : Int32).toInt).toNat + 1) (0) (1) _ _ _ (by have := li_0; have := li_1; omega) (by have := li_0; have := li_1; omega)  (Nat.lt_succ_self _) hT hS (lv_sub hl [2, 1, 0] rfl)
      · skip
        have c_3 := ni_nle c_3 rfl rfl
        refine lv_aload_n hx hb dX11_roundNow_10 rfl (lv_at hl 0 rfl) ?_
        refine tz_get (ci := 8) (v := .ref h17) (C := RX11) (F := TX11) (N := 36) hx hb hU iX11 hown hK hT 0 rfl rfl 29 (by decide) w814 (fun _ h9 => h9) rfl dX11_roundNow_11 ?_
        refine lv_iload_n hx hb dX11_roundNow_14 rfl (lv_at hl 1 rfl) ?_
        refine lv_iload_n hx hb dX11_roundNow_15 rfl (lv_at hl 1 rfl) ?_
        refine tz_iastP hx hb hK hT hS 2 (plP (h0f30.toInt) ((0 : Int32).toInt) (y1.toInt + 1)) rfl (by omega) (pl_put (by have := li_0; omega)) dX11_roundNow_16 (fun H locs hT hS => ?_)
        have hT : TP D A [(h0, ob 8 [.int h0f0, .int h0f1, .int h0f2, .int h0f3, .int h0f4, .int h0f5, .ref h1, .ref h2, .int h0f8, .int h0f9, .ref h3, .ref h4, .ref h5, .ref h6, .ref h7, .ref h8, .ref h9, .int h0f17, .int h0f18, .int h0f19, .ref h10, .ref h11, .ref h12, .ref h13, .int h0f24, .int h0f25, .ref h14, .ref h15, .ref h16, .ref h17, .int h0f30, .int h0f31, .ref h18, .ref h19, .ref h20, .ref h21]), (h16, aI (k 0) 240 (gtP (h0f30.toInt) (h0f1.toInt) (h0f31.toInt))), (h17, aI (k 0) 12000 (plP (h0f30.toInt) ((0 : Int32).toInt) (y1.toInt + 1)))] _ := hT
        obtain ⟨v59, e_v59⟩ : ∃ x : Int32, x = y1 + Int32.ofInt 1 := ⟨_, rfl⟩
        have f_v59 := e_v59.symm
        have e_v59 : v59.toInt = y1.toInt + 1 := ai_add e_v59 rfl (show (Int32.ofInt 1).toInt = 1 from (by decide +kernel)) (by omega)
        refine lv_iinc (v := v59) (lv' := [(1, .int v59), (0, .ref h0)]) hx hb dX11_roundNow_17 hl (k := 1) rfl f_v59 (by decide) rfl (fun ls hl => ?_)
        refine lv_goto (tgt := 2) hx hb dX11_roundNow_20 (by decide) ?_
        have hT := hT.wk (q := 2) (P' := aI (k 0) 12000 (plP (h0f30.toInt) ((0 : Int32).toInt) (v59.toInt))) rfl (pl_cv (by have := li_0; omega))
        have hT : TP D A [(h0, ob 8 [.int h0f0, .int h0f1, .int h0f2, .int h0f3, .int h0f4, .int h0f5, .ref h1, .ref h2, .int h0f8, .int h0f9, .ref h3, .ref h4, .ref h5, .ref h6, .ref h7, .ref h8, .ref h9, .int h0f17, .int h0f18, .int h0f19, .ref h10, .ref h11, .ref h12, .ref h13, .int h0f24, .int h0f25, .ref h14, .ref h15, .ref h16, .ref h17, .int h0f30, .int h0f31, .ref h18, .ref h19, .ref h20, .ref h21]), (h16, aI (k 0) 240 (gtP (h0f30.toInt) (h0f1.toInt) (h0f31.toInt))), (h17, aI (k 0) 12000 (plP (h0f30.toInt) ((0 : Int32).toInt) (v59.toInt)))] _ := hT
        exact ih2_2 v59 _ _ _ (by omega)  (by omega) hT hS (lv_sub hl [1, 0] rfl)
  exact lp2_2 ((h0f30.toInt + (-1) * (0 : Int32).toInt + 1).toNat + 1) (0) _ _ _ (by have := li_0; omega)  (Nat.lt_succ_self _) hT hS (lv_sub hl [1, 0] rfl)
abbrev Rm_cX11_round_bb90d : Room := { frames := 1, cells := 0, slots := 0, locals := 27 }
abbrev B_cX11_round_bb90d (D : va_G) (k : Nat → ClassId) (h0 h16 h17 h1 h2 h3 h4 h5 h6 h7 h8 h9 h10 h11 h12 h13 h14 h15 h18 h19 h20 h21 : Nat) (x1 : Int32) (h0f0 : Int32) (h0f1 : Int32) (h0f2 : Int32) (h0f3 : Int32) (h0f4 : Int32) (h0f5 : Int32) (h0f8 : Int32) (h0f9 : Int32) (h0f17 : Int32) (h0f18 : Int32) (h0f19 : Int32) (h0f24 : Int32) (h0f25 : Int32) (h0f30 : Int32) (h0f31 : Int32) (A : Nat → Prop) (r : Int32) (H : Heap) : Prop := ((-3) ≤ r.toInt ∧ r.toInt ≤ 200) ∧ TP D A [(h0, ob 8 [.int h0f0, .int h0f1, .int h0f2, .int h0f3, .int h0f4, .int h0f5, .ref h1, .ref h2, .int h0f8, .int h0f9, .ref h3, .ref h4, .ref h5, .ref h6, .ref h7, .ref h8, .ref h9, .int h0f17, .int h0f18, .int h0f19, .ref h10, .ref h11, .ref h12, .ref h13, .int h0f24, .int h0f25, .ref h14, .ref h15, .ref h16, .ref h17, .int h0f30, .int h0f31, .ref h18, .ref h19, .ref h20, .ref h21]), (h16, aI (k 0) 240 (gtP (h0f30.toInt) (h0f1.toInt) (h0f31.toInt))), (h17, aI (k 0) 12000 anI)] H
set_option maxHeartbeats 4000000 in
set_option maxRecDepth 100000 in
theorem cX11_round_bb90d (l : Launch) (D : va_G) (k : Nat → ClassId) (sz : Nat) (h0 h16 h17 h1 h2 h3 h4 h5 h6 h7 h8 h9 h10 h11 h12 h13 h14 h15 h18 h19 h20 h21 : Nat) (x1 : Int32) (h0f0 : Int32) (h0f1 : Int32) (h0f2 : Int32) (h0f3 : Int32) (h0f4 : Int32) (h0f5 : Int32) (h0f8 : Int32) (h0f9 : Int32) (h0f17 : Int32) (h0f18 : Int32) (h0f19 : Int32) (h0f24 : Int32) (h0f25 : Int32) (h0f30 : Int32) (h0f31 : Int32) (b_h0f0 : 1 ≤ h0f0.toInt ∧ h0f0.toInt ≤ 3) (b_h0f1 : 0 ≤ h0f1.toInt ∧ h0f1.toInt ≤ 4) (b_h0f3 : 0 ≤ h0f3.toInt ∧ h0f3.toInt ≤ 3) (b_h0f4 : 0 ≤ h0f4.toInt ∧ h0f4.toInt ≤ 4) (b_h0f8 : 0 ≤ h0f8.toInt ∧ h0f8.toInt ≤ 1) (b_h0f9 : 0 ≤ h0f9.toInt ∧ h0f9.toInt ≤ 1) (b_h0f17 : 0 ≤ h0f17.toInt ∧ h0f17.toInt ≤ 120) (b_h0f18 : 0 ≤ h0f18.toInt ∧ h0f18.toInt ≤ 120) (b_h0f19 : 0 ≤ h0f19.toInt ∧ h0f19.toInt ≤ 4) (b_h0f24 : 0 ≤ h0f24.toInt ∧ h0f24.toInt ≤ 100) (b_h0f25 : 0 ≤ h0f25.toInt ∧ h0f25.toInt ≤ 1) (b_h0f30 : 0 ≤ h0f30.toInt ∧ h0f30.toInt ≤ 60) (b_h0f31 : 0 ≤ h0f31.toInt ∧ h0f31.toInt ≤ 1) (i_0 : h0f8.toInt ≤ h0f3.toInt) (i_1 : h0f9.toInt ≤ h0f24.toInt) : Met l yX11_round (Cond.code yX11_round cX11_round 2 (some .int) :: uw) Rm_cX11_round_bb90d (pT D k sz [.ref h0, .int x1] [(h0, ob 8 [.int h0f0, .int h0f1, .int h0f2, .int h0f3, .int h0f4, .int h0f5, .ref h1, .ref h2, .int h0f8, .int h0f9, .ref h3, .ref h4, .ref h5, .ref h6, .ref h7, .ref h8, .ref h9, .int h0f17, .int h0f18, .int h0f19, .ref h10, .ref h11, .ref h12, .ref h13, .int h0f24, .int h0f25, .ref h14, .ref h15, .ref h16, .ref h17, .int h0f30, .int h0f31, .ref h18, .ref h19, .ref h20, .ref h21]), (h16, aI (k 0) 240 (gtP (h0f30.toInt) (h0f1.toInt) (h0f31.toInt))), (h17, aI (k 0) 12000 anI)]) (qI (B_cX11_round_bb90d D k h0 h16 h17 h1 h2 h3 h4 h5 h6 h7 h8 h9 h10 h11 h12 h13 h14 h15 h18 h19 h20 h21 x1 h0f0 h0f1 h0f2 h0f3 h0f4 h0f5 h0f8 h0f9 h0f17 h0f18 h0f19 h0f24 h0f25 h0f30 h0f31 (zA [h0, h16, h17] sz)) (zA [h0, h16, h17] sz)) 0 0 (zA [h0, h16, h17] sz) := by
  refine tz_begin (as := [h0, h16, h17]) (Qc := fun A => qI (B_cX11_round_bb90d D k h0 h16 h17 h1 h2 h3 h4 h5 h6 h7 h8 h9 h10 h11 h12 h13 h14 h15 h18 h19 h20 h21 x1 h0f0 h0f1 h0f2 h0f3 h0f4 h0f5 h0f8 h0f9 h0f17 h0f18 h0f19 h0f24 h0f25 h0f30 h0f31 A) A) (by decide +kernel) rfl (Nat.le_of_ble_eq_true rfl) ?_
  intro p e s m args below meth c ls A Q hx hb hr hml hown hlocks hin hU hK hT hS hA hl hQ
  have hl : lv_has ls 2 [(0, .ref h0), (1, .int x1)] := hl
  have hT : TP D A [(h0, ob 8 [.int h0f0, .int h0f1, .int h0f2, .int h0f3, .int h0f4, .int h0f5, .ref h1, .ref h2, .int h0f8, .int h0f9, .ref h3, .ref h4, .ref h5, .ref h6, .ref h7, .ref h8, .ref h9, .int h0f17, .int h0f18, .int h0f19, .ref h10, .ref h11, .ref h12, .ref h13, .int h0f24, .int h0f25, .ref h14, .ref h15, .ref h16, .ref h17, .int h0f30, .int h0f31, .ref h18, .ref h19, .ref h20, .ref h21]), (h16, aI (k 0) 240 (gtP (h0f30.toInt) (h0f1.toInt) (h0f31.toInt))), (h17, aI (k 0) 12000 anI)] s.heap := hT
  refine lv_iload_n hx hb dX11_round_0 rfl (lv_at hl 1 rfl) ?_
  have tb_x1 := i32b x1
  obtain ⟨v1, e_v1⟩ : ∃ x : Int64, x1.toInt64 = x := ⟨_, rfl⟩
  refine lv_i2l (v := v1) hx hb dX11_round_1 e_v1 ?_
  have e_v1 := ai_i2l e_v1 rfl
  refine lv_lconst (v := 0) hx hb dX11_round_2 (by decide) ?_
  refine lv_ldc2 hx hb hown (hU _ w1156) dX11_round_3 ?_
  have q_q3 := ll_0
  have q_q4 := ll_2
  refine tcI (Tc := []) (Tr := [(h0, ob 8 [.int h0f0, .int h0f1, .int h0f2, .int h0f3, .int h0f4, .int h0f5, .ref h1, .ref h2, .int h0f8, .int h0f9, .ref h3, .ref h4, .ref h5, .ref h6, .ref h7, .ref h8, .ref h9, .int h0f17, .int h0f18, .int h0f19, .ref h10, .ref h11, .ref h12, .ref h13, .int h0f24, .int h0f25, .ref h14, .ref h15, .ref h16, .ref h17, .int h0f30, .int h0f31, .ref h18, .ref h19, .ref h20, .ref h21]), (h16, aI (k 0) 240 (gtP (h0f30.toInt) (h0f1.toInt) (h0f31.toInt))), (h17, aI (k 0) 12000 anI)]) (as := []) (zcS (As := [.long v1, .long 0, .long 2]) (rest := []) (Tc := []) hx hb hml hown hU hK hT [] rfl (by decide) (cX11_in_ca3b9 l D k _ v1 (0) (2) (by have := ll_0; omega) (by have := ll_2; omega)) w901 w899 w900 w72 hdX11_in ⟨rfl, rfl⟩ ⟨Nat.le_of_ble_eq_true rfl, Nat.le_of_ble_eq_true rfl⟩ rfl hl.1 (Nat.le_of_ble_eq_true rfl) dX11_round_6 ⟨Nat.le_of_ble_eq_true rfl, Nat.le_of_ble_eq_true rfl⟩) hT hS hA [] [0, 1, 2] rfl rfl rfl (by decide) (by decide) (fun r2 H locs hB J hS => ?_)
  rcases hB with ⟨rfl, hT1⟩ | ⟨c_5, c_6, rfl, hT1⟩
  · skip
    have hT := J _ hT1
    have hT : TP D A [(h0, ob 8 [.int h0f0, .int h0f1, .int h0f2, .int h0f3, .int h0f4, .int h0f5, .ref h1, .ref h2, .int h0f8, .int h0f9, .ref h3, .ref h4, .ref h5, .ref h6, .ref h7, .ref h8, .ref h9, .int h0f17, .int h0f18, .int h0f19, .ref h10, .ref h11, .ref h12, .ref h13, .int h0f24, .int h0f25, .ref h14, .ref h15, .ref h16, .ref h17, .int h0f30, .int h0f31, .ref h18, .ref h19, .ref h20, .ref h21]), (h16, aI (k 0) 240 (gtP (h0f30.toInt) (h0f1.toInt) (h0f31.toInt))), (h17, aI (k 0) 12000 anI)] _ := hT
    refine lv_if_ne (tgt := 14) hx hb dX11_round_9 (by decide) (fun cc => absurd (by decide +kernel) cc) (fun _ => ?_)
    refine lv_iconst (v := (-1)) hx hb dX11_round_12 (by decide) ?_
    exact tz_retI (B := B_cX11_round_bb90d D k h0 h16 h17 h1 h2 h3 h4 h5 h6 h7 h8 h9 h10 h11 h12 h13 h14 h15 h18 h19 h20 h21 x1 h0f0 h0f1 h0f2 h0f3 h0f4 h0f5 h0f8 h0f9 h0f17 h0f18 h0f19 h0f24 h0f25 h0f30 h0f31) (v := (-1)) hQ hx hb hr hlocks hS (Nat.le_of_ble_eq_true rfl) (Nat.le_of_ble_eq_true rfl) dX11_round_13 (⟨(by have := li_m1; omega), hT⟩)
  · skip
    have hT := J _ hT1
    have hT : TP D A [(h0, ob 8 [.int h0f0, .int h0f1, .int h0f2, .int h0f3, .int h0f4, .int h0f5, .ref h1, .ref h2, .int h0f8, .int h0f9, .ref h3, .ref h4, .ref h5, .ref h6, .ref h7, .ref h8, .ref h9, .int h0f17, .int h0f18, .int h0f19, .ref h10, .ref h11, .ref h12, .ref h13, .int h0f24, .int h0f25, .ref h14, .ref h15, .ref h16, .ref h17, .int h0f30, .int h0f31, .ref h18, .ref h19, .ref h20, .ref h21]), (h16, aI (k 0) 240 (gtP (h0f30.toInt) (h0f1.toInt) (h0f31.toInt))), (h17, aI (k 0) 12000 anI)] _ := hT
    refine lv_if_ne (tgt := 14) hx hb dX11_round_9 (by decide) (fun _ => ?_) (fun cc => absurd cc (by decide +kernel))
    refine lv_aload_n hx hb dX11_round_14 rfl (lv_at hl 0 rfl) ?_
    refine tz_get (ci := 8) (v := .int h0f30) (C := RX11) (F := TX11) (N := 36) hx hb hU iX11 hown hK hT 0 rfl rfl 30 (by decide) w815 (fun _ h9 => h9) rfl dX11_round_15 ?_
    refine lv_if_ne (tgt := 24) hx hb dX11_round_18 (by decide) (fun c_7 => ?_) (fun c_7 => ?_)
    · skip
      have c_7 := ni_ne c_7 rfl li_0
      refine lv_iload_n hx hb dX11_round_24 rfl (lv_at hl 1 rfl) ?_
      refine lv_if_ne (tgt := 35) hx hb dX11_round_25 (by decide) (fun c_8 => ?_) (fun c_8 => ?_)
      · skip
        have c_8 := ni_ne c_8 rfl li_0
        refine lv_iload_n hx hb dX11_round_35 rfl (lv_at hl 1 rfl) ?_
        refine lv_iconst (v := 1) hx hb dX11_round_36 (by decide) ?_
        refine lv_icmp_ne (tgt := 55) hx hb dX11_round_37 (by decide) (fun c_9 => ?_) (fun c_9 => ?_)
        · skip
          have c_9 := ni_ne c_9 rfl li_1
          refine lv_aload_n hx hb dX11_round_55 rfl (lv_at hl 0 rfl) ?_
          refine tz_get (ci := 8) (v := .int h0f31) (C := RX11) (F := TX11) (N := 36) hx hb hU iX11 hown hK hT 0 rfl rfl 31 (by decide) w816 (fun _ h9 => h9) rfl dX11_round_56 ?_
          refine lv_if_eq (tgt := 69) hx hb dX11_round_59 (by decide) (fun c_10 => ?_) (fun c_10 => ?_)
          · skip
            have c_10 := ni_eq c_10 rfl li_0
            refine lv_bipush (v := (-3)) hx hb dX11_round_69 (by decide) ?_
            exact tz_retI (B := B_cX11_round_bb90d D k h0 h16 h17 h1 h2 h3 h4 h5 h6 h7 h8 h9 h10 h11 h12 h13 h14 h15 h18 h19 h20 h21 x1 h0f0 h0f1 h0f2 h0f3 h0f4 h0f5 h0f8 h0f9 h0f17 h0f18 h0f19 h0f24 h0f25 h0f30 h0f31) (v := (-3)) hQ hx hb hr hlocks hS (Nat.le_of_ble_eq_true rfl) (Nat.le_of_ble_eq_true rfl) dX11_round_71 (⟨(by have := li_m3; omega), hT⟩)
          · skip
            have c_10 := ni_ne c_10 rfl li_0
            refine lv_aload_n hx hb dX11_round_62 rfl (lv_at hl 0 rfl) ?_
            refine tcI (Tc := [(h0, ob 8 [.int h0f0, .int h0f1, .int h0f2, .int h0f3, .int h0f4, .int h0f5, .ref h1, .ref h2, .int h0f8, .int h0f9, .ref h3, .ref h4, .ref h5, .ref h6, .ref h7, .ref h8, .ref h9, .int h0f17, .int h0f18, .int h0f19, .ref h10, .ref h11, .ref h12, .ref h13, .int h0f24, .int h0f25, .ref h14, .ref h15, .ref h16, .ref h17, .int h0f30, .int h0f31, .ref h18, .ref h19, .ref h20, .ref h21]), (h16, aI (k 0) 240 (gtP (h0f30.toInt) (h0f1.toInt) (h0f31.toInt))), (h17, aI (k 0) 12000 anI)]) (Tr := []) (as := [h0, h16, h17]) (zcV (q0 := 0) (ci := 8) (As := []) (rest := []) (Tc := [(h0, ob 8 [.int h0f0, .int h0f1, .int h0f2, .int h0f3, .int h0f4, .int h0f5, .ref h1, .ref h2, .int h0f8, .int h0f9, .ref h3, .ref h4, .ref h5, .ref h6, .ref h7, .ref h8, .ref h9, .int h0f17, .int h0f18, .int h0f19, .ref h10, .ref h11, .ref h12, .ref h13, .int h0f24, .int h0f25, .ref h14, .ref h15, .ref h16, .ref h17, .int h0f30, .int h0f31, .ref h18, .ref h19, .ref h20, .ref h21]), (h16, aI (k 0) 240 (gtP (h0f30.toInt) (h0f1.toInt) (h0f31.toInt))), (h17, aI (k 0) 12000 anI)]) hx hb hml hown hU hK hT rfl rfl [0, 1, 2] rfl (by decide) (cX11_roundNow_55c93 l D k _ h0 h16 h17 h1 h2 h3 h4 h5 h6 h7 h8 h9 h10 h11 h12 h13 h14 h15 h18 h19 h20 h21 h0f0 h0f1 h0f2 h0f3 h0f4 h0f5 h0f8 h0f9 h0f17 h0f18 h0f19 h0f24 h0f25 h0f30 h0f31 (by omega) (by omega) (by omega) (by omega) (by omega) (by omega) (by omega) (by omega) (by omega) (by omega) (by omega) (by omega) (by omega) (by omega) (by omega)) w1160 w1157 w1159 w59 w72 hdX11_roundNow ⟨rfl, rfl⟩ ⟨Nat.le_of_ble_eq_true rfl, Nat.le_of_ble_eq_true rfl⟩ rfl hl.1 (Nat.le_of_ble_eq_true rfl) dX11_round_63 ⟨Nat.le_of_ble_eq_true rfl, Nat.le_of_ble_eq_true rfl⟩) hT hS hA [0, 1, 2] [] rfl rfl rfl (by decide) (by decide) (fun r11 H locs hB J hS => ?_)
            obtain ⟨b_r11, hT1⟩ := hB
            have hT := J _ hT1
            have hT : TP D A [(h0, ob 8 [.int h0f0, .int h0f1, .int h0f2, .int h0f3, .int h0f4, .int h0f5, .ref h1, .ref h2, .int h0f8, .int h0f9, .ref h3, .ref h4, .ref h5, .ref h6, .ref h7, .ref h8, .ref h9, .int h0f17, .int h0f18, .int h0f19, .ref h10, .ref h11, .ref h12, .ref h13, .int h0f24, .int h0f25, .ref h14, .ref h15, .ref h16, .ref h17, .int h0f30, .int h0f31, .ref h18, .ref h19, .ref h20, .ref h21]), (h16, aI (k 0) 240 (gtP (h0f30.toInt) (h0f1.toInt) (h0f31.toInt))), (h17, aI (k 0) 12000 anI)] _ := hT
            refine lv_goto (tgt := 71) hx hb dX11_round_66 (by decide) ?_
            exact tz_retI (B := B_cX11_round_bb90d D k h0 h16 h17 h1 h2 h3 h4 h5 h6 h7 h8 h9 h10 h11 h12 h13 h14 h15 h18 h19 h20 h21 x1 h0f0 h0f1 h0f2 h0f3 h0f4 h0f5 h0f8 h0f9 h0f17 h0f18 h0f19 h0f24 h0f25 h0f30 h0f31) (v := r11) hQ hx hb hr hlocks hS (Nat.le_of_ble_eq_true rfl) (Nat.le_of_ble_eq_true rfl) dX11_round_71 (⟨(by omega), hT⟩)
        · skip
          have c_9 := ni_eq c_9 rfl li_1
          refine lv_aload_n hx hb dX11_round_40 rfl (lv_at hl 0 rfl) ?_
          refine tz_get (ci := 8) (v := .int h0f31) (C := RX11) (F := TX11) (N := 36) hx hb hU iX11 hown hK hT 0 rfl rfl 31 (by decide) w816 (fun _ h9 => h9) rfl dX11_round_41 ?_
          refine lv_if_eq (tgt := 51) hx hb dX11_round_44 (by decide) (fun c_12 => ?_) (fun c_12 => ?_)
          · skip
            have c_12 := ni_eq c_12 rfl li_0
            refine lv_iconst (v := 0) hx hb dX11_round_51 (by decide) ?_
            refine lv_goto (tgt := 71) hx hb dX11_round_52 (by decide) ?_
            exact tz_retI (B := B_cX11_round_bb90d D k h0 h16 h17 h1 h2 h3 h4 h5 h6 h7 h8 h9 h10 h11 h12 h13 h14 h15 h18 h19 h20 h21 x1 h0f0 h0f1 h0f2 h0f3 h0f4 h0f5 h0f8 h0f9 h0f17 h0f18 h0f19 h0f24 h0f25 h0f30 h0f31) (v := 0) hQ hx hb hr hlocks hS (Nat.le_of_ble_eq_true rfl) (Nat.le_of_ble_eq_true rfl) dX11_round_71 (⟨(by have := li_0; omega), hT⟩)
          · skip
            have c_12 := ni_ne c_12 rfl li_0
            refine lv_iconst (v := 1) hx hb dX11_round_47 (by decide) ?_
            refine lv_goto (tgt := 71) hx hb dX11_round_48 (by decide) ?_
            exact tz_retI (B := B_cX11_round_bb90d D k h0 h16 h17 h1 h2 h3 h4 h5 h6 h7 h8 h9 h10 h11 h12 h13 h14 h15 h18 h19 h20 h21 x1 h0f0 h0f1 h0f2 h0f3 h0f4 h0f5 h0f8 h0f9 h0f17 h0f18 h0f19 h0f24 h0f25 h0f30 h0f31) (v := 1) hQ hx hb hr hlocks hS (Nat.le_of_ble_eq_true rfl) (Nat.le_of_ble_eq_true rfl) dX11_round_71 (⟨(by have := li_1; omega), hT⟩)
      · skip
        have c_8 := ni_eq c_8 rfl li_0
        refine lv_aload_n hx hb dX11_round_28 rfl (lv_at hl 0 rfl) ?_
        refine tz_get (ci := 8) (v := .int h0f30) (C := RX11) (F := TX11) (N := 36) hx hb hU iX11 hown hK hT 0 rfl rfl 30 (by decide) w815 (fun _ h9 => h9) rfl dX11_round_29 ?_
        refine lv_goto (tgt := 71) hx hb dX11_round_32 (by decide) ?_
        exact tz_retI (B := B_cX11_round_bb90d D k h0 h16 h17 h1 h2 h3 h4 h5 h6 h7 h8 h9 h10 h11 h12 h13 h14 h15 h18 h19 h20 h21 x1 h0f0 h0f1 h0f2 h0f3 h0f4 h0f5 h0f8 h0f9 h0f17 h0f18 h0f19 h0f24 h0f25 h0f30 h0f31) (v := h0f30) hQ hx hb hr hlocks hS (Nat.le_of_ble_eq_true rfl) (Nat.le_of_ble_eq_true rfl) dX11_round_71 (⟨(by omega), hT⟩)
    · skip
      have c_7 := ni_eq c_7 rfl li_0
      refine lv_bipush (v := (-3)) hx hb dX11_round_21 (by decide) ?_
      exact tz_retI (B := B_cX11_round_bb90d D k h0 h16 h17 h1 h2 h3 h4 h5 h6 h7 h8 h9 h10 h11 h12 h13 h14 h15 h18 h19 h20 h21 x1 h0f0 h0f1 h0f2 h0f3 h0f4 h0f5 h0f8 h0f9 h0f17 h0f18 h0f19 h0f24 h0f25 h0f30 h0f31) (v := (-3)) hQ hx hb hr hlocks hS (Nat.le_of_ble_eq_true rfl) (Nat.le_of_ble_eq_true rfl) dX11_round_23 (⟨(by have := li_m3; omega), hT⟩)
abbrev Rm_cX7_addUp_e71ca : Room := { frames := 0, cells := 0, slots := 0, locals := 0 }
abbrev B_cX7_addUp_e71ca (D : va_G) (k : Nat → ClassId) (h0 h1 : Nat) (x1 : Int32) (x4 : Int32) (x6 : Int32) (A : Nat → Prop) (r : Int64) (H : Heap) : Prop := TP D A [(h0, aJ (k 1) 900 anJ), (h1, aJ (k 1) 9 anJ)] H
set_option maxHeartbeats 4000000 in
set_option maxRecDepth 100000 in
theorem cX7_addUp_e71ca (l : Launch) (D : va_G) (k : Nat → ClassId) (sz : Nat) (h0 h1 : Nat) (x1 : Int32) (x4 : Int32) (x6 : Int32) (b_x1 : 0 ≤ x1.toInt ∧ x1.toInt ≤ 897) (b_x4 : 0 ≤ x4.toInt ∧ x4.toInt ≤ 0) (b_x6 : 1 ≤ x6.toInt ∧ x6.toInt ≤ 3) : Met l yX7_addUp (Cond.code yX7_addUp cX7_addUp 10 (some .long) :: uw) Rm_cX7_addUp_e71ca (pT D k sz [.ref h0, .int x1, .int 1, .ref h1, .int x4, .int 1, .int x6] [(h0, aJ (k 1) 900 anJ), (h1, aJ (k 1) 9 anJ)]) (qL (B_cX7_addUp_e71ca D k h0 h1 x1 x4 x6 (zA [h0, h1] sz)) (zA [h0, h1] sz)) 0 0 (zA [h0, h1] sz) := by
  refine tz_begin (as := [h0, h1]) (Qc := fun A => qL (B_cX7_addUp_e71ca D k h0 h1 x1 x4 x6 A) A) (by decide +kernel) rfl (Nat.le_of_ble_eq_true rfl) ?_
  intro p e s m args below meth c ls A Q hx hb hr hml hown hlocks hin hU hK hT hS hA hl hQ
  have hl : lv_has ls 10 [(0, .ref h0), (1, .int x1), (2, .int 1), (3, .ref h1), (4, .int x4), (5, .int 1), (6, .int x6)] := hl
  have hT : TP D A [(h0, aJ (k 1) 900 anJ), (h1, aJ (k 1) 9 anJ)] s.heap := hT
  refine lv_lconst (v := 0) hx hb dX7_addUp_0 (by decide) ?_
  refine lv_lstore (lv' := [(7, .long 0), (0, .ref h0), (1, .int x1), (2, .int 1), (3, .ref h1), (4, .int x4), (5, .int 1), (6, .int x6)]) hx hb dX7_addUp_1 hl (by decide) rfl (fun ls hl => ?_)
  refine lv_iconst (v := 0) hx hb dX7_addUp_3 (by decide) ?_
  refine lv_istore (lv' := [(9, .int 0), (7, .long 0), (0, .ref h0), (1, .int x1), (2, .int 1), (3, .ref h1), (4, .int x4), (5, .int 1), (6, .int x6)]) hx hb dX7_addUp_4 hl (by decide) rfl (fun ls hl => ?_)
  have lp6_7 : ∀ (n : Nat) (y5 : Int32) (y6 : Int64) (H : Heap) (locs : List Loc) (ls : Array Slot), (0 ≤ y5.toInt ∧ y5.toInt ≤ 3) → (x6.toInt + (-1) * y5.toInt + 1).toNat < n → TP D A [(h0, aJ (k 1) 900 anJ), (h1, aJ (k 1) 9 anJ)] H → va_S A s.heap H locs → lv_has ls 10 [(0, .ref h0), (1, .int x1), (2, .int 1), (3, .ref h1), (4, .int x4), (5, .int 1), (6, .int x6), (7, .long y6), (9, .int y5)] → W p l e Rm_cX7_addUp_e71ca s m args below meth c H locs 0 0 Q (F0 m 6 ls []) := by
    intro n
    induction n with
    | zero => intro y5 y6 H locs ls b_y5 hm hT hS hl; exact absurd hm (Nat.not_lt_zero _)
    | succ n ih =>
      intro y5 y6 H locs ls b_y5 hm hT hS hl
      have ih6_7 := ih
      clear ih
      refine lv_iload hx hb dX7_addUp_6 (lv_at hl 8 rfl) ?_
      refine lv_iload hx hb dX7_addUp_8 (lv_at hl 6 rfl) ?_
      refine lv_icmp_ge (tgt := 43) hx hb dX7_addUp_10 (by decide) (fun c_8 => ?_) (fun c_8 => ?_)
      · skip
        have c_8 := ni_le c_8 rfl rfl
        refine lv_lload hx hb dX7_addUp_43 (lv_at hl 7 rfl) ?_
        exact tz_retL (B := B_cX7_addUp_e71ca D k h0 h1 x1 x4 x6) (v := y6) hQ hx hb hr hlocks hS (Nat.le_of_ble_eq_true rfl) (Nat.le_of_ble_eq_true rfl) dX7_addUp_45 (hT)
      · skip
        have c_8 := ni_nle c_8 rfl rfl
        refine lv_lload hx hb dX7_addUp_13 (lv_at hl 7 rfl) ?_
        refine lv_aload_n hx hb dX7_addUp_15 rfl (lv_at hl 0 rfl) ?_
        refine lv_iload_n hx hb dX7_addUp_16 rfl (lv_at hl 1 rfl) ?_
        refine lv_iload hx hb dX7_addUp_17 (lv_at hl 8 rfl) ?_
        refine lv_iload_n hx hb dX7_addUp_19 rfl (lv_at hl 2 rfl) ?_
        refine lv_imul hx hb dX7_addUp_20 (lv_topi (fun v9 e_v9 => ?_))
        have e_v9 := ai_mul e_v9 rfl li_1 (by omega)
        refine lv_iadd hx hb dX7_addUp_21 (lv_topi (fun v10 e_v10 => ?_))
        have e_v10 := ai_add e_v10 rfl rfl (by omega)
        refine tz_lald hx hb hK hT 0 rfl (by omega) dX7_addUp_22 (fun v11 e_v11 => ?_)
        clear e_v11
        refine lv_aload_n hx hb dX7_addUp_23 rfl (lv_at hl 3 rfl) ?_
        refine lv_iload hx hb dX7_addUp_24 (lv_at hl 4 rfl) ?_
        refine lv_iload hx hb dX7_addUp_26 (lv_at hl 8 rfl) ?_
        refine lv_iload hx hb dX7_addUp_28 (lv_at hl 5 rfl) ?_
        refine lv_imul hx hb dX7_addUp_30 (lv_topi (fun v12 e_v12 => ?_))
        have e_v12 := ai_mul e_v12 rfl li_1 (by omega)
        have hq13 : x4.toInt = 0 := by omega
        refine lv_iadd hx hb dX7_addUp_31 (lv_topi (fun v14 e_v14 => ?_))
        have e_v14 := ai_add e_v14 hq13 rfl (by omega)
        refine tz_lald hx hb hK hT 1 rfl (by omega) dX7_addUp_32 (fun v15 e_v15 => ?_)
        clear e_v15
        refine lv_lmul hx hb dX7_addUp_33 (lv_topl (fun v16 e_v16 => ?_))
        refine lv_ladd hx hb dX7_addUp_34 (lv_topl (fun v17 e_v17 => ?_))
        refine lv_lstore (lv' := [(7, .long v17), (0, .ref h0), (1, .int x1), (2, .int 1), (3, .ref h1), (4, .int x4), (5, .int 1), (6, .int x6), (9, .int y5)]) hx hb dX7_addUp_35 hl (by decide) rfl (fun ls hl => ?_)
        obtain ⟨v18, e_v18⟩ : ∃ x : Int32, x = y5 + Int32.ofInt 1 := ⟨_, rfl⟩
        have f_v18 := e_v18.symm
        have e_v18 : v18.toInt = y5.toInt + 1 := ai_add e_v18 rfl (show (Int32.ofInt 1).toInt = 1 from (by decide +kernel)) (by omega)
        refine lv_iinc (v := v18) (lv' := [(9, .int v18), (7, .long v17), (0, .ref h0), (1, .int x1), (2, .int 1), (3, .ref h1), (4, .int x4), (5, .int 1), (6, .int x6)]) hx hb dX7_addUp_37 hl (k := 8) rfl f_v18 (by decide) rfl (fun ls hl => ?_)
        refine lv_goto (tgt := 6) hx hb dX7_addUp_40 (by decide) ?_
        exact ih6_7 v18 v17 _ _ _ (by omega)  (by omega) hT hS (lv_sub hl [2, 3, 4, 5, 6, 7, 8, 1, 0] rfl)
  exact lp6_7 ((x6.toInt + (-1) * (0 : Int32).toInt + 1).toNat + 1) (0) (0) _ _ _ (by have := li_0; have := ll_0; omega)  (Nat.lt_succ_self _) hT hS (lv_sub hl [2, 3, 4, 5, 6, 7, 8, 1, 0] rfl)
abbrev Rm_cX7_move_0bb0f : Room := { frames := 1, cells := 0, slots := 0, locals := 29 }
abbrev B_cX7_move_0bb0f (D : va_G) (k : Nat → ClassId) (h0 h1 h2 : Nat) (x1 : Int32) (x3 : Int32) (x5 : Int32) (A : Nat → Prop) (H : Heap) : Prop := TP D A [(h0, aJ (k 1) 900 anJ), (h1, aJ (k 1) 9 anJ), (h2, aJ (k 1) 9 anJ)] H
set_option maxHeartbeats 4000000 in
set_option maxRecDepth 100000 in
theorem cX7_move_0bb0f (l : Launch) (D : va_G) (k : Nat → ClassId) (sz : Nat) (h0 h1 h2 : Nat) (x1 : Int32) (x3 : Int32) (x5 : Int32) (b_x1 : 0 ≤ x1.toInt ∧ x1.toInt ≤ 891) (b_x3 : 0 ≤ x3.toInt ∧ x3.toInt ≤ 0) (b_x5 : 1 ≤ x5.toInt ∧ x5.toInt ≤ 3) : Met l yX7_move (Cond.code yX7_move cX7_move 7 none :: uw) Rm_cX7_move_0bb0f (pT D k sz [.ref h0, .int x1, .ref h1, .int x3, .ref h2, .int x5] [(h0, aJ (k 1) 900 anJ), (h1, aJ (k 1) 9 anJ), (h2, aJ (k 1) 9 anJ)]) (qV (B_cX7_move_0bb0f D k h0 h1 h2 x1 x3 x5 (zA [h0, h1, h2] sz)) (zA [h0, h1, h2] sz)) 0 0 (zA [h0, h1, h2] sz) := by
  refine tz_begin (as := [h0, h1, h2]) (Qc := fun A => qV (B_cX7_move_0bb0f D k h0 h1 h2 x1 x3 x5 A) A) (by decide +kernel) rfl (Nat.le_of_ble_eq_true rfl) ?_
  intro p e s m args below meth c ls A Q hx hb hr hml hown hlocks hin hU hK hT hS hA hl hQ
  have hl : lv_has ls 7 [(0, .ref h0), (1, .int x1), (2, .ref h1), (3, .int x3), (4, .ref h2), (5, .int x5)] := hl
  have hT : TP D A [(h0, aJ (k 1) 900 anJ), (h1, aJ (k 1) 9 anJ), (h2, aJ (k 1) 9 anJ)] s.heap := hT
  refine lv_iconst (v := 0) hx hb dX7_move_0 (by decide) ?_
  refine lv_istore (lv' := [(6, .int 0), (0, .ref h0), (1, .int x1), (2, .ref h1), (3, .int x3), (4, .ref h2), (5, .int x5)]) hx hb dX7_move_1 hl (by decide) rfl (fun ls hl => ?_)
  have lp3_4 : ∀ (n : Nat) (y3 : Int32) (H : Heap) (locs : List Loc) (ls : Array Slot), (0 ≤ y3.toInt ∧ y3.toInt ≤ 3) → (x5.toInt + (-1) * y3.toInt + 1).toNat < n → TP D A [(h0, aJ (k 1) 900 anJ), (h1, aJ (k 1) 9 anJ), (h2, aJ (k 1) 9 anJ)] H → va_S A s.heap H locs → lv_has ls 7 [(0, .ref h0), (1, .int x1), (2, .ref h1), (3, .int x3), (4, .ref h2), (5, .int x5), (6, .int y3)] → W p l e Rm_cX7_move_0bb0f s m args below meth c H locs 0 0 Q (F0 m 3 ls []) := by
    intro n
    induction n with
    | zero => intro y3 H locs ls b_y3 hm hT hS hl; exact absurd hm (Nat.not_lt_zero _)
    | succ n ih =>
      intro y3 H locs ls b_y3 hm hT hS hl
      have ih3_4 := ih
      clear ih
      refine lv_iload hx hb dX7_move_3 (lv_at hl 6 rfl) ?_
      refine lv_iload hx hb dX7_move_5 (lv_at hl 5 rfl) ?_
      refine lv_icmp_ge (tgt := 38) hx hb dX7_move_7 (by decide) (fun c_5 => ?_) (fun c_5 => ?_)
      · skip
        have c_5 := ni_le c_5 rfl rfl
        exact tz_retV (B := B_cX7_move_0bb0f D k h0 h1 h2 x1 x3 x5) hQ hx hb hr hlocks hS (Nat.le_of_ble_eq_true rfl) (Nat.le_of_ble_eq_true rfl) dX7_move_38 (hT)
      · skip
        have c_5 := ni_nle c_5 rfl rfl
        refine lv_aload hx hb dX7_move_10 (lv_at hl 4 rfl) ?_
        refine lv_iload hx hb dX7_move_12 (lv_at hl 6 rfl) ?_
        refine lv_aload_n hx hb dX7_move_14 rfl (lv_at hl 0 rfl) ?_
        refine lv_iload_n hx hb dX7_move_15 rfl (lv_at hl 1 rfl) ?_
        refine lv_iload hx hb dX7_move_16 (lv_at hl 6 rfl) ?_
        refine lv_iload hx hb dX7_move_18 (lv_at hl 5 rfl) ?_
        refine lv_imul hx hb dX7_move_20 (lv_topi (fun v6 e_v6 => ?_))
        have e_v6 := ai_mm (la := 0) (ua := 2) (lb := 1) (ub := 3) e_v6 rfl rfl (by omega) (by decide)
        refine lv_iadd hx hb dX7_move_21 (lv_topi (fun v7 e_v7 => ?_))
        have e_v7 := ai_add e_v7 rfl rfl (by omega)
        refine lv_iconst (v := 1) hx hb dX7_move_22 (by decide) ?_
        refine lv_aload_n hx hb dX7_move_23 rfl (lv_at hl 2 rfl) ?_
        refine lv_iload_n hx hb dX7_move_24 rfl (lv_at hl 3 rfl) ?_
        refine lv_iconst (v := 1) hx hb dX7_move_25 (by decide) ?_
        refine lv_iload hx hb dX7_move_26 (lv_at hl 5 rfl) ?_
        refine tcL (Tc := [(h0, aJ (k 1) 900 anJ), (h1, aJ (k 1) 9 anJ)]) (Tr := [(h2, aJ (k 1) 9 anJ)]) (as := [h0, h1]) (zcS (As := [.ref h0, .int v7, .int 1, .ref h1, .int x3, .int 1, .int x5]) (rest := [.int y3, .ref h2]) (Tc := [(h0, aJ (k 1) 900 anJ), (h1, aJ (k 1) 9 anJ)]) hx hb hml hown hU hK hT [0, 1] rfl (by decide) (cX7_addUp_e71ca l D k _ h0 h1 v7 x3 x5 (by omega) (by omega) (by omega)) w366 w364 w365 w74 hdX7_addUp ⟨rfl, rfl⟩ ⟨Nat.le_of_ble_eq_true rfl, Nat.le_of_ble_eq_true rfl⟩ rfl hl.1 (Nat.le_of_ble_eq_true rfl) dX7_move_28 ⟨Nat.le_of_ble_eq_true rfl, Nat.le_of_ble_eq_true rfl⟩) hT hS hA [0, 1] [2] rfl rfl rfl (by decide) (by decide) (fun r8 H locs hB J hS => ?_)
        have hT1 := hB
        have hT := J _ hT1
        have hT : TP D A [(h2, aJ (k 1) 9 anJ), (h0, aJ (k 1) 900 anJ), (h1, aJ (k 1) 9 anJ)] _ := hT
        refine tz_last hx hb hK hT hS 0 rfl (by omega) (fun _ _ => trivial) dX7_move_31 (fun H locs hT hS => ?_)
        obtain ⟨v9, e_v9⟩ : ∃ x : Int32, x = y3 + Int32.ofInt 1 := ⟨_, rfl⟩
        have f_v9 := e_v9.symm
        have e_v9 : v9.toInt = y3.toInt + 1 := ai_add e_v9 rfl (show (Int32.ofInt 1).toInt = 1 from (by decide +kernel)) (by omega)
        refine lv_iinc (v := v9) (lv' := [(6, .int v9), (0, .ref h0), (1, .int x1), (2, .ref h1), (3, .int x3), (4, .ref h2), (5, .int x5)]) hx hb dX7_move_32 hl (k := 6) rfl f_v9 (by decide) rfl (fun ls hl => ?_)
        refine lv_goto (tgt := 3) hx hb dX7_move_35 (by decide) ?_
        exact ih3_4 v9 _ _ _ (by omega)  (by omega) (hT.sub [1, 2, 0] (by decide) rfl) hS (lv_sub hl [1, 2, 3, 4, 5, 6, 0] rfl)
  exact lp3_4 ((x5.toInt + (-1) * (0 : Int32).toInt + 1).toNat + 1) (0) _ _ _ (by have := li_0; omega)  (Nat.lt_succ_self _) hT hS (lv_sub hl [1, 2, 3, 4, 5, 6, 0] rfl)
abbrev Rm_cX10_still_9bd98 : Room := { frames := 6, cells := 0, slots := 0, locals := 149 }
abbrev B_cX10_still_9bd98 (D : va_G) (k : Nat → ClassId) (h0 h1 h5 h8 h11 h12 h13 h21 h22 h23 h24 h25 h26 h27 h28 h2 h3 h4 h6 h7 h9 h10 : Nat) (x1 : Int32) (x2 : Int32) (x3 : Int32) (h0f2 : Int32) (h0f6 : Int32) (h0f8 : Int32) (h0f11 : Int32) (h1f0 : Int32) (h1f1 : Int32) (h1f2 : Int32) (h5f8 : Int32) (h5f9 : Int32) (h5f10 : Int32) (h5f11 : Int32) (h8f1 : Int32) (A : Nat → Prop) (r : Int32) (H : Heap) : Prop := ∃ o0 : Int32, ∃ o1 : Int32, ∃ o2 : Int32, ∃ o3 : Int32, ∃ o4 : Int32, ∃ o5 : Int32, (0 ≤ o0.toInt ∧ o0.toInt ≤ 1) ∧ (0 ≤ o1.toInt ∧ o1.toInt ≤ 9) ∧ (0 ≤ o2.toInt ∧ o2.toInt ≤ 100) ∧ (0 ≤ o3.toInt ∧ o3.toInt ≤ 100) ∧ (0 ≤ o4.toInt ∧ o4.toInt ≤ 1) ∧ (0 ≤ o5.toInt ∧ o5.toInt ≤ 7) ∧ TP D A [(h0, ob 7 [.ref h1, .ref h2, .int h0f2, .ref h3, .ref h4, .ref h5, .int o0, .ref h6, .int h0f8, .null, .ref h7, .int h0f11, .ref h8, .ref h9, .ref h10, .ref h11, .ref h12]), (h1, ob 4 [.int h1f0, .int h1f1, .int h1f2, .ref h13]), (h5, ob 3 [.ref h21, .ref h22, .ref h23, .ref h24, .ref h25, .ref h26, .ref h27, .ref h28, .int o1, .int o2, .int o3, .int o4]), (h8, ob 2 [.ref h1, .int o5]), (h11, aJ (k 1) 9 anJ), (h12, aJ (k 1) 9 anJ), (h13, aJ (k 1) 36 anJ), (h21, aJ (k 1) 900 anJ), (h22, aI (k 0) 100 anI), (h23, aI (k 0) 100 anI), (h24, aI (k 0) 100 anI), (h25, aI (k 0) 400 anI), (h26, aI (k 0) 256 (rgI (-1) 99)), (h27, aI (k 0) 100 (rgI (-1) 99)), (h28, aJ (k 1) 60 anJ)] H
set_option maxHeartbeats 4000000 in
set_option maxRecDepth 100000 in
theorem cX10_still_9bd98 (l : Launch) (D : va_G) (k : Nat → ClassId) (sz : Nat) (h0 h1 h5 h8 h11 h12 h13 h21 h22 h23 h24 h25 h26 h27 h28 h2 h3 h4 h6 h7 h9 h10 : Nat) (x1 : Int32) (x2 : Int32) (x3 : Int32) (h0f2 : Int32) (h0f6 : Int32) (h0f8 : Int32) (h0f11 : Int32) (h1f0 : Int32) (h1f1 : Int32) (h1f2 : Int32) (h5f8 : Int32) (h5f9 : Int32) (h5f10 : Int32) (h5f11 : Int32) (h8f1 : Int32) (b_h0f2 : 0 ≤ h0f2.toInt ∧ h0f2.toInt ≤ 1) (b_h0f6 : 0 ≤ h0f6.toInt ∧ h0f6.toInt ≤ 1) (b_h0f8 : 0 ≤ h0f8.toInt ∧ h0f8.toInt ≤ 1) (b_h0f11 : 0 ≤ h0f11.toInt ∧ h0f11.toInt ≤ 200) (b_h1f0 : 1 ≤ h1f0.toInt ∧ h1f0.toInt ≤ 3) (b_h1f1 : 0 ≤ h1f1.toInt ∧ h1f1.toInt ≤ 4) (b_h5f8 : 0 ≤ h5f8.toInt ∧ h5f8.toInt ≤ 9) (b_h5f9 : 0 ≤ h5f9.toInt ∧ h5f9.toInt ≤ 100) (b_h5f10 : 0 ≤ h5f10.toInt ∧ h5f10.toInt ≤ 100) (b_h5f11 : 0 ≤ h5f11.toInt ∧ h5f11.toInt ≤ 1) (b_h8f1 : 0 ≤ h8f1.toInt ∧ h8f1.toInt ≤ 7) : Met l yX10_still (Cond.code yX10_still cX10_still 6 (some .int) :: uw) Rm_cX10_still_9bd98 (pT D k sz [.ref h0, .int x1, .int x2, .int x3] [(h0, ob 7 [.ref h1, .ref h2, .int h0f2, .ref h3, .ref h4, .ref h5, .int h0f6, .ref h6, .int h0f8, .null, .ref h7, .int h0f11, .ref h8, .ref h9, .ref h10, .ref h11, .ref h12]), (h1, ob 4 [.int h1f0, .int h1f1, .int h1f2, .ref h13]), (h5, ob 3 [.ref h21, .ref h22, .ref h23, .ref h24, .ref h25, .ref h26, .ref h27, .ref h28, .int h5f8, .int h5f9, .int h5f10, .int h5f11]), (h8, ob 2 [.ref h1, .int h8f1]), (h11, aJ (k 1) 9 anJ), (h12, aJ (k 1) 9 anJ), (h13, aJ (k 1) 36 anJ), (h21, aJ (k 1) 900 anJ), (h22, aI (k 0) 100 anI), (h23, aI (k 0) 100 anI), (h24, aI (k 0) 100 anI), (h25, aI (k 0) 400 anI), (h26, aI (k 0) 256 (rgI (-1) 99)), (h27, aI (k 0) 100 (rgI (-1) 99)), (h28, aJ (k 1) 60 anJ)]) (qI (B_cX10_still_9bd98 D k h0 h1 h5 h8 h11 h12 h13 h21 h22 h23 h24 h25 h26 h27 h28 h2 h3 h4 h6 h7 h9 h10 x1 x2 x3 h0f2 h0f6 h0f8 h0f11 h1f0 h1f1 h1f2 h5f8 h5f9 h5f10 h5f11 h8f1 (zA [h0, h1, h5, h8, h11, h12, h13, h21, h22, h23, h24, h25, h26, h27, h28] sz)) (zA [h0, h1, h5, h8, h11, h12, h13, h21, h22, h23, h24, h25, h26, h27, h28] sz)) 0 0 (zA [h0, h1, h5, h8, h11, h12, h13, h21, h22, h23, h24, h25, h26, h27, h28] sz) := by
  refine tz_begin (as := [h0, h1, h5, h8, h11, h12, h13, h21, h22, h23, h24, h25, h26, h27, h28]) (Qc := fun A => qI (B_cX10_still_9bd98 D k h0 h1 h5 h8 h11 h12 h13 h21 h22 h23 h24 h25 h26 h27 h28 h2 h3 h4 h6 h7 h9 h10 x1 x2 x3 h0f2 h0f6 h0f8 h0f11 h1f0 h1f1 h1f2 h5f8 h5f9 h5f10 h5f11 h8f1 A) A) (by decide +kernel) rfl (Nat.le_of_ble_eq_true rfl) ?_
  intro p e s m args below meth c ls A Q hx hb hr hml hown hlocks hin hU hK hT hS hA hl hQ
  have hl : lv_has ls 6 [(0, .ref h0), (1, .int x1), (2, .int x2), (3, .int x3)] := hl
  have hT : TP D A [(h0, ob 7 [.ref h1, .ref h2, .int h0f2, .ref h3, .ref h4, .ref h5, .int h0f6, .ref h6, .int h0f8, .null, .ref h7, .int h0f11, .ref h8, .ref h9, .ref h10, .ref h11, .ref h12]), (h1, ob 4 [.int h1f0, .int h1f1, .int h1f2, .ref h13]), (h5, ob 3 [.ref h21, .ref h22, .ref h23, .ref h24, .ref h25, .ref h26, .ref h27, .ref h28, .int h5f8, .int h5f9, .int h5f10, .int h5f11]), (h8, ob 2 [.ref h1, .int h8f1]), (h11, aJ (k 1) 9 anJ), (h12, aJ (k 1) 9 anJ), (h13, aJ (k 1) 36 anJ), (h21, aJ (k 1) 900 anJ), (h22, aI (k 0) 100 anI), (h23, aI (k 0) 100 anI), (h24, aI (k 0) 100 anI), (h25, aI (k 0) 400 anI), (h26, aI (k 0) 256 (rgI (-1) 99)), (h27, aI (k 0) 100 (rgI (-1) 99)), (h28, aJ (k 1) 60 anJ)] s.heap := hT
  refine lv_iload_n hx hb dX10_still_0 rfl (lv_at hl 1 rfl) ?_
  refine lv_iload_n hx hb dX10_still_1 rfl (lv_at hl 2 rfl) ?_
  refine lv_iload_n hx hb dX10_still_2 rfl (lv_at hl 3 rfl) ?_
  refine tcI (Tc := []) (Tr := [(h0, ob 7 [.ref h1, .ref h2, .int h0f2, .ref h3, .ref h4, .ref h5, .int h0f6, .ref h6, .int h0f8, .null, .ref h7, .int h0f11, .ref h8, .ref h9, .ref h10, .ref h11, .ref h12]), (h1, ob 4 [.int h1f0, .int h1f1, .int h1f2, .ref h13]), (h5, ob 3 [.ref h21, .ref h22, .ref h23, .ref h24, .ref h25, .ref h26, .ref h27, .ref h28, .int h5f8, .int h5f9, .int h5f10, .int h5f11]), (h8, ob 2 [.ref h1, .int h8f1]), (h11, aJ (k 1) 9 anJ), (h12, aJ (k 1) 9 anJ), (h13, aJ (k 1) 36 anJ), (h21, aJ (k 1) 900 anJ), (h22, aI (k 0) 100 anI), (h23, aI (k 0) 100 anI), (h24, aI (k 0) 100 anI), (h25, aI (k 0) 400 anI), (h26, aI (k 0) 256 (rgI (-1) 99)), (h27, aI (k 0) 100 (rgI (-1) 99)), (h28, aJ (k 1) 60 anJ)]) (as := []) (zcS (As := [.int x1, .int x2, .int x3]) (rest := []) (Tc := []) hx hb hml hown hU hK hT [] rfl (by decide) (cX10_isStart_c203d l D k _ x1 x2 x3) w688 w686 w687 w63 hdX10_isStart ⟨rfl, rfl⟩ ⟨Nat.le_of_ble_eq_true rfl, Nat.le_of_ble_eq_true rfl⟩ rfl hl.1 (Nat.le_of_ble_eq_true rfl) dX10_still_3 ⟨Nat.le_of_ble_eq_true rfl, Nat.le_of_ble_eq_true rfl⟩) hT hS hA [] [0, 1, 2, 3, 4, 5, 6, 7, 8, 9, 10, 11, 12, 13, 14] rfl rfl rfl (by decide) (by decide) (fun r1 H locs hB J hS => ?_)
  obtain ⟨b_r1, hT1⟩ := hB
  have hT := J _ hT1
  have hT : TP D A [(h0, ob 7 [.ref h1, .ref h2, .int h0f2, .ref h3, .ref h4, .ref h5, .int h0f6, .ref h6, .int h0f8, .null, .ref h7, .int h0f11, .ref h8, .ref h9, .ref h10, .ref h11, .ref h12]), (h1, ob 4 [.int h1f0, .int h1f1, .int h1f2, .ref h13]), (h5, ob 3 [.ref h21, .ref h22, .ref h23, .ref h24, .ref h25, .ref h26, .ref h27, .ref h28, .int h5f8, .int h5f9, .int h5f10, .int h5f11]), (h8, ob 2 [.ref h1, .int h8f1]), (h11, aJ (k 1) 9 anJ), (h12, aJ (k 1) 9 anJ), (h13, aJ (k 1) 36 anJ), (h21, aJ (k 1) 900 anJ), (h22, aI (k 0) 100 anI), (h23, aI (k 0) 100 anI), (h24, aI (k 0) 100 anI), (h25, aI (k 0) 400 anI), (h26, aI (k 0) 256 (rgI (-1) 99)), (h27, aI (k 0) 100 (rgI (-1) 99)), (h28, aJ (k 1) 60 anJ)] _ := hT
  refine lv_if_ne (tgt := 11) hx hb dX10_still_6 (by decide) (fun c_2 => ?_) (fun c_2 => ?_)
  · skip
    have c_2 := ni_ne c_2 rfl li_0
    refine lv_aload_n hx hb dX10_still_11 rfl (lv_at hl 0 rfl) ?_
    refine tcV (Tc := [(h0, ob 7 [.ref h1, .ref h2, .int h0f2, .ref h3, .ref h4, .ref h5, .int h0f6, .ref h6, .int h0f8, .null, .ref h7, .int h0f11, .ref h8, .ref h9, .ref h10, .ref h11, .ref h12]), (h1, ob 4 [.int h1f0, .int h1f1, .int h1f2, .ref h13]), (h5, ob 3 [.ref h21, .ref h22, .ref h23, .ref h24, .ref h25, .ref h26, .ref h27, .ref h28, .int h5f8, .int h5f9, .int h5f10, .int h5f11]), (h8, ob 2 [.ref h1, .int h8f1]), (h11, aJ (k 1) 9 anJ), (h13, aJ (k 1) 36 anJ), (h21, aJ (k 1) 900 anJ), (h22, aI (k 0) 100 anI), (h23, aI (k 0) 100 anI), (h24, aI (k 0) 100 anI), (h25, aI (k 0) 400 anI), (h26, aI (k 0) 256 (rgI (-1) 99)), (h27, aI (k 0) 100 (rgI (-1) 99)), (h28, aJ (k 1) 60 anJ)]) (Tr := [(h12, aJ (k 1) 9 anJ)]) (as := [h0, h1, h5, h8, h11, h13, h21, h22, h23, h24, h25, h26, h27, h28]) (zcV (q0 := 0) (ci := 7) (As := []) (rest := []) (Tc := [(h0, ob 7 [.ref h1, .ref h2, .int h0f2, .ref h3, .ref h4, .ref h5, .int h0f6, .ref h6, .int h0f8, .null, .ref h7, .int h0f11, .ref h8, .ref h9, .ref h10, .ref h11, .ref h12]), (h1, ob 4 [.int h1f0, .int h1f1, .int h1f2, .ref h13]), (h5, ob 3 [.ref h21, .ref h22, .ref h23, .ref h24, .ref h25, .ref h26, .ref h27, .ref h28, .int h5f8, .int h5f9, .int h5f10, .int h5f11]), (h8, ob 2 [.ref h1, .int h8f1]), (h11, aJ (k 1) 9 anJ), (h13, aJ (k 1) 36 anJ), (h21, aJ (k 1) 900 anJ), (h22, aI (k 0) 100 anI), (h23, aI (k 0) 100 anI), (h24, aI (k 0) 100 anI), (h25, aI (k 0) 400 anI), (h26, aI (k 0) 256 (rgI (-1) 99)), (h27, aI (k 0) 100 (rgI (-1) 99)), (h28, aJ (k 1) 60 anJ)]) hx hb hml hown hU hK hT rfl rfl [0, 1, 2, 3, 4, 6, 7, 8, 9, 10, 11, 12, 13, 14] rfl (by decide) (cX10_listAll_fe300 l D k _ h0 h1 h5 h8 h11 h13 h21 h22 h23 h24 h25 h26 h27 h28 h2 h3 h4 h6 h7 h9 h10 h12 h0f2 h0f6 h0f8 h0f11 h1f0 h1f1 h1f2 h5f8 h5f9 h5f10 h5f11 h8f1 (by omega) (by omega) (by omega) (by omega) (by omega) (by omega) (by omega) (by omega) (by omega) (by omega) (by omega)) w492 w489 w491 w10 w63 hdX10_listAll ⟨rfl, rfl⟩ ⟨Nat.le_of_ble_eq_true rfl, Nat.le_of_ble_eq_true rfl⟩ rfl hl.1 (Nat.le_of_ble_eq_true rfl) dX10_still_12 ⟨Nat.le_of_ble_eq_true rfl, Nat.le_of_ble_eq_true rfl⟩) hT hS hA [0, 1, 2, 3, 4, 6, 7, 8, 9, 10, 11, 12, 13, 14] [5] rfl rfl rfl (by decide) (by decide) (fun H locs hB J hS => ?_)
    obtain ⟨v4, v5, v6, v7, v8, v9, b_v4, b_v5, b_v6, b_v7, b_v8, b_v9, hT1⟩ := hB
    have hT := J _ hT1
    have hT : TP D A [(h12, aJ (k 1) 9 anJ), (h0, ob 7 [.ref h1, .ref h2, .int h0f2, .ref h3, .ref h4, .ref h5, .int v4, .ref h6, .int h0f8, .null, .ref h7, .int h0f11, .ref h8, .ref h9, .ref h10, .ref h11, .ref h12]), (h1, ob 4 [.int h1f0, .int h1f1, .int h1f2, .ref h13]), (h5, ob 3 [.ref h21, .ref h22, .ref h23, .ref h24, .ref h25, .ref h26, .ref h27, .ref h28, .int v5, .int v6, .int v7, .int v8]), (h8, ob 2 [.ref h1, .int v9]), (h11, aJ (k 1) 9 anJ), (h13, aJ (k 1) 36 anJ), (h21, aJ (k 1) 900 anJ), (h22, aI (k 0) 100 anI), (h23, aI (k 0) 100 anI), (h24, aI (k 0) 100 anI), (h25, aI (k 0) 400 anI), (h26, aI (k 0) 256 (rgI (-1) 99)), (h27, aI (k 0) 100 (rgI (-1) 99)), (h28, aJ (k 1) 60 anJ)] _ := hT
    refine lv_aload_n hx hb dX10_still_15 rfl (lv_at hl 0 rfl) ?_
    refine lv_iload_n hx hb dX10_still_16 rfl (lv_at hl 1 rfl) ?_
    refine lv_iload_n hx hb dX10_still_17 rfl (lv_at hl 2 rfl) ?_
    refine lv_iload_n hx hb dX10_still_18 rfl (lv_at hl 3 rfl) ?_
    refine tcV (Tc := [(h0, ob 7 [.ref h1, .ref h2, .int h0f2, .ref h3, .ref h4, .ref h5, .int v4, .ref h6, .int h0f8, .null, .ref h7, .int h0f11, .ref h8, .ref h9, .ref h10, .ref h11, .ref h12]), (h11, aJ (k 1) 9 anJ)]) (Tr := [(h12, aJ (k 1) 9 anJ), (h1, ob 4 [.int h1f0, .int h1f1, .int h1f2, .ref h13]), (h5, ob 3 [.ref h21, .ref h22, .ref h23, .ref h24, .ref h25, .ref h26, .ref h27, .ref h28, .int v5, .int v6, .int v7, .int v8]), (h8, ob 2 [.ref h1, .int v9]), (h13, aJ (k 1) 36 anJ), (h21, aJ (k 1) 900 anJ), (h22, aI (k 0) 100 anI), (h23, aI (k 0) 100 anI), (h24, aI (k 0) 100 anI), (h25, aI (k 0) 400 anI), (h26, aI (k 0) 256 (rgI (-1) 99)), (h27, aI (k 0) 100 (rgI (-1) 99)), (h28, aJ (k 1) 60 anJ)]) (as := [h0, h11]) (zcV (q0 := 1) (ci := 7) (As := [.int x1, .int x2, .int x3]) (rest := []) (Tc := [(h0, ob 7 [.ref h1, .ref h2, .int h0f2, .ref h3, .ref h4, .ref h5, .int v4, .ref h6, .int h0f8, .null, .ref h7, .int h0f11, .ref h8, .ref h9, .ref h10, .ref h11, .ref h12]), (h11, aJ (k 1) 9 anJ)]) hx hb hml hown hU hK hT rfl rfl [1, 5] rfl (by decide) (cX10_setPoint_928ca l D k _ h0 h11 h1 h2 h3 h4 h5 h6 h7 h8 h9 h10 h12 x1 x2 x3 h0f2 v4 h0f8 h0f11 (by omega) (by omega) (by omega) (by omega)) w695 w692 w694 w24 w63 hdX10_setPoint ⟨rfl, rfl⟩ ⟨Nat.le_of_ble_eq_true rfl, Nat.le_of_ble_eq_true rfl⟩ rfl hl.1 (Nat.le_of_ble_eq_true rfl) dX10_still_19 ⟨Nat.le_of_ble_eq_true rfl, Nat.le_of_ble_eq_true rfl⟩) hT hS hA [1, 5] [0, 2, 3, 4, 6, 7, 8, 9, 10, 11, 12, 13, 14] rfl rfl rfl (by decide) (by decide) (fun H locs hB J hS => ?_)
    have hT1 := hB
    have hT := J _ hT1
    have hT : TP D A [(h12, aJ (k 1) 9 anJ), (h1, ob 4 [.int h1f0, .int h1f1, .int h1f2, .ref h13]), (h5, ob 3 [.ref h21, .ref h22, .ref h23, .ref h24, .ref h25, .ref h26, .ref h27, .ref h28, .int v5, .int v6, .int v7, .int v8]), (h8, ob 2 [.ref h1, .int v9]), (h13, aJ (k 1) 36 anJ), (h21, aJ (k 1) 900 anJ), (h22, aI (k 0) 100 anI), (h23, aI (k 0) 100 anI), (h24, aI (k 0) 100 anI), (h25, aI (k 0) 400 anI), (h26, aI (k 0) 256 (rgI (-1) 99)), (h27, aI (k 0) 100 (rgI (-1) 99)), (h28, aJ (k 1) 60 anJ), (h0, ob 7 [.ref h1, .ref h2, .int h0f2, .ref h3, .ref h4, .ref h5, .int v4, .ref h6, .int h0f8, .null, .ref h7, .int h0f11, .ref h8, .ref h9, .ref h10, .ref h11, .ref h12]), (h11, aJ (k 1) 9 anJ)] _ := hT
    refine lv_iconst (v := 0) hx hb dX10_still_22 (by decide) ?_
    refine lv_istore (lv' := [(4, .int 0), (0, .ref h0), (1, .int x1), (2, .int x2), (3, .int x3)]) hx hb dX10_still_23 hl (by decide) rfl (fun ls hl => ?_)
    refine lv_iconst (v := 0) hx hb dX10_still_25 (by decide) ?_
    refine lv_istore (lv' := [(5, .int 0), (4, .int 0), (0, .ref h0), (1, .int x1), (2, .int x2), (3, .int x3)]) hx hb dX10_still_26 hl (by decide) rfl (fun ls hl => ?_)
    have lp28_69 : ∀ (n : Nat) (y67 : Int32) (y68 : Int32) (H : Heap) (locs : List Loc) (ls : Array Slot), (0 ≤ y67.toInt ∧ y67.toInt ≤ 100) → (v7.toInt + (-1) * y67.toInt + 1).toNat < n → TP D A [(h12, aJ (k 1) 9 anJ), (h1, ob 4 [.int h1f0, .int h1f1, .int h1f2, .ref h13]), (h5, ob 3 [.ref h21, .ref h22, .ref h23, .ref h24, .ref h25, .ref h26, .ref h27, .ref h28, .int v5, .int v6, .int v7, .int v8]), (h8, ob 2 [.ref h1, .int v9]), (h13, aJ (k 1) 36 anJ), (h21, aJ (k 1) 900 anJ), (h22, aI (k 0) 100 anI), (h23, aI (k 0) 100 anI), (h24, aI (k 0) 100 anI), (h25, aI (k 0) 400 anI), (h26, aI (k 0) 256 (rgI (-1) 99)), (h27, aI (k 0) 100 (rgI (-1) 99)), (h28, aJ (k 1) 60 anJ), (h0, ob 7 [.ref h1, .ref h2, .int h0f2, .ref h3, .ref h4, .ref h5, .int v4, .ref h6, .int h0f8, .null, .ref h7, .int h0f11, .ref h8, .ref h9, .ref h10, .ref h11, .ref h12]), (h11, aJ (k 1) 9 anJ)] H → va_S A s.heap H locs → lv_has ls 6 [(0, .ref h0), (4, .int y68), (5, .int y67)] → W p l e Rm_cX10_still_9bd98 s m args below meth c H locs 0 0 Q (F0 m 28 ls []) := by
      intro n
      induction n with
      | zero => intro y67 y68 H locs ls b_y67 hm hT hS hl; exact absurd hm (Nat.not_lt_zero _)
      | succ n ih =>
        intro y67 y68 H locs ls b_y67 hm hT hS hl
        have ih28_69 := ih
        clear ih
        refine lv_iload hx hb dX10_still_28 (lv_at hl 2 rfl) ?_
        refine lv_aload_n hx hb dX10_still_30 rfl (lv_at hl 0 rfl) ?_
        refine tz_get (ci := 7) (v := .ref h5) (C := RX10) (F := TX10) (N := 17) hx hb hU iX10 hown hK hT 13 rfl rfl 5 (by decide) w254 (fun _ h9 => h9) rfl dX10_still_31 ?_
        refine tz_get (ci := 3) (v := .int v7) (C := RX4) (F := TX4) (N := 12) hx hb hU iX4 hown hK hT 2 rfl rfl 10 (by decide) w166 (fun _ h9 => h9) rfl dX10_still_34 ?_
        refine lv_icmp_ge (tgt := 105) hx hb dX10_still_37 (by decide) (fun c_70 => ?_) (fun c_70 => ?_)
        · skip
          have c_70 := ni_le c_70 rfl rfl
          refine lv_iload hx hb dX10_still_105 (lv_at hl 1 rfl) ?_
          exact tz_retI (B := B_cX10_still_9bd98 D k h0 h1 h5 h8 h11 h12 h13 h21 h22 h23 h24 h25 h26 h27 h28 h2 h3 h4 h6 h7 h9 h10 x1 x2 x3 h0f2 h0f6 h0f8 h0f11 h1f0 h1f1 h1f2 h5f8 h5f9 h5f10 h5f11 h8f1) (v := y68) hQ hx hb hr hlocks hS (Nat.le_of_ble_eq_true rfl) (Nat.le_of_ble_eq_true rfl) dX10_still_107 (⟨v4, v5, v6, v7, v8, v9, (by omega), (by omega), (by omega), (by omega), (by omega), (by omega), (hT.sub [13, 1, 2, 3, 14, 0, 4, 5, 6, 7, 8, 9, 10, 11, 12] (by decide) rfl)⟩)
        · skip
          have c_70 := ni_nle c_70 rfl rfl
          refine lv_aload_n hx hb dX10_still_40 rfl (lv_at hl 0 rfl) ?_
          refine tz_get (ci := 7) (v := .ref h5) (C := RX10) (F := TX10) (N := 17) hx hb hU iX10 hown hK hT 13 rfl rfl 5 (by decide) w254 (fun _ h9 => h9) rfl dX10_still_41 ?_
          refine tz_get (ci := 3) (v := .ref h21) (C := RX4) (F := TX4) (N := 12) hx hb hU iX4 hown hK hT 2 rfl rfl 0 (by decide) w150 (fun _ h9 => h9) rfl dX10_still_44 ?_
          refine lv_aload_n hx hb dX10_still_47 rfl (lv_at hl 0 rfl) ?_
          refine tz_get (ci := 7) (v := .ref h5) (C := RX10) (F := TX10) (N := 17) hx hb hU iX10 hown hK hT 13 rfl rfl 5 (by decide) w254 (fun _ h9 => h9) rfl dX10_still_48 ?_
          refine lv_iload hx hb dX10_still_51 (lv_at hl 2 rfl) ?_
          refine tcI (Tc := [(h5, ob 3 [.ref h21, .ref h22, .ref h23, .ref h24, .ref h25, .ref h26, .ref h27, .ref h28, .int v5, .int v6, .int v7, .int v8])]) (Tr := [(h12, aJ (k 1) 9 anJ), (h1, ob 4 [.int h1f0, .int h1f1, .int h1f2, .ref h13]), (h8, ob 2 [.ref h1, .int v9]), (h13, aJ (k 1) 36 anJ), (h21, aJ (k 1) 900 anJ), (h22, aI (k 0) 100 anI), (h23, aI (k 0) 100 anI), (h24, aI (k 0) 100 anI), (h25, aI (k 0) 400 anI), (h26, aI (k 0) 256 (rgI (-1) 99)), (h27, aI (k 0) 100 (rgI (-1) 99)), (h28, aJ (k 1) 60 anJ), (h0, ob 7 [.ref h1, .ref h2, .int h0f2, .ref h3, .ref h4, .ref h5, .int v4, .ref h6, .int h0f8, .null, .ref h7, .int h0f11, .ref h8, .ref h9, .ref h10, .ref h11, .ref h12]), (h11, aJ (k 1) 9 anJ)]) (as := [h5]) (zcV (q0 := 2) (ci := 3) (As := [.int y67]) (rest := [.ref h21]) (Tc := [(h5, ob 3 [.ref h21, .ref h22, .ref h23, .ref h24, .ref h25, .ref h26, .ref h27, .ref h28, .int v5, .int v6, .int v7, .int v8])]) hx hb hml hown hU hK hT rfl rfl [2] rfl (by decide) (cX4_start_d01b0 l D k _ h5 h21 h22 h23 h24 h25 h26 h27 h28 y67 v5 v6 v7 v8 (by omega) (by omega) (by omega) (by omega) (by omega)) w505 w574 w503 w504 w66 hdX4_start ⟨rfl, rfl⟩ ⟨Nat.le_of_ble_eq_true rfl, Nat.le_of_ble_eq_true rfl⟩ rfl hl.1 (Nat.le_of_ble_eq_true rfl) dX10_still_53 ⟨Nat.le_of_ble_eq_true rfl, Nat.le_of_ble_eq_true rfl⟩) hT hS hA [2] [0, 1, 3, 4, 5, 6, 7, 8, 9, 10, 11, 12, 13, 14] rfl rfl rfl (by decide) (by decide) (fun r71 H locs hB J hS => ?_)
          obtain ⟨b_r71, hT1⟩ := hB
          have hT := J _ hT1
          have hT : TP D A [(h12, aJ (k 1) 9 anJ), (h1, ob 4 [.int h1f0, .int h1f1, .int h1f2, .ref h13]), (h8, ob 2 [.ref h1, .int v9]), (h13, aJ (k 1) 36 anJ), (h21, aJ (k 1) 900 anJ), (h22, aI (k 0) 100 anI), (h23, aI (k 0) 100 anI), (h24, aI (k 0) 100 anI), (h25, aI (k 0) 400 anI), (h26, aI (k 0) 256 (rgI (-1) 99)), (h27, aI (k 0) 100 (rgI (-1) 99)), (h28, aJ (k 1) 60 anJ), (h0, ob 7 [.ref h1, .ref h2, .int h0f2, .ref h3, .ref h4, .ref h5, .int v4, .ref h6, .int h0f8, .null, .ref h7, .int h0f11, .ref h8, .ref h9, .ref h10, .ref h11, .ref h12]), (h11, aJ (k 1) 9 anJ), (h5, ob 3 [.ref h21, .ref h22, .ref h23, .ref h24, .ref h25, .ref h26, .ref h27, .ref h28, .int v5, .int v6, .int v7, .int v8])] _ := hT
          refine lv_aload_n hx hb dX10_still_56 rfl (lv_at hl 0 rfl) ?_
          refine tz_get (ci := 7) (v := .ref h11) (C := RX10) (F := TX10) (N := 17) hx hb hU iX10 hown hK hT 12 rfl rfl 15 (by decide) w264 (fun _ h9 => h9) rfl dX10_still_57 ?_
          refine lv_iconst (v := 0) hx hb dX10_still_60 (by decide) ?_
          refine lv_aload_n hx hb dX10_still_61 rfl (lv_at hl 0 rfl) ?_
          refine tz_get (ci := 7) (v := .ref h12) (C := RX10) (F := TX10) (N := 17) hx hb hU iX10 hown hK hT 12 rfl rfl 16 (by decide) w265 (fun _ h9 => h9) rfl dX10_still_62 ?_
          refine lv_aload_n hx hb dX10_still_65 rfl (lv_at hl 0 rfl) ?_
          refine tz_get (ci := 7) (v := .ref h1) (C := RX10) (F := TX10) (N := 17) hx hb hU iX10 hown hK hT 12 rfl rfl 0 (by decide) w249 (fun _ h9 => h9) rfl dX10_still_66 ?_
          refine tz_get (ci := 4) (v := .int h1f0) (C := RX5) (F := TX5) (N := 4) hx hb hU iX5 hown hK hT 1 rfl rfl 0 (by decide) w93 (fun _ h9 => h9) rfl dX10_still_69 ?_
          have q_q73 := li_0
          refine tcV (Tc := [(h21, aJ (k 1) 900 anJ), (h11, aJ (k 1) 9 anJ), (h12, aJ (k 1) 9 anJ)]) (Tr := [(h1, ob 4 [.int h1f0, .int h1f1, .int h1f2, .ref h13]), (h8, ob 2 [.ref h1, .int v9]), (h13, aJ (k 1) 36 anJ), (h22, aI (k 0) 100 anI), (h23, aI (k 0) 100 anI), (h24, aI (k 0) 100 anI), (h25, aI (k 0) 400 anI), (h26, aI (k 0) 256 (rgI (-1) 99)), (h27, aI (k 0) 100 (rgI (-1) 99)), (h28, aJ (k 1) 60 anJ), (h0, ob 7 [.ref h1, .ref h2, .int h0f2, .ref h3, .ref h4, .ref h5, .int v4, .ref h6, .int h0f8, .null, .ref h7, .int h0f11, .ref h8, .ref h9, .ref h10, .ref h11, .ref h12]), (h5, ob 3 [.ref h21, .ref h22, .ref h23, .ref h24, .ref h25, .ref h26, .ref h27, .ref h28, .int v5, .int v6, .int v7, .int v8])]) (as := [h21, h11, h12]) (zcS (As := [.ref h21, .int r71, .ref h11, .int 0, .ref h12, .int h1f0]) (rest := []) (Tc := [(h21, aJ (k 1) 900 anJ), (h11, aJ (k 1) 9 anJ), (h12, aJ (k 1) 9 anJ)]) hx hb hml hown hU hK hT [4, 13, 0] rfl (by decide) (cX7_move_0bb0f l D k _ h21 h11 h12 r71 (0) h1f0 (by omega) (by have := li_0; omega) (by omega)) w536 w712 w535 w74 hdX7_move ⟨rfl, rfl⟩ ⟨Nat.le_of_ble_eq_true rfl, Nat.le_of_ble_eq_true rfl⟩ rfl hl.1 (Nat.le_of_ble_eq_true rfl) dX10_still_72 ⟨Nat.le_of_ble_eq_true rfl, Nat.le_of_ble_eq_true rfl⟩) hT hS hA [4, 13, 0] [1, 2, 3, 5, 6, 7, 8, 9, 10, 11, 12, 14] rfl rfl rfl (by decide) (by decide) (fun H locs hB J hS => ?_)
          have hT1 := hB
          have hT := J _ hT1
          have hT : TP D A [(h1, ob 4 [.int h1f0, .int h1f1, .int h1f2, .ref h13]), (h8, ob 2 [.ref h1, .int v9]), (h13, aJ (k 1) 36 anJ), (h22, aI (k 0) 100 anI), (h23, aI (k 0) 100 anI), (h24, aI (k 0) 100 anI), (h25, aI (k 0) 400 anI), (h26, aI (k 0) 256 (rgI (-1) 99)), (h27, aI (k 0) 100 (rgI (-1) 99)), (h28, aJ (k 1) 60 anJ), (h0, ob 7 [.ref h1, .ref h2, .int h0f2, .ref h3, .ref h4, .ref h5, .int v4, .ref h6, .int h0f8, .null, .ref h7, .int h0f11, .ref h8, .ref h9, .ref h10, .ref h11, .ref h12]), (h5, ob 3 [.ref h21, .ref h22, .ref h23, .ref h24, .ref h25, .ref h26, .ref h27, .ref h28, .int v5, .int v6, .int v7, .int v8]), (h21, aJ (k 1) 900 anJ), (h11, aJ (k 1) 9 anJ), (h12, aJ (k 1) 9 anJ)] _ := hT
          refine lv_aload_n hx hb dX10_still_75 rfl (lv_at hl 0 rfl) ?_
          refine tz_get (ci := 7) (v := .ref h11) (C := RX10) (F := TX10) (N := 17) hx hb hU iX10 hown hK hT 10 rfl rfl 15 (by decide) w264 (fun _ h9 => h9) rfl dX10_still_76 ?_
          refine lv_aload_n hx hb dX10_still_79 rfl (lv_at hl 0 rfl) ?_
          refine tz_get (ci := 7) (v := .ref h12) (C := RX10) (F := TX10) (N := 17) hx hb hU iX10 hown hK hT 10 rfl rfl 16 (by decide) w265 (fun _ h9 => h9) rfl dX10_still_80 ?_
          refine lv_aload_n hx hb dX10_still_83 rfl (lv_at hl 0 rfl) ?_
          refine tz_get (ci := 7) (v := .ref h1) (C := RX10) (F := TX10) (N := 17) hx hb hU iX10 hown hK hT 10 rfl rfl 0 (by decide) w249 (fun _ h9 => h9) rfl dX10_still_84 ?_
          refine tz_get (ci := 4) (v := .int h1f0) (C := RX5) (F := TX5) (N := 4) hx hb hU iX5 hown hK hT 0 rfl rfl 0 (by decide) w93 (fun _ h9 => h9) rfl dX10_still_87 ?_
          refine tcI (Tc := [(h11, aJ (k 1) 9 anJ), (h12, aJ (k 1) 9 anJ)]) (Tr := [(h1, ob 4 [.int h1f0, .int h1f1, .int h1f2, .ref h13]), (h8, ob 2 [.ref h1, .int v9]), (h13, aJ (k 1) 36 anJ), (h22, aI (k 0) 100 anI), (h23, aI (k 0) 100 anI), (h24, aI (k 0) 100 anI), (h25, aI (k 0) 400 anI), (h26, aI (k 0) 256 (rgI (-1) 99)), (h27, aI (k 0) 100 (rgI (-1) 99)), (h28, aJ (k 1) 60 anJ), (h0, ob 7 [.ref h1, .ref h2, .int h0f2, .ref h3, .ref h4, .ref h5, .int v4, .ref h6, .int h0f8, .null, .ref h7, .int h0f11, .ref h8, .ref h9, .ref h10, .ref h11, .ref h12]), (h5, ob 3 [.ref h21, .ref h22, .ref h23, .ref h24, .ref h25, .ref h26, .ref h27, .ref h28, .int v5, .int v6, .int v7, .int v8]), (h21, aJ (k 1) 900 anJ)]) (as := [h11, h12]) (zcS (As := [.ref h11, .ref h12, .int h1f0]) (rest := []) (Tc := [(h11, aJ (k 1) 9 anJ), (h12, aJ (k 1) 9 anJ)]) hx hb hml hown hU hK hT [13, 14] rfl (by decide) (cX7_areAlike_339bc l D k _ h11 h12 h1f0 (by omega)) w608 w606 w607 w74 hdX7_areAlike ⟨rfl, rfl⟩ ⟨Nat.le_of_ble_eq_true rfl, Nat.le_of_ble_eq_true rfl⟩ rfl hl.1 (Nat.le_of_ble_eq_true rfl) dX10_still_90 ⟨Nat.le_of_ble_eq_true rfl, Nat.le_of_ble_eq_true rfl⟩) hT hS hA [13, 14] [0, 1, 2, 3, 4, 5, 6, 7, 8, 9, 10, 11, 12] rfl rfl rfl (by decide) (by decide) (fun r74 H locs hB J hS => ?_)
          obtain ⟨b_r74, hT1⟩ := hB
          have hT := J _ hT1
          have hT : TP D A [(h1, ob 4 [.int h1f0, .int h1f1, .int h1f2, .ref h13]), (h8, ob 2 [.ref h1, .int v9]), (h13, aJ (k 1) 36 anJ), (h22, aI (k 0) 100 anI), (h23, aI (k 0) 100 anI), (h24, aI (k 0) 100 anI), (h25, aI (k 0) 400 anI), (h26, aI (k 0) 256 (rgI (-1) 99)), (h27, aI (k 0) 100 (rgI (-1) 99)), (h28, aJ (k 1) 60 anJ), (h0, ob 7 [.ref h1, .ref h2, .int h0f2, .ref h3, .ref h4, .ref h5, .int v4, .ref h6, .int h0f8, .null, .ref h7, .int h0f11, .ref h8, .ref h9, .ref h10, .ref h11, .ref h12]), (h5, ob 3 [.ref h21, .ref h22, .ref h23, .ref h24, .ref h25, .ref h26, .ref h27, .ref h28, .int v5, .int v6, .int v7, .int v8]), (h21, aJ (k 1) 900 anJ), (h11, aJ (k 1) 9 anJ), (h12, aJ (k 1) 9 anJ)] _ := hT
          refine lv_if_eq (tgt := 99) hx hb dX10_still_93 (by decide) (fun c_75 => ?_) (fun c_75 => ?_)
          · skip
            have c_75 := ni_eq c_75 rfl li_0
            obtain ⟨v76, e_v76⟩ : ∃ x : Int32, x = y67 + Int32.ofInt 1 := ⟨_, rfl⟩
            have f_v76 := e_v76.symm
            have e_v76 : v76.toInt = y67.toInt + 1 := ai_add e_v76 rfl (show (Int32.ofInt 1).toInt = 1 from (by decide +kernel)) (by omega)
            refine lv_iinc (v := v76) (lv' := [(5, .int v76), (0, .ref h0), (4, .int y68)]) hx hb dX10_still_99 hl (k := 2) rfl f_v76 (by decide) rfl (fun ls hl => ?_)
            refine lv_goto (tgt := 28) hx hb dX10_still_102 (by decide) ?_
            exact ih28_69 v76 y68 _ _ _ (by omega)  (by omega) (hT.sub [14, 0, 11, 1, 2, 12, 3, 4, 5, 6, 7, 8, 9, 10, 13] (by decide) rfl) hS (lv_sub hl [1, 2, 0] rfl)
          · skip
            have c_75 := ni_ne c_75 rfl li_0
            obtain ⟨v77, e_v77⟩ : ∃ x : Int32, x = y68 + Int32.ofInt 1 := ⟨_, rfl⟩
            have f_v77 := e_v77.symm
            refine lv_iinc (v := v77) (lv' := [(4, .int v77), (0, .ref h0), (5, .int y67)]) hx hb dX10_still_96 hl (k := 1) rfl f_v77 (by decide) rfl (fun ls hl => ?_)
            obtain ⟨v78, e_v78⟩ : ∃ x : Int32, x = y67 + Int32.ofInt 1 := ⟨_, rfl⟩
            have f_v78 := e_v78.symm
            have e_v78 : v78.toInt = y67.toInt + 1 := ai_add e_v78 rfl (show (Int32.ofInt 1).toInt = 1 from (by decide +kernel)) (by omega)
            refine lv_iinc (v := v78) (lv' := [(5, .int v78), (4, .int v77), (0, .ref h0)]) hx hb dX10_still_99 hl (k := 2) rfl f_v78 (by decide) rfl (fun ls hl => ?_)
            refine lv_goto (tgt := 28) hx hb dX10_still_102 (by decide) ?_
            exact ih28_69 v78 v77 _ _ _ (by omega)  (by omega) (hT.sub [14, 0, 11, 1, 2, 12, 3, 4, 5, 6, 7, 8, 9, 10, 13] (by decide) rfl) hS (lv_sub hl [2, 1, 0] rfl)
    exact lp28_69 ((v7.toInt + (-1) * (0 : Int32).toInt + 1).toNat + 1) (0) (0) _ _ _ (by have := li_0; omega)  (Nat.lt_succ_self _) hT hS (lv_sub hl [2, 1, 0] rfl)
  · skip
    have c_2 := ni_eq c_2 rfl li_0
    refine lv_iconst (v := (-1)) hx hb dX10_still_9 (by decide) ?_
    exact tz_retI (B := B_cX10_still_9bd98 D k h0 h1 h5 h8 h11 h12 h13 h21 h22 h23 h24 h25 h26 h27 h28 h2 h3 h4 h6 h7 h9 h10 x1 x2 x3 h0f2 h0f6 h0f8 h0f11 h1f0 h1f1 h1f2 h5f8 h5f9 h5f10 h5f11 h8f1) (v := (-1)) hQ hx hb hr hlocks hS (Nat.le_of_ble_eq_true rfl) (Nat.le_of_ble_eq_true rfl) dX10_still_10 (⟨h0f6, h5f8, h5f9, h5f10, h5f11, h8f1, (by have := li_m1; omega), (by have := li_m1; omega), (by have := li_m1; omega), (by have := li_m1; omega), (by have := li_m1; omega), (by have := li_m1; omega), hT⟩)
abbrev Rm_cX10_still_b0b65 : Room := { frames := 6, cells := 0, slots := 0, locals := 149 }
abbrev B_cX10_still_b0b65 (D : va_G) (k : Nat → ClassId) (h0 h1 h5 h9 h12 h13 h14 h22 h23 h24 h25 h26 h27 h28 h29 h2 h3 h4 h6 h7 h8 h10 h11 : Nat) (x1 : Int32) (x2 : Int32) (x3 : Int32) (h0f2 : Int32) (h0f6 : Int32) (h0f8 : Int32) (h0f11 : Int32) (h1f0 : Int32) (h1f1 : Int32) (h1f2 : Int32) (h5f8 : Int32) (h5f9 : Int32) (h5f10 : Int32) (h5f11 : Int32) (h9f1 : Int32) (A : Nat → Prop) (r : Int32) (H : Heap) : Prop := ∃ o0 : Int32, ∃ o1 : Int32, ∃ o2 : Int32, ∃ o3 : Int32, ∃ o4 : Int32, ∃ o5 : Int32, (0 ≤ o0.toInt ∧ o0.toInt ≤ 1) ∧ (0 ≤ o1.toInt ∧ o1.toInt ≤ 9) ∧ (0 ≤ o2.toInt ∧ o2.toInt ≤ 100) ∧ (0 ≤ o3.toInt ∧ o3.toInt ≤ 100) ∧ (0 ≤ o4.toInt ∧ o4.toInt ≤ 1) ∧ (0 ≤ o5.toInt ∧ o5.toInt ≤ 7) ∧ TP D A [(h0, ob 7 [.ref h1, .ref h2, .int h0f2, .ref h3, .ref h4, .ref h5, .int o0, .ref h6, .int h0f8, .ref h7, .ref h8, .int h0f11, .ref h9, .ref h10, .ref h11, .ref h12, .ref h13]), (h1, ob 4 [.int h1f0, .int h1f1, .int h1f2, .ref h14]), (h5, ob 3 [.ref h22, .ref h23, .ref h24, .ref h25, .ref h26, .ref h27, .ref h28, .ref h29, .int o1, .int o2, .int o3, .int o4]), (h9, ob 2 [.ref h1, .int o5]), (h12, aJ (k 1) 9 anJ), (h13, aJ (k 1) 9 anJ), (h14, aJ (k 1) 36 anJ), (h22, aJ (k 1) 900 anJ), (h23, aI (k 0) 100 anI), (h24, aI (k 0) 100 anI), (h25, aI (k 0) 100 anI), (h26, aI (k 0) 400 anI), (h27, aI (k 0) 256 (rgI (-1) 99)), (h28, aI (k 0) 100 (rgI (-1) 99)), (h29, aJ (k 1) 60 anJ)] H
set_option maxHeartbeats 4000000 in
set_option maxRecDepth 100000 in
theorem cX10_still_b0b65 (l : Launch) (D : va_G) (k : Nat → ClassId) (sz : Nat) (h0 h1 h5 h9 h12 h13 h14 h22 h23 h24 h25 h26 h27 h28 h29 h2 h3 h4 h6 h7 h8 h10 h11 : Nat) (x1 : Int32) (x2 : Int32) (x3 : Int32) (h0f2 : Int32) (h0f6 : Int32) (h0f8 : Int32) (h0f11 : Int32) (h1f0 : Int32) (h1f1 : Int32) (h1f2 : Int32) (h5f8 : Int32) (h5f9 : Int32) (h5f10 : Int32) (h5f11 : Int32) (h9f1 : Int32) (b_h0f2 : 0 ≤ h0f2.toInt ∧ h0f2.toInt ≤ 1) (b_h0f6 : 0 ≤ h0f6.toInt ∧ h0f6.toInt ≤ 1) (b_h0f8 : 0 ≤ h0f8.toInt ∧ h0f8.toInt ≤ 1) (b_h0f11 : 0 ≤ h0f11.toInt ∧ h0f11.toInt ≤ 200) (b_h1f0 : 1 ≤ h1f0.toInt ∧ h1f0.toInt ≤ 3) (b_h1f1 : 0 ≤ h1f1.toInt ∧ h1f1.toInt ≤ 4) (b_h5f8 : 0 ≤ h5f8.toInt ∧ h5f8.toInt ≤ 9) (b_h5f9 : 0 ≤ h5f9.toInt ∧ h5f9.toInt ≤ 100) (b_h5f10 : 0 ≤ h5f10.toInt ∧ h5f10.toInt ≤ 100) (b_h5f11 : 0 ≤ h5f11.toInt ∧ h5f11.toInt ≤ 1) (b_h9f1 : 0 ≤ h9f1.toInt ∧ h9f1.toInt ≤ 7) : Met l yX10_still (Cond.code yX10_still cX10_still 6 (some .int) :: uw) Rm_cX10_still_b0b65 (pT D k sz [.ref h0, .int x1, .int x2, .int x3] [(h0, ob 7 [.ref h1, .ref h2, .int h0f2, .ref h3, .ref h4, .ref h5, .int h0f6, .ref h6, .int h0f8, .ref h7, .ref h8, .int h0f11, .ref h9, .ref h10, .ref h11, .ref h12, .ref h13]), (h1, ob 4 [.int h1f0, .int h1f1, .int h1f2, .ref h14]), (h5, ob 3 [.ref h22, .ref h23, .ref h24, .ref h25, .ref h26, .ref h27, .ref h28, .ref h29, .int h5f8, .int h5f9, .int h5f10, .int h5f11]), (h9, ob 2 [.ref h1, .int h9f1]), (h12, aJ (k 1) 9 anJ), (h13, aJ (k 1) 9 anJ), (h14, aJ (k 1) 36 anJ), (h22, aJ (k 1) 900 anJ), (h23, aI (k 0) 100 anI), (h24, aI (k 0) 100 anI), (h25, aI (k 0) 100 anI), (h26, aI (k 0) 400 anI), (h27, aI (k 0) 256 (rgI (-1) 99)), (h28, aI (k 0) 100 (rgI (-1) 99)), (h29, aJ (k 1) 60 anJ)]) (qI (B_cX10_still_b0b65 D k h0 h1 h5 h9 h12 h13 h14 h22 h23 h24 h25 h26 h27 h28 h29 h2 h3 h4 h6 h7 h8 h10 h11 x1 x2 x3 h0f2 h0f6 h0f8 h0f11 h1f0 h1f1 h1f2 h5f8 h5f9 h5f10 h5f11 h9f1 (zA [h0, h1, h5, h9, h12, h13, h14, h22, h23, h24, h25, h26, h27, h28, h29] sz)) (zA [h0, h1, h5, h9, h12, h13, h14, h22, h23, h24, h25, h26, h27, h28, h29] sz)) 0 0 (zA [h0, h1, h5, h9, h12, h13, h14, h22, h23, h24, h25, h26, h27, h28, h29] sz) := by
  refine tz_begin (as := [h0, h1, h5, h9, h12, h13, h14, h22, h23, h24, h25, h26, h27, h28, h29]) (Qc := fun A => qI (B_cX10_still_b0b65 D k h0 h1 h5 h9 h12 h13 h14 h22 h23 h24 h25 h26 h27 h28 h29 h2 h3 h4 h6 h7 h8 h10 h11 x1 x2 x3 h0f2 h0f6 h0f8 h0f11 h1f0 h1f1 h1f2 h5f8 h5f9 h5f10 h5f11 h9f1 A) A) (by decide +kernel) rfl (Nat.le_of_ble_eq_true rfl) ?_
  intro p e s m args below meth c ls A Q hx hb hr hml hown hlocks hin hU hK hT hS hA hl hQ
  have hl : lv_has ls 6 [(0, .ref h0), (1, .int x1), (2, .int x2), (3, .int x3)] := hl
  have hT : TP D A [(h0, ob 7 [.ref h1, .ref h2, .int h0f2, .ref h3, .ref h4, .ref h5, .int h0f6, .ref h6, .int h0f8, .ref h7, .ref h8, .int h0f11, .ref h9, .ref h10, .ref h11, .ref h12, .ref h13]), (h1, ob 4 [.int h1f0, .int h1f1, .int h1f2, .ref h14]), (h5, ob 3 [.ref h22, .ref h23, .ref h24, .ref h25, .ref h26, .ref h27, .ref h28, .ref h29, .int h5f8, .int h5f9, .int h5f10, .int h5f11]), (h9, ob 2 [.ref h1, .int h9f1]), (h12, aJ (k 1) 9 anJ), (h13, aJ (k 1) 9 anJ), (h14, aJ (k 1) 36 anJ), (h22, aJ (k 1) 900 anJ), (h23, aI (k 0) 100 anI), (h24, aI (k 0) 100 anI), (h25, aI (k 0) 100 anI), (h26, aI (k 0) 400 anI), (h27, aI (k 0) 256 (rgI (-1) 99)), (h28, aI (k 0) 100 (rgI (-1) 99)), (h29, aJ (k 1) 60 anJ)] s.heap := hT
  refine lv_iload_n hx hb dX10_still_0 rfl (lv_at hl 1 rfl) ?_
  refine lv_iload_n hx hb dX10_still_1 rfl (lv_at hl 2 rfl) ?_
  refine lv_iload_n hx hb dX10_still_2 rfl (lv_at hl 3 rfl) ?_
  refine tcI (Tc := []) (Tr := [(h0, ob 7 [.ref h1, .ref h2, .int h0f2, .ref h3, .ref h4, .ref h5, .int h0f6, .ref h6, .int h0f8, .ref h7, .ref h8, .int h0f11, .ref h9, .ref h10, .ref h11, .ref h12, .ref h13]), (h1, ob 4 [.int h1f0, .int h1f1, .int h1f2, .ref h14]), (h5, ob 3 [.ref h22, .ref h23, .ref h24, .ref h25, .ref h26, .ref h27, .ref h28, .ref h29, .int h5f8, .int h5f9, .int h5f10, .int h5f11]), (h9, ob 2 [.ref h1, .int h9f1]), (h12, aJ (k 1) 9 anJ), (h13, aJ (k 1) 9 anJ), (h14, aJ (k 1) 36 anJ), (h22, aJ (k 1) 900 anJ), (h23, aI (k 0) 100 anI), (h24, aI (k 0) 100 anI), (h25, aI (k 0) 100 anI), (h26, aI (k 0) 400 anI), (h27, aI (k 0) 256 (rgI (-1) 99)), (h28, aI (k 0) 100 (rgI (-1) 99)), (h29, aJ (k 1) 60 anJ)]) (as := []) (zcS (As := [.int x1, .int x2, .int x3]) (rest := []) (Tc := []) hx hb hml hown hU hK hT [] rfl (by decide) (cX10_isStart_c203d l D k _ x1 x2 x3) w688 w686 w687 w63 hdX10_isStart ⟨rfl, rfl⟩ ⟨Nat.le_of_ble_eq_true rfl, Nat.le_of_ble_eq_true rfl⟩ rfl hl.1 (Nat.le_of_ble_eq_true rfl) dX10_still_3 ⟨Nat.le_of_ble_eq_true rfl, Nat.le_of_ble_eq_true rfl⟩) hT hS hA [] [0, 1, 2, 3, 4, 5, 6, 7, 8, 9, 10, 11, 12, 13, 14] rfl rfl rfl (by decide) (by decide) (fun r1 H locs hB J hS => ?_)
  obtain ⟨b_r1, hT1⟩ := hB
  have hT := J _ hT1
  have hT : TP D A [(h0, ob 7 [.ref h1, .ref h2, .int h0f2, .ref h3, .ref h4, .ref h5, .int h0f6, .ref h6, .int h0f8, .ref h7, .ref h8, .int h0f11, .ref h9, .ref h10, .ref h11, .ref h12, .ref h13]), (h1, ob 4 [.int h1f0, .int h1f1, .int h1f2, .ref h14]), (h5, ob 3 [.ref h22, .ref h23, .ref h24, .ref h25, .ref h26, .ref h27, .ref h28, .ref h29, .int h5f8, .int h5f9, .int h5f10, .int h5f11]), (h9, ob 2 [.ref h1, .int h9f1]), (h12, aJ (k 1) 9 anJ), (h13, aJ (k 1) 9 anJ), (h14, aJ (k 1) 36 anJ), (h22, aJ (k 1) 900 anJ), (h23, aI (k 0) 100 anI), (h24, aI (k 0) 100 anI), (h25, aI (k 0) 100 anI), (h26, aI (k 0) 400 anI), (h27, aI (k 0) 256 (rgI (-1) 99)), (h28, aI (k 0) 100 (rgI (-1) 99)), (h29, aJ (k 1) 60 anJ)] _ := hT
  refine lv_if_ne (tgt := 11) hx hb dX10_still_6 (by decide) (fun c_2 => ?_) (fun c_2 => ?_)
  · skip
    have c_2 := ni_ne c_2 rfl li_0
    refine lv_aload_n hx hb dX10_still_11 rfl (lv_at hl 0 rfl) ?_
    refine tcV (Tc := [(h0, ob 7 [.ref h1, .ref h2, .int h0f2, .ref h3, .ref h4, .ref h5, .int h0f6, .ref h6, .int h0f8, .ref h7, .ref h8, .int h0f11, .ref h9, .ref h10, .ref h11, .ref h12, .ref h13]), (h1, ob 4 [.int h1f0, .int h1f1, .int h1f2, .ref h14]), (h5, ob 3 [.ref h22, .ref h23, .ref h24, .ref h25, .ref h26, .ref h27, .ref h28, .ref h29, .int h5f8, .int h5f9, .int h5f10, .int h5f11]), (h9, ob 2 [.ref h1, .int h9f1]), (h12, aJ (k 1) 9 anJ), (h14, aJ (k 1) 36 anJ), (h22, aJ (k 1) 900 anJ), (h23, aI (k 0) 100 anI), (h24, aI (k 0) 100 anI), (h25, aI (k 0) 100 anI), (h26, aI (k 0) 400 anI), (h27, aI (k 0) 256 (rgI (-1) 99)), (h28, aI (k 0) 100 (rgI (-1) 99)), (h29, aJ (k 1) 60 anJ)]) (Tr := [(h13, aJ (k 1) 9 anJ)]) (as := [h0, h1, h5, h9, h12, h14, h22, h23, h24, h25, h26, h27, h28, h29]) (zcV (q0 := 0) (ci := 7) (As := []) (rest := []) (Tc := [(h0, ob 7 [.ref h1, .ref h2, .int h0f2, .ref h3, .ref h4, .ref h5, .int h0f6, .ref h6, .int h0f8, .ref h7, .ref h8, .int h0f11, .ref h9, .ref h10, .ref h11, .ref h12, .ref h13]), (h1, ob 4 [.int h1f0, .int h1f1, .int h1f2, .ref h14]), (h5, ob 3 [.ref h22, .ref h23, .ref h24, .ref h25, .ref h26, .ref h27, .ref h28, .ref h29, .int h5f8, .int h5f9, .int h5f10, .int h5f11]), (h9, ob 2 [.ref h1, .int h9f1]), (h12, aJ (k 1) 9 anJ), (h14, aJ (k 1) 36 anJ), (h22, aJ (k 1) 900 anJ), (h23, aI (k 0) 100 anI), (h24, aI (k 0) 100 anI), (h25, aI (k 0) 100 anI), (h26, aI (k 0) 400 anI), (h27, aI (k 0) 256 (rgI (-1) 99)), (h28, aI (k 0) 100 (rgI (-1) 99)), (h29, aJ (k 1) 60 anJ)]) hx hb hml hown hU hK hT rfl rfl [0, 1, 2, 3, 4, 6, 7, 8, 9, 10, 11, 12, 13, 14] rfl (by decide) (cX10_listAll_d24ec l D k _ h0 h1 h5 h9 h12 h14 h22 h23 h24 h25 h26 h27 h28 h29 h2 h3 h4 h6 h7 h8 h10 h11 h13 h0f2 h0f6 h0f8 h0f11 h1f0 h1f1 h1f2 h5f8 h5f9 h5f10 h5f11 h9f1 (by omega) (by omega) (by omega) (by omega) (by omega) (by omega) (by omega) (by omega) (by omega) (by omega) (by omega)) w492 w489 w491 w10 w63 hdX10_listAll ⟨rfl, rfl⟩ ⟨Nat.le_of_ble_eq_true rfl, Nat.le_of_ble_eq_true rfl⟩ rfl hl.1 (Nat.le_of_ble_eq_true rfl) dX10_still_12 ⟨Nat.le_of_ble_eq_true rfl, Nat.le_of_ble_eq_true rfl⟩) hT hS hA [0, 1, 2, 3, 4, 6, 7, 8, 9, 10, 11, 12, 13, 14] [5] rfl rfl rfl (by decide) (by decide) (fun H locs hB J hS => ?_)
    obtain ⟨v4, v5, v6, v7, v8, v9, b_v4, b_v5, b_v6, b_v7, b_v8, b_v9, hT1⟩ := hB
    have hT := J _ hT1
    have hT : TP D A [(h13, aJ (k 1) 9 anJ), (h0, ob 7 [.ref h1, .ref h2, .int h0f2, .ref h3, .ref h4, .ref h5, .int v4, .ref h6, .int h0f8, .ref h7, .ref h8, .int h0f11, .ref h9, .ref h10, .ref h11, .ref h12, .ref h13]), (h1, ob 4 [.int h1f0, .int h1f1, .int h1f2, .ref h14]), (h5, ob 3 [.ref h22, .ref h23, .ref h24, .ref h25, .ref h26, .ref h27, .ref h28, .ref h29, .int v5, .int v6, .int v7, .int v8]), (h9, ob 2 [.ref h1, .int v9]), (h12, aJ (k 1) 9 anJ), (h14, aJ (k 1) 36 anJ), (h22, aJ (k 1) 900 anJ), (h23, aI (k 0) 100 anI), (h24, aI (k 0) 100 anI), (h25, aI (k 0) 100 anI), (h26, aI (k 0) 400 anI), (h27, aI (k 0) 256 (rgI (-1) 99)), (h28, aI (k 0) 100 (rgI (-1) 99)), (h29, aJ (k 1) 60 anJ)] _ := hT
    refine lv_aload_n hx hb dX10_still_15 rfl (lv_at hl 0 rfl) ?_
    refine lv_iload_n hx hb dX10_still_16 rfl (lv_at hl 1 rfl) ?_
    refine lv_iload_n hx hb dX10_still_17 rfl (lv_at hl 2 rfl) ?_
    refine lv_iload_n hx hb dX10_still_18 rfl (lv_at hl 3 rfl) ?_
    refine tcV (Tc := [(h0, ob 7 [.ref h1, .ref h2, .int h0f2, .ref h3, .ref h4, .ref h5, .int v4, .ref h6, .int h0f8, .ref h7, .ref h8, .int h0f11, .ref h9, .ref h10, .ref h11, .ref h12, .ref h13]), (h12, aJ (k 1) 9 anJ)]) (Tr := [(h13, aJ (k 1) 9 anJ), (h1, ob 4 [.int h1f0, .int h1f1, .int h1f2, .ref h14]), (h5, ob 3 [.ref h22, .ref h23, .ref h24, .ref h25, .ref h26, .ref h27, .ref h28, .ref h29, .int v5, .int v6, .int v7, .int v8]), (h9, ob 2 [.ref h1, .int v9]), (h14, aJ (k 1) 36 anJ), (h22, aJ (k 1) 900 anJ), (h23, aI (k 0) 100 anI), (h24, aI (k 0) 100 anI), (h25, aI (k 0) 100 anI), (h26, aI (k 0) 400 anI), (h27, aI (k 0) 256 (rgI (-1) 99)), (h28, aI (k 0) 100 (rgI (-1) 99)), (h29, aJ (k 1) 60 anJ)]) (as := [h0, h12]) (zcV (q0 := 1) (ci := 7) (As := [.int x1, .int x2, .int x3]) (rest := []) (Tc := [(h0, ob 7 [.ref h1, .ref h2, .int h0f2, .ref h3, .ref h4, .ref h5, .int v4, .ref h6, .int h0f8, .ref h7, .ref h8, .int h0f11, .ref h9, .ref h10, .ref h11, .ref h12, .ref h13]), (h12, aJ (k 1) 9 anJ)]) hx hb hml hown hU hK hT rfl rfl [1, 5] rfl (by decide) (cX10_setPoint_a6d89 l D k _ h0 h12 h1 h2 h3 h4 h5 h6 h7 h8 h9 h10 h11 h13 x1 x2 x3 h0f2 v4 h0f8 h0f11 (by omega) (by omega) (by omega) (by omega)) w695 w692 w694 w24 w63 hdX10_setPoint ⟨rfl, rfl⟩ ⟨Nat.le_of_ble_eq_true rfl, Nat.le_of_ble_eq_true rfl⟩ rfl hl.1 (Nat.le_of_ble_eq_true rfl) dX10_still_19 ⟨Nat.le_of_ble_eq_true rfl, Nat.le_of_ble_eq_true rfl⟩) hT hS hA [1, 5] [0, 2, 3, 4, 6, 7, 8, 9, 10, 11, 12, 13, 14] rfl rfl rfl (by decide) (by decide) (fun H locs hB J hS => ?_)
    have hT1 := hB
    have hT := J _ hT1
    have hT : TP D A [(h13, aJ (k 1) 9 anJ), (h1, ob 4 [.int h1f0, .int h1f1, .int h1f2, .ref h14]), (h5, ob 3 [.ref h22, .ref h23, .ref h24, .ref h25, .ref h26, .ref h27, .ref h28, .ref h29, .int v5, .int v6, .int v7, .int v8]), (h9, ob 2 [.ref h1, .int v9]), (h14, aJ (k 1) 36 anJ), (h22, aJ (k 1) 900 anJ), (h23, aI (k 0) 100 anI), (h24, aI (k 0) 100 anI), (h25, aI (k 0) 100 anI), (h26, aI (k 0) 400 anI), (h27, aI (k 0) 256 (rgI (-1) 99)), (h28, aI (k 0) 100 (rgI (-1) 99)), (h29, aJ (k 1) 60 anJ), (h0, ob 7 [.ref h1, .ref h2, .int h0f2, .ref h3, .ref h4, .ref h5, .int v4, .ref h6, .int h0f8, .ref h7, .ref h8, .int h0f11, .ref h9, .ref h10, .ref h11, .ref h12, .ref h13]), (h12, aJ (k 1) 9 anJ)] _ := hT
    refine lv_iconst (v := 0) hx hb dX10_still_22 (by decide) ?_
    refine lv_istore (lv' := [(4, .int 0), (0, .ref h0), (1, .int x1), (2, .int x2), (3, .int x3)]) hx hb dX10_still_23 hl (by decide) rfl (fun ls hl => ?_)
    refine lv_iconst (v := 0) hx hb dX10_still_25 (by decide) ?_
    refine lv_istore (lv' := [(5, .int 0), (4, .int 0), (0, .ref h0), (1, .int x1), (2, .int x2), (3, .int x3)]) hx hb dX10_still_26 hl (by decide) rfl (fun ls hl => ?_)
    have lp28_69 : ∀ (n : Nat) (y67 : Int32) (y68 : Int32) (H : Heap) (locs : List Loc) (ls : Array Slot), (0 ≤ y67.toInt ∧ y67.toInt ≤ 100) → (v7.toInt + (-1) * y67.toInt + 1).toNat < n → TP D A [(h13, aJ (k 1) 9 anJ), (h1, ob 4 [.int h1f0, .int h1f1, .int h1f2, .ref h14]), (h5, ob 3 [.ref h22, .ref h23, .ref h24, .ref h25, .ref h26, .ref h27, .ref h28, .ref h29, .int v5, .int v6, .int v7, .int v8]), (h9, ob 2 [.ref h1, .int v9]), (h14, aJ (k 1) 36 anJ), (h22, aJ (k 1) 900 anJ), (h23, aI (k 0) 100 anI), (h24, aI (k 0) 100 anI), (h25, aI (k 0) 100 anI), (h26, aI (k 0) 400 anI), (h27, aI (k 0) 256 (rgI (-1) 99)), (h28, aI (k 0) 100 (rgI (-1) 99)), (h29, aJ (k 1) 60 anJ), (h0, ob 7 [.ref h1, .ref h2, .int h0f2, .ref h3, .ref h4, .ref h5, .int v4, .ref h6, .int h0f8, .ref h7, .ref h8, .int h0f11, .ref h9, .ref h10, .ref h11, .ref h12, .ref h13]), (h12, aJ (k 1) 9 anJ)] H → va_S A s.heap H locs → lv_has ls 6 [(0, .ref h0), (4, .int y68), (5, .int y67)] → W p l e Rm_cX10_still_b0b65 s m args below meth c H locs 0 0 Q (F0 m 28 ls []) := by
      intro n
      induction n with
      | zero => intro y67 y68 H locs ls b_y67 hm hT hS hl; exact absurd hm (Nat.not_lt_zero _)
      | succ n ih =>
        intro y67 y68 H locs ls b_y67 hm hT hS hl
        have ih28_69 := ih
        clear ih
        refine lv_iload hx hb dX10_still_28 (lv_at hl 2 rfl) ?_
        refine lv_aload_n hx hb dX10_still_30 rfl (lv_at hl 0 rfl) ?_
        refine tz_get (ci := 7) (v := .ref h5) (C := RX10) (F := TX10) (N := 17) hx hb hU iX10 hown hK hT 13 rfl rfl 5 (by decide) w254 (fun _ h9 => h9) rfl dX10_still_31 ?_
        refine tz_get (ci := 3) (v := .int v7) (C := RX4) (F := TX4) (N := 12) hx hb hU iX4 hown hK hT 2 rfl rfl 10 (by decide) w166 (fun _ h9 => h9) rfl dX10_still_34 ?_
        refine lv_icmp_ge (tgt := 105) hx hb dX10_still_37 (by decide) (fun c_70 => ?_) (fun c_70 => ?_)
        · skip
          have c_70 := ni_le c_70 rfl rfl
          refine lv_iload hx hb dX10_still_105 (lv_at hl 1 rfl) ?_
          exact tz_retI (B := B_cX10_still_b0b65 D k h0 h1 h5 h9 h12 h13 h14 h22 h23 h24 h25 h26 h27 h28 h29 h2 h3 h4 h6 h7 h8 h10 h11 x1 x2 x3 h0f2 h0f6 h0f8 h0f11 h1f0 h1f1 h1f2 h5f8 h5f9 h5f10 h5f11 h9f1) (v := y68) hQ hx hb hr hlocks hS (Nat.le_of_ble_eq_true rfl) (Nat.le_of_ble_eq_true rfl) dX10_still_107 (⟨v4, v5, v6, v7, v8, v9, (by omega), (by omega), (by omega), (by omega), (by omega), (by omega), (hT.sub [13, 1, 2, 3, 14, 0, 4, 5, 6, 7, 8, 9, 10, 11, 12] (by decide) rfl)⟩)
        · skip
          have c_70 := ni_nle c_70 rfl rfl
          refine lv_aload_n hx hb dX10_still_40 rfl (lv_at hl 0 rfl) ?_
          refine tz_get (ci := 7) (v := .ref h5) (C := RX10) (F := TX10) (N := 17) hx hb hU iX10 hown hK hT 13 rfl rfl 5 (by decide) w254 (fun _ h9 => h9) rfl dX10_still_41 ?_
          refine tz_get (ci := 3) (v := .ref h22) (C := RX4) (F := TX4) (N := 12) hx hb hU iX4 hown hK hT 2 rfl rfl 0 (by decide) w150 (fun _ h9 => h9) rfl dX10_still_44 ?_
          refine lv_aload_n hx hb dX10_still_47 rfl (lv_at hl 0 rfl) ?_
          refine tz_get (ci := 7) (v := .ref h5) (C := RX10) (F := TX10) (N := 17) hx hb hU iX10 hown hK hT 13 rfl rfl 5 (by decide) w254 (fun _ h9 => h9) rfl dX10_still_48 ?_
          refine lv_iload hx hb dX10_still_51 (lv_at hl 2 rfl) ?_
          refine tcI (Tc := [(h5, ob 3 [.ref h22, .ref h23, .ref h24, .ref h25, .ref h26, .ref h27, .ref h28, .ref h29, .int v5, .int v6, .int v7, .int v8])]) (Tr := [(h13, aJ (k 1) 9 anJ), (h1, ob 4 [.int h1f0, .int h1f1, .int h1f2, .ref h14]), (h9, ob 2 [.ref h1, .int v9]), (h14, aJ (k 1) 36 anJ), (h22, aJ (k 1) 900 anJ), (h23, aI (k 0) 100 anI), (h24, aI (k 0) 100 anI), (h25, aI (k 0) 100 anI), (h26, aI (k 0) 400 anI), (h27, aI (k 0) 256 (rgI (-1) 99)), (h28, aI (k 0) 100 (rgI (-1) 99)), (h29, aJ (k 1) 60 anJ), (h0, ob 7 [.ref h1, .ref h2, .int h0f2, .ref h3, .ref h4, .ref h5, .int v4, .ref h6, .int h0f8, .ref h7, .ref h8, .int h0f11, .ref h9, .ref h10, .ref h11, .ref h12, .ref h13]), (h12, aJ (k 1) 9 anJ)]) (as := [h5]) (zcV (q0 := 2) (ci := 3) (As := [.int y67]) (rest := [.ref h22]) (Tc := [(h5, ob 3 [.ref h22, .ref h23, .ref h24, .ref h25, .ref h26, .ref h27, .ref h28, .ref h29, .int v5, .int v6, .int v7, .int v8])]) hx hb hml hown hU hK hT rfl rfl [2] rfl (by decide) (cX4_start_d01b0 l D k _ h5 h22 h23 h24 h25 h26 h27 h28 h29 y67 v5 v6 v7 v8 (by omega) (by omega) (by omega) (by omega) (by omega)) w505 w574 w503 w504 w66 hdX4_start ⟨rfl, rfl⟩ ⟨Nat.le_of_ble_eq_true rfl, Nat.le_of_ble_eq_true rfl⟩ rfl hl.1 (Nat.le_of_ble_eq_true rfl) dX10_still_53 ⟨Nat.le_of_ble_eq_true rfl, Nat.le_of_ble_eq_true rfl⟩) hT hS hA [2] [0, 1, 3, 4, 5, 6, 7, 8, 9, 10, 11, 12, 13, 14] rfl rfl rfl (by decide) (by decide) (fun r71 H locs hB J hS => ?_)
          obtain ⟨b_r71, hT1⟩ := hB
          have hT := J _ hT1
          have hT : TP D A [(h13, aJ (k 1) 9 anJ), (h1, ob 4 [.int h1f0, .int h1f1, .int h1f2, .ref h14]), (h9, ob 2 [.ref h1, .int v9]), (h14, aJ (k 1) 36 anJ), (h22, aJ (k 1) 900 anJ), (h23, aI (k 0) 100 anI), (h24, aI (k 0) 100 anI), (h25, aI (k 0) 100 anI), (h26, aI (k 0) 400 anI), (h27, aI (k 0) 256 (rgI (-1) 99)), (h28, aI (k 0) 100 (rgI (-1) 99)), (h29, aJ (k 1) 60 anJ), (h0, ob 7 [.ref h1, .ref h2, .int h0f2, .ref h3, .ref h4, .ref h5, .int v4, .ref h6, .int h0f8, .ref h7, .ref h8, .int h0f11, .ref h9, .ref h10, .ref h11, .ref h12, .ref h13]), (h12, aJ (k 1) 9 anJ), (h5, ob 3 [.ref h22, .ref h23, .ref h24, .ref h25, .ref h26, .ref h27, .ref h28, .ref h29, .int v5, .int v6, .int v7, .int v8])] _ := hT
          refine lv_aload_n hx hb dX10_still_56 rfl (lv_at hl 0 rfl) ?_
          refine tz_get (ci := 7) (v := .ref h12) (C := RX10) (F := TX10) (N := 17) hx hb hU iX10 hown hK hT 12 rfl rfl 15 (by decide) w264 (fun _ h9 => h9) rfl dX10_still_57 ?_
          refine lv_iconst (v := 0) hx hb dX10_still_60 (by decide) ?_
          refine lv_aload_n hx hb dX10_still_61 rfl (lv_at hl 0 rfl) ?_
          refine tz_get (ci := 7) (v := .ref h13) (C := RX10) (F := TX10) (N := 17) hx hb hU iX10 hown hK hT 12 rfl rfl 16 (by decide) w265 (fun _ h9 => h9) rfl dX10_still_62 ?_
          refine lv_aload_n hx hb dX10_still_65 rfl (lv_at hl 0 rfl) ?_
          refine tz_get (ci := 7) (v := .ref h1) (C := RX10) (F := TX10) (N := 17) hx hb hU iX10 hown hK hT 12 rfl rfl 0 (by decide) w249 (fun _ h9 => h9) rfl dX10_still_66 ?_
          refine tz_get (ci := 4) (v := .int h1f0) (C := RX5) (F := TX5) (N := 4) hx hb hU iX5 hown hK hT 1 rfl rfl 0 (by decide) w93 (fun _ h9 => h9) rfl dX10_still_69 ?_
          have q_q73 := li_0
          refine tcV (Tc := [(h22, aJ (k 1) 900 anJ), (h12, aJ (k 1) 9 anJ), (h13, aJ (k 1) 9 anJ)]) (Tr := [(h1, ob 4 [.int h1f0, .int h1f1, .int h1f2, .ref h14]), (h9, ob 2 [.ref h1, .int v9]), (h14, aJ (k 1) 36 anJ), (h23, aI (k 0) 100 anI), (h24, aI (k 0) 100 anI), (h25, aI (k 0) 100 anI), (h26, aI (k 0) 400 anI), (h27, aI (k 0) 256 (rgI (-1) 99)), (h28, aI (k 0) 100 (rgI (-1) 99)), (h29, aJ (k 1) 60 anJ), (h0, ob 7 [.ref h1, .ref h2, .int h0f2, .ref h3, .ref h4, .ref h5, .int v4, .ref h6, .int h0f8, .ref h7, .ref h8, .int h0f11, .ref h9, .ref h10, .ref h11, .ref h12, .ref h13]), (h5, ob 3 [.ref h22, .ref h23, .ref h24, .ref h25, .ref h26, .ref h27, .ref h28, .ref h29, .int v5, .int v6, .int v7, .int v8])]) (as := [h22, h12, h13]) (zcS (As := [.ref h22, .int r71, .ref h12, .int 0, .ref h13, .int h1f0]) (rest := []) (Tc := [(h22, aJ (k 1) 900 anJ), (h12, aJ (k 1) 9 anJ), (h13, aJ (k 1) 9 anJ)]) hx hb hml hown hU hK hT [4, 13, 0] rfl (by decide) (cX7_move_0bb0f l D k _ h22 h12 h13 r71 (0) h1f0 (by omega) (by have := li_0; omega) (by omega)) w536 w712 w535 w74 hdX7_move ⟨rfl, rfl⟩ ⟨Nat.le_of_ble_eq_true rfl, Nat.le_of_ble_eq_true rfl⟩ rfl hl.1 (Nat.le_of_ble_eq_true rfl) dX10_still_72 ⟨Nat.le_of_ble_eq_true rfl, Nat.le_of_ble_eq_true rfl⟩) hT hS hA [4, 13, 0] [1, 2, 3, 5, 6, 7, 8, 9, 10, 11, 12, 14] rfl rfl rfl (by decide) (by decide) (fun H locs hB J hS => ?_)
          have hT1 := hB
          have hT := J _ hT1
          have hT : TP D A [(h1, ob 4 [.int h1f0, .int h1f1, .int h1f2, .ref h14]), (h9, ob 2 [.ref h1, .int v9]), (h14, aJ (k 1) 36 anJ), (h23, aI (k 0) 100 anI), (h24, aI (k 0) 100 anI), (h25, aI (k 0) 100 anI), (h26, aI (k 0) 400 anI), (h27, aI (k 0) 256 (rgI (-1) 99)), (h28, aI (k 0) 100 (rgI (-1) 99)), (h29, aJ (k 1) 60 anJ), (h0, ob 7 [.ref h1, .ref h2, .int h0f2, .ref h3, .ref h4, .ref h5, .int v4, .ref h6, .int h0f8, .ref h7, .ref h8, .int h0f11, .ref h9, .ref h10, .ref h11, .ref h12, .ref h13]), (h5, ob 3 [.ref h22, .ref h23, .ref h24, .ref h25, .ref h26, .ref h27, .ref h28, .ref h29, .int v5, .int v6, .int v7, .int v8]), (h22, aJ (k 1) 900 anJ), (h12, aJ (k 1) 9 anJ), (h13, aJ (k 1) 9 anJ)] _ := hT
          refine lv_aload_n hx hb dX10_still_75 rfl (lv_at hl 0 rfl) ?_
          refine tz_get (ci := 7) (v := .ref h12) (C := RX10) (F := TX10) (N := 17) hx hb hU iX10 hown hK hT 10 rfl rfl 15 (by decide) w264 (fun _ h9 => h9) rfl dX10_still_76 ?_
          refine lv_aload_n hx hb dX10_still_79 rfl (lv_at hl 0 rfl) ?_
          refine tz_get (ci := 7) (v := .ref h13) (C := RX10) (F := TX10) (N := 17) hx hb hU iX10 hown hK hT 10 rfl rfl 16 (by decide) w265 (fun _ h9 => h9) rfl dX10_still_80 ?_
          refine lv_aload_n hx hb dX10_still_83 rfl (lv_at hl 0 rfl) ?_
          refine tz_get (ci := 7) (v := .ref h1) (C := RX10) (F := TX10) (N := 17) hx hb hU iX10 hown hK hT 10 rfl rfl 0 (by decide) w249 (fun _ h9 => h9) rfl dX10_still_84 ?_
          refine tz_get (ci := 4) (v := .int h1f0) (C := RX5) (F := TX5) (N := 4) hx hb hU iX5 hown hK hT 0 rfl rfl 0 (by decide) w93 (fun _ h9 => h9) rfl dX10_still_87 ?_
          refine tcI (Tc := [(h12, aJ (k 1) 9 anJ), (h13, aJ (k 1) 9 anJ)]) (Tr := [(h1, ob 4 [.int h1f0, .int h1f1, .int h1f2, .ref h14]), (h9, ob 2 [.ref h1, .int v9]), (h14, aJ (k 1) 36 anJ), (h23, aI (k 0) 100 anI), (h24, aI (k 0) 100 anI), (h25, aI (k 0) 100 anI), (h26, aI (k 0) 400 anI), (h27, aI (k 0) 256 (rgI (-1) 99)), (h28, aI (k 0) 100 (rgI (-1) 99)), (h29, aJ (k 1) 60 anJ), (h0, ob 7 [.ref h1, .ref h2, .int h0f2, .ref h3, .ref h4, .ref h5, .int v4, .ref h6, .int h0f8, .ref h7, .ref h8, .int h0f11, .ref h9, .ref h10, .ref h11, .ref h12, .ref h13]), (h5, ob 3 [.ref h22, .ref h23, .ref h24, .ref h25, .ref h26, .ref h27, .ref h28, .ref h29, .int v5, .int v6, .int v7, .int v8]), (h22, aJ (k 1) 900 anJ)]) (as := [h12, h13]) (zcS (As := [.ref h12, .ref h13, .int h1f0]) (rest := []) (Tc := [(h12, aJ (k 1) 9 anJ), (h13, aJ (k 1) 9 anJ)]) hx hb hml hown hU hK hT [13, 14] rfl (by decide) (cX7_areAlike_339bc l D k _ h12 h13 h1f0 (by omega)) w608 w606 w607 w74 hdX7_areAlike ⟨rfl, rfl⟩ ⟨Nat.le_of_ble_eq_true rfl, Nat.le_of_ble_eq_true rfl⟩ rfl hl.1 (Nat.le_of_ble_eq_true rfl) dX10_still_90 ⟨Nat.le_of_ble_eq_true rfl, Nat.le_of_ble_eq_true rfl⟩) hT hS hA [13, 14] [0, 1, 2, 3, 4, 5, 6, 7, 8, 9, 10, 11, 12] rfl rfl rfl (by decide) (by decide) (fun r74 H locs hB J hS => ?_)
          obtain ⟨b_r74, hT1⟩ := hB
          have hT := J _ hT1
          have hT : TP D A [(h1, ob 4 [.int h1f0, .int h1f1, .int h1f2, .ref h14]), (h9, ob 2 [.ref h1, .int v9]), (h14, aJ (k 1) 36 anJ), (h23, aI (k 0) 100 anI), (h24, aI (k 0) 100 anI), (h25, aI (k 0) 100 anI), (h26, aI (k 0) 400 anI), (h27, aI (k 0) 256 (rgI (-1) 99)), (h28, aI (k 0) 100 (rgI (-1) 99)), (h29, aJ (k 1) 60 anJ), (h0, ob 7 [.ref h1, .ref h2, .int h0f2, .ref h3, .ref h4, .ref h5, .int v4, .ref h6, .int h0f8, .ref h7, .ref h8, .int h0f11, .ref h9, .ref h10, .ref h11, .ref h12, .ref h13]), (h5, ob 3 [.ref h22, .ref h23, .ref h24, .ref h25, .ref h26, .ref h27, .ref h28, .ref h29, .int v5, .int v6, .int v7, .int v8]), (h22, aJ (k 1) 900 anJ), (h12, aJ (k 1) 9 anJ), (h13, aJ (k 1) 9 anJ)] _ := hT
          refine lv_if_eq (tgt := 99) hx hb dX10_still_93 (by decide) (fun c_75 => ?_) (fun c_75 => ?_)
          · skip
            have c_75 := ni_eq c_75 rfl li_0
            obtain ⟨v76, e_v76⟩ : ∃ x : Int32, x = y67 + Int32.ofInt 1 := ⟨_, rfl⟩
            have f_v76 := e_v76.symm
            have e_v76 : v76.toInt = y67.toInt + 1 := ai_add e_v76 rfl (show (Int32.ofInt 1).toInt = 1 from (by decide +kernel)) (by omega)
            refine lv_iinc (v := v76) (lv' := [(5, .int v76), (0, .ref h0), (4, .int y68)]) hx hb dX10_still_99 hl (k := 2) rfl f_v76 (by decide) rfl (fun ls hl => ?_)
            refine lv_goto (tgt := 28) hx hb dX10_still_102 (by decide) ?_
            exact ih28_69 v76 y68 _ _ _ (by omega)  (by omega) (hT.sub [14, 0, 11, 1, 2, 12, 3, 4, 5, 6, 7, 8, 9, 10, 13] (by decide) rfl) hS (lv_sub hl [1, 2, 0] rfl)
          · skip
            have c_75 := ni_ne c_75 rfl li_0
            obtain ⟨v77, e_v77⟩ : ∃ x : Int32, x = y68 + Int32.ofInt 1 := ⟨_, rfl⟩
            have f_v77 := e_v77.symm
            refine lv_iinc (v := v77) (lv' := [(4, .int v77), (0, .ref h0), (5, .int y67)]) hx hb dX10_still_96 hl (k := 1) rfl f_v77 (by decide) rfl (fun ls hl => ?_)
            obtain ⟨v78, e_v78⟩ : ∃ x : Int32, x = y67 + Int32.ofInt 1 := ⟨_, rfl⟩
            have f_v78 := e_v78.symm
            have e_v78 : v78.toInt = y67.toInt + 1 := ai_add e_v78 rfl (show (Int32.ofInt 1).toInt = 1 from (by decide +kernel)) (by omega)
            refine lv_iinc (v := v78) (lv' := [(5, .int v78), (4, .int v77), (0, .ref h0)]) hx hb dX10_still_99 hl (k := 2) rfl f_v78 (by decide) rfl (fun ls hl => ?_)
            refine lv_goto (tgt := 28) hx hb dX10_still_102 (by decide) ?_
            exact ih28_69 v78 v77 _ _ _ (by omega)  (by omega) (hT.sub [14, 0, 11, 1, 2, 12, 3, 4, 5, 6, 7, 8, 9, 10, 13] (by decide) rfl) hS (lv_sub hl [2, 1, 0] rfl)
    exact lp28_69 ((v7.toInt + (-1) * (0 : Int32).toInt + 1).toNat + 1) (0) (0) _ _ _ (by have := li_0; omega)  (Nat.lt_succ_self _) hT hS (lv_sub hl [2, 1, 0] rfl)
  · skip
    have c_2 := ni_eq c_2 rfl li_0
    refine lv_iconst (v := (-1)) hx hb dX10_still_9 (by decide) ?_
    exact tz_retI (B := B_cX10_still_b0b65 D k h0 h1 h5 h9 h12 h13 h14 h22 h23 h24 h25 h26 h27 h28 h29 h2 h3 h4 h6 h7 h8 h10 h11 x1 x2 x3 h0f2 h0f6 h0f8 h0f11 h1f0 h1f1 h1f2 h5f8 h5f9 h5f10 h5f11 h9f1) (v := (-1)) hQ hx hb hr hlocks hS (Nat.le_of_ble_eq_true rfl) (Nat.le_of_ble_eq_true rfl) dX10_still_10 (⟨h0f6, h5f8, h5f9, h5f10, h5f11, h9f1, (by have := li_m1; omega), (by have := li_m1; omega), (by have := li_m1; omega), (by have := li_m1; omega), (by have := li_m1; omega), (by have := li_m1; omega), hT⟩)
abbrev Rm_cX11_still_70a1e : Room := { frames := 3, cells := 0, slots := 0, locals := 70 }
abbrev B_cX11_still_70a1e (D : va_G) (k : Nat → ClassId) (h0 h1 h4 h5 h6 h10 h11 h12 h13 h2 h3 h7 h8 h9 h14 h15 h16 h17 h18 h19 h20 h21 : Nat) (x1 : Int32) (x2 : Int32) (x3 : Int32) (h0f0 : Int32) (h0f1 : Int32) (h0f2 : Int32) (h0f3 : Int32) (h0f4 : Int32) (h0f5 : Int32) (h0f8 : Int32) (h0f9 : Int32) (h0f17 : Int32) (h0f18 : Int32) (h0f19 : Int32) (h0f24 : Int32) (h0f25 : Int32) (h0f30 : Int32) (h0f31 : Int32) (A : Nat → Prop) (r : Int32) (H : Heap) : Prop := ∃ o0 : Int32, ∃ o1 : Int32, ∃ o2 : Int32, (0 ≤ o0.toInt ∧ o0.toInt ≤ 1) ∧ (0 ≤ o1.toInt ∧ o1.toInt ≤ 100) ∧ (0 ≤ o2.toInt ∧ o2.toInt ≤ 1) ∧ TP D A [(h0, ob 8 [.int h0f0, .int h0f1, .int h0f2, .int h0f3, .int h0f4, .int h0f5, .ref h1, .ref h2, .int h0f8, .int o0, .ref h3, .ref h4, .ref h5, .ref h6, .ref h7, .ref h8, .ref h9, .int h0f17, .int h0f18, .int h0f19, .ref h10, .ref h11, .ref h12, .ref h13, .int o1, .int o2, .ref h14, .ref h15, .ref h16, .ref h17, .int h0f30, .int h0f31, .ref h18, .ref h19, .ref h20, .ref h21]), (h1, aI (k 0) 36 anI), (h4, aJ (k 1) 9 anJ), (h5, aJ (k 1) 9 anJ), (h6, aJ (k 1) 9 anJ), (h10, aJ (k 1) 900 (lsP (o0.toInt))), (h11, aI (k 0) 100 anI), (h12, aI (k 0) 100 anI), (h13, aI (k 0) 100 anI)] H
set_option maxHeartbeats 4000000 in
set_option maxRecDepth 100000 in
theorem cX11_still_70a1e (l : Launch) (D : va_G) (k : Nat → ClassId) (sz : Nat) (h0 h1 h4 h5 h6 h10 h11 h12 h13 h2 h3 h7 h8 h9 h14 h15 h16 h17 h18 h19 h20 h21 : Nat) (x1 : Int32) (x2 : Int32) (x3 : Int32) (h0f0 : Int32) (h0f1 : Int32) (h0f2 : Int32) (h0f3 : Int32) (h0f4 : Int32) (h0f5 : Int32) (h0f8 : Int32) (h0f9 : Int32) (h0f17 : Int32) (h0f18 : Int32) (h0f19 : Int32) (h0f24 : Int32) (h0f25 : Int32) (h0f30 : Int32) (h0f31 : Int32) (b_h0f0 : 1 ≤ h0f0.toInt ∧ h0f0.toInt ≤ 3) (b_h0f1 : 0 ≤ h0f1.toInt ∧ h0f1.toInt ≤ 4) (b_h0f3 : 0 ≤ h0f3.toInt ∧ h0f3.toInt ≤ 3) (b_h0f4 : 0 ≤ h0f4.toInt ∧ h0f4.toInt ≤ 4) (b_h0f8 : 0 ≤ h0f8.toInt ∧ h0f8.toInt ≤ 1) (b_h0f9 : 0 ≤ h0f9.toInt ∧ h0f9.toInt ≤ 1) (b_h0f17 : 0 ≤ h0f17.toInt ∧ h0f17.toInt ≤ 120) (b_h0f18 : 0 ≤ h0f18.toInt ∧ h0f18.toInt ≤ 120) (b_h0f19 : 0 ≤ h0f19.toInt ∧ h0f19.toInt ≤ 4) (b_h0f24 : 0 ≤ h0f24.toInt ∧ h0f24.toInt ≤ 100) (b_h0f25 : 0 ≤ h0f25.toInt ∧ h0f25.toInt ≤ 1) (b_h0f30 : 0 ≤ h0f30.toInt ∧ h0f30.toInt ≤ 60) (b_h0f31 : 0 ≤ h0f31.toInt ∧ h0f31.toInt ≤ 1) (i_0 : h0f8.toInt ≤ h0f3.toInt) (i_1 : h0f9.toInt ≤ h0f24.toInt) : Met l yX11_still (Cond.code yX11_still cX11_still 11 (some .int) :: uw) Rm_cX11_still_70a1e (pT D k sz [.ref h0, .int x1, .int x2, .int x3] [(h0, ob 8 [.int h0f0, .int h0f1, .int h0f2, .int h0f3, .int h0f4, .int h0f5, .ref h1, .ref h2, .int h0f8, .int h0f9, .ref h3, .ref h4, .ref h5, .ref h6, .ref h7, .ref h8, .ref h9, .int h0f17, .int h0f18, .int h0f19, .ref h10, .ref h11, .ref h12, .ref h13, .int h0f24, .int h0f25, .ref h14, .ref h15, .ref h16, .ref h17, .int h0f30, .int h0f31, .ref h18, .ref h19, .ref h20, .ref h21]), (h1, aI (k 0) 36 anI), (h4, aJ (k 1) 9 anJ), (h5, aJ (k 1) 9 anJ), (h6, aJ (k 1) 9 anJ), (h10, aJ (k 1) 900 (lsP (h0f9.toInt))), (h11, aI (k 0) 100 anI), (h12, aI (k 0) 100 anI), (h13, aI (k 0) 100 anI)]) (qI (B_cX11_still_70a1e D k h0 h1 h4 h5 h6 h10 h11 h12 h13 h2 h3 h7 h8 h9 h14 h15 h16 h17 h18 h19 h20 h21 x1 x2 x3 h0f0 h0f1 h0f2 h0f3 h0f4 h0f5 h0f8 h0f9 h0f17 h0f18 h0f19 h0f24 h0f25 h0f30 h0f31 (zA [h0, h1, h4, h5, h6, h10, h11, h12, h13] sz)) (zA [h0, h1, h4, h5, h6, h10, h11, h12, h13] sz)) 0 0 (zA [h0, h1, h4, h5, h6, h10, h11, h12, h13] sz) := by
  refine tz_begin (as := [h0, h1, h4, h5, h6, h10, h11, h12, h13]) (Qc := fun A => qI (B_cX11_still_70a1e D k h0 h1 h4 h5 h6 h10 h11 h12 h13 h2 h3 h7 h8 h9 h14 h15 h16 h17 h18 h19 h20 h21 x1 x2 x3 h0f0 h0f1 h0f2 h0f3 h0f4 h0f5 h0f8 h0f9 h0f17 h0f18 h0f19 h0f24 h0f25 h0f30 h0f31 A) A) (by decide +kernel) rfl (Nat.le_of_ble_eq_true rfl) ?_
  intro p e s m args below meth c ls A Q hx hb hr hml hown hlocks hin hU hK hT hS hA hl hQ
  have hl : lv_has ls 11 [(0, .ref h0), (1, .int x1), (2, .int x2), (3, .int x3)] := hl
  have hT : TP D A [(h0, ob 8 [.int h0f0, .int h0f1, .int h0f2, .int h0f3, .int h0f4, .int h0f5, .ref h1, .ref h2, .int h0f8, .int h0f9, .ref h3, .ref h4, .ref h5, .ref h6, .ref h7, .ref h8, .ref h9, .int h0f17, .int h0f18, .int h0f19, .ref h10, .ref h11, .ref h12, .ref h13, .int h0f24, .int h0f25, .ref h14, .ref h15, .ref h16, .ref h17, .int h0f30, .int h0f31, .ref h18, .ref h19, .ref h20, .ref h21]), (h1, aI (k 0) 36 anI), (h4, aJ (k 1) 9 anJ), (h5, aJ (k 1) 9 anJ), (h6, aJ (k 1) 9 anJ), (h10, aJ (k 1) 900 (lsP (h0f9.toInt))), (h11, aI (k 0) 100 anI), (h12, aI (k 0) 100 anI), (h13, aI (k 0) 100 anI)] s.heap := hT
  have lp53_223 : ∀ (n : Nat) (y216 : Int32) (y217 : Int32) (y218 : Int64) (y219 : Int64) (y220 : Int32) (y221 : Int32) (y222 : Int32) (H : Heap) (locs : List Loc) (ls : Array Slot), (0 ≤ y216.toInt ∧ y216.toInt ≤ 100) → ((-2147483648) ≤ y218.toInt ∧ y218.toInt ≤ 2147483647) → ((-2147483648) ≤ y219.toInt ∧ y219.toInt ≤ 2147483647) → (1 ≤ y220.toInt ∧ y220.toInt ≤ 1) → (1 ≤ y221.toInt ∧ y221.toInt ≤ 100) → (0 ≤ y222.toInt ∧ y222.toInt ≤ 1) → (y221.toInt + (-1) * y216.toInt + 1).toNat < n → TP D A [(h0, ob 8 [.int h0f0, .int h0f1, .int h0f2, .int h0f3, .int h0f4, .int h0f5, .ref h1, .ref h2, .int h0f8, .int y220, .ref h3, .ref h4, .ref h5, .ref h6, .ref h7, .ref h8, .ref h9, .int h0f17, .int h0f18, .int h0f19, .ref h10, .ref h11, .ref h12, .ref h13, .int y221, .int y222, .ref h14, .ref h15, .ref h16, .ref h17, .int h0f30, .int h0f31, .ref h18, .ref h19, .ref h20, .ref h21]), (h1, aI (k 0) 36 anI), (h4, aJ (k 1) 9 anJ), (h5, aJ (k 1) 9 anJ), (h6, aJ (k 1) 9 anJ), (h10, aJ (k 1) 900 (lsP (y220.toInt))), (h11, aI (k 0) 100 anI), (h12, aI (k 0) 100 anI), (h13, aI (k 0) 100 anI)] H → va_S A s.heap H locs → lv_has ls 11 [(0, .ref h0), (1, .int x1), (4, .long y219), (6, .long y218), (8, .int y217), (9, .int y216)] → W p l e Rm_cX11_still_70a1e s m args below meth c H locs 0 0 Q (F0 m 53 ls []) := by
    intro n
    induction n with
    | zero => intro y216 y217 y218 y219 y220 y221 y222 H locs ls b_y216 b_y218 b_y219 b_y220 b_y221 b_y222 hm hT hS hl; exact absurd hm (Nat.not_lt_zero _)
    | succ n ih =>
      intro y216 y217 y218 y219 y220 y221 y222 H locs ls b_y216 b_y218 b_y219 b_y220 b_y221 b_y222 hm hT hS hl
      have ih53_223 := ih
      clear ih
      refine lv_iload hx hb dX11_still_53 (lv_at hl 5 rfl) ?_
      refine lv_aload_n hx hb dX11_still_55 rfl (lv_at hl 0 rfl) ?_
      refine tz_get (ci := 8) (v := .int y221) (C := RX11) (F := TX11) (N := 36) hx hb hU iX11 hown hK hT 0 rfl rfl 24 (by decide) w809 (fun _ h9 => h9) rfl dX11_still_56 ?_
      refine lv_icmp_ge (tgt := 232) hx hb dX11_still_59 (by decide) (fun c_224 => ?_) (fun c_224 => ?_)
      · skip
        have c_224 := ni_le c_224 rfl rfl
        refine lv_iload hx hb dX11_still_232 (lv_at hl 4 rfl) ?_
        exact tz_retI (B := B_cX11_still_70a1e D k h0 h1 h4 h5 h6 h10 h11 h12 h13 h2 h3 h7 h8 h9 h14 h15 h16 h17 h18 h19 h20 h21 x1 x2 x3 h0f0 h0f1 h0f2 h0f3 h0f4 h0f5 h0f8 h0f9 h0f17 h0f18 h0f19 h0f24 h0f25 h0f30 h0f31) (v := y217) hQ hx hb hr hlocks hS (Nat.le_of_ble_eq_true rfl) (Nat.le_of_ble_eq_true rfl) dX11_still_234 (⟨y220, y221, y222, (by omega), (by omega), (by omega), hT⟩)
      · skip
        have c_224 := ni_nle c_224 rfl rfl
        refine lv_aload_n hx hb dX11_still_62 rfl (lv_at hl 0 rfl) ?_
        refine lv_iload hx hb dX11_still_63 (lv_at hl 5 rfl) ?_
        refine lv_aload_n hx hb dX11_still_65 rfl (lv_at hl 0 rfl) ?_
        refine tz_get (ci := 8) (v := .ref h4) (C := RX11) (F := TX11) (N := 36) hx hb hU iX11 hown hK hT 0 rfl rfl 11 (by decide) w796 (fun _ h9 => h9) rfl dX11_still_66 ?_
        refine tcV (Tc := [(h0, ob 8 [.int h0f0, .int h0f1, .int h0f2, .int h0f3, .int h0f4, .int h0f5, .ref h1, .ref h2, .int h0f8, .int y220, .ref h3, .ref h4, .ref h5, .ref h6, .ref h7, .ref h8, .ref h9, .int h0f17, .int h0f18, .int h0f19, .ref h10, .ref h11, .ref h12, .ref h13, .int y221, .int y222, .ref h14, .ref h15, .ref h16, .ref h17, .int h0f30, .int h0f31, .ref h18, .ref h19, .ref h20, .ref h21]), (h4, aJ (k 1) 9 anJ), (h10, aJ (k 1) 900 (lsP (y220.toInt)))]) (Tr := [(h1, aI (k 0) 36 anI), (h5, aJ (k 1) 9 anJ), (h6, aJ (k 1) 9 anJ), (h11, aI (k 0) 100 anI), (h12, aI (k 0) 100 anI), (h13, aI (k 0) 100 anI)]) (as := [h0, h4, h10]) (zcV (q0 := 0) (ci := 8) (As := [.int y216, .ref h4]) (rest := []) (Tc := [(h0, ob 8 [.int h0f0, .int h0f1, .int h0f2, .int h0f3, .int h0f4, .int h0f5, .ref h1, .ref h2, .int h0f8, .int y220, .ref h3, .ref h4, .ref h5, .ref h6, .ref h7, .ref h8, .ref h9, .int h0f17, .int h0f18, .int h0f19, .ref h10, .ref h11, .ref h12, .ref h13, .int y221, .int y222, .ref h14, .ref h15, .ref h16, .ref h17, .int h0f30, .int h0f31, .ref h18, .ref h19, .ref h20, .ref h21]), (h4, aJ (k 1) 9 anJ), (h10, aJ (k 1) 900 (lsP (y220.toInt)))]) hx hb hml hown hU hK hT rfl rfl [0, 2, 5] rfl (by decide) (cX11_takesElement_3b10e l D k _ h0 h4 h10 h1 h2 h3 h5 h6 h7 h8 h9 h11 h12 h13 h14 h15 h16 h17 h18 h19 h20 h21 y216 h0f0 h0f1 h0f2 h0f3 h0f4 h0f5 h0f8 y220 h0f17 h0f18 h0f19 y221 y222 h0f30 h0f31 (by omega) (by omega) (by omega) (by omega) (by omega) (by omega) (by omega) (by omega) (by omega) (by omega) (by omega) (by omega) (by omega) (by omega) (by omega) (by omega)) w1047 w1044 w1046 w49 w72 hdX11_takesElement ⟨rfl, rfl⟩ ⟨Nat.le_of_ble_eq_true rfl, Nat.le_of_ble_eq_true rfl⟩ rfl hl.1 (Nat.le_of_ble_eq_true rfl) dX11_still_69 ⟨Nat.le_of_ble_eq_true rfl, Nat.le_of_ble_eq_true rfl⟩) hT hS hA [0, 2, 5] [1, 3, 4, 6, 7, 8] rfl rfl rfl (by decide) (by decide) (fun H locs hB J hS => ?_)
        have hT1 := hB
        have hT := J _ hT1
        have hT : TP D A [(h1, aI (k 0) 36 anI), (h5, aJ (k 1) 9 anJ), (h6, aJ (k 1) 9 anJ), (h11, aI (k 0) 100 anI), (h12, aI (k 0) 100 anI), (h13, aI (k 0) 100 anI), (h0, ob 8 [.int h0f0, .int h0f1, .int h0f2, .int h0f3, .int h0f4, .int h0f5, .ref h1, .ref h2, .int h0f8, .int y220, .ref h3, .ref h4, .ref h5, .ref h6, .ref h7, .ref h8, .ref h9, .int h0f17, .int h0f18, .int h0f19, .ref h10, .ref h11, .ref h12, .ref h13, .int y221, .int y222, .ref h14, .ref h15, .ref h16, .ref h17, .int h0f30, .int h0f31, .ref h18, .ref h19, .ref h20, .ref h21]), (h4, aJ (k 1) 9 anJ), (h10, aJ (k 1) 900 (lsP (y220.toInt)))] _ := hT
        refine lv_aload_n hx hb dX11_still_72 rfl (lv_at hl 0 rfl) ?_
        refine tz_get (ci := 8) (v := .ref h4) (C := RX11) (F := TX11) (N := 36) hx hb hU iX11 hown hK hT 6 rfl rfl 11 (by decide) w796 (fun _ h9 => h9) rfl dX11_still_73 ?_
        refine lv_iconst (v := 0) hx hb dX11_still_76 (by decide) ?_
        refine tz_lald hx hb hK hT 7 rfl (by have := li_0; omega) dX11_still_77 (fun v226 e_v226 => ?_)
        clear e_v226
        refine lv_iload_n hx hb dX11_still_78 rfl (lv_at hl 1 rfl) ?_
        have tb_x1 := i32b x1
        obtain ⟨v227, e_v227⟩ : ∃ x : Int64, x1.toInt64 = x := ⟨_, rfl⟩
        refine lv_i2l (v := v227) hx hb dX11_still_79 e_v227 ?_
        have e_v227 := ai_i2l e_v227 rfl
        refine lv_lmul hx hb dX11_still_80 (lv_topl (fun v228 e_v228 => ?_))
        refine lv_aload_n hx hb dX11_still_81 rfl (lv_at hl 0 rfl) ?_
        refine tz_get (ci := 8) (v := .ref h4) (C := RX11) (F := TX11) (N := 36) hx hb hU iX11 hown hK hT 6 rfl rfl 11 (by decide) w796 (fun _ h9 => h9) rfl dX11_still_82 ?_
        refine lv_iconst (v := 1) hx hb dX11_still_85 (by decide) ?_
        refine tz_lald hx hb hK hT 7 rfl (by have := li_1; omega) dX11_still_86 (fun v229 e_v229 => ?_)
        clear e_v229
        refine lv_lload hx hb dX11_still_87 (lv_at hl 2 rfl) ?_
        refine lv_lmul hx hb dX11_still_89 (lv_topl (fun v230 e_v230 => ?_))
        refine lv_ladd hx hb dX11_still_90 (lv_topl (fun v231 e_v231 => ?_))
        refine lv_aload_n hx hb dX11_still_91 rfl (lv_at hl 0 rfl) ?_
        refine tz_get (ci := 8) (v := .ref h4) (C := RX11) (F := TX11) (N := 36) hx hb hU iX11 hown hK hT 6 rfl rfl 11 (by decide) w796 (fun _ h9 => h9) rfl dX11_still_92 ?_
        refine lv_iconst (v := 2) hx hb dX11_still_95 (by decide) ?_
        refine tz_lald hx hb hK hT 7 rfl (by have := li_2; omega) dX11_still_96 (fun v232 e_v232 => ?_)
        clear e_v232
        refine lv_lload hx hb dX11_still_97 (lv_at hl 3 rfl) ?_
        refine lv_lmul hx hb dX11_still_99 (lv_topl (fun v233 e_v233 => ?_))
        refine lv_ladd hx hb dX11_still_100 (lv_topl (fun v234 e_v234 => ?_))
        refine lv_iload_n hx hb dX11_still_101 rfl (lv_at hl 1 rfl) ?_
        obtain ⟨v235, e_v235⟩ : ∃ x : Int64, x1.toInt64 = x := ⟨_, rfl⟩
        refine lv_i2l (v := v235) hx hb dX11_still_102 e_v235 ?_
        have e_v235 := ai_i2l e_v235 rfl
        refine W.lcmp hx hb dX11_still_103 ?_
        refine lv_if_ne (tgt := 111) hx hb dX11_still_104 (by decide) (fun c_236 => ?_) (fun c_236 => ?_)
        · skip
          have c_236 := nl_ne c_236 rfl rfl
          refine lv_iconst (v := 0) hx hb dX11_still_111 (by decide) ?_
          refine lv_istore (lv' := [(10, .int 0), (0, .ref h0), (1, .int x1), (4, .long y219), (6, .long y218), (8, .int y217), (9, .int y216)]) hx hb dX11_still_112 hl (by decide) rfl (fun ls hl => ?_)
          refine lv_iload hx hb dX11_still_114 (lv_at hl 0 rfl) ?_
          refine lv_if_eq (tgt := 158) hx hb dX11_still_116 (by decide) (fun _ => ?_) (fun cc => absurd (by decide +kernel) cc)
          refine lv_iconst (v := 0) hx hb dX11_still_158 (by decide) ?_
          refine lv_istore (lv' := [(10, .int 0), (0, .ref h0), (1, .int x1), (4, .long y219), (6, .long y218), (8, .int y217), (9, .int y216)]) hx hb dX11_still_159 hl (by decide) rfl (fun ls hl => ?_)
          refine lv_iload hx hb dX11_still_161 (lv_at hl 0 rfl) ?_
          refine lv_if_eq (tgt := 208) hx hb dX11_still_163 (by decide) (fun _ => ?_) (fun cc => absurd (by decide +kernel) cc)
          refine lv_iconst (v := 0) hx hb dX11_still_208 (by decide) ?_
          refine lv_istore (lv' := [(10, .int 0), (0, .ref h0), (1, .int x1), (4, .long y219), (6, .long y218), (8, .int y217), (9, .int y216)]) hx hb dX11_still_209 hl (by decide) rfl (fun ls hl => ?_)
          refine lv_iload hx hb dX11_still_211 (lv_at hl 5 rfl) ?_
          refine lv_iload hx hb dX11_still_213 (lv_at hl 0 rfl) ?_
          refine lv_if_eq (tgt := 222) hx hb dX11_still_215 (by decide) (fun _ => ?_) (fun cc => absurd (by decide +kernel) cc)
          refine lv_iconst (v := 0) hx hb dX11_still_222 (by decide) ?_
          refine lv_iadd hx hb dX11_still_223 (lv_topi (fun v237 e_v237 => ?_))
          refine lv_istore (lv' := [(8, .int v237), (10, .int 0), (0, .ref h0), (1, .int x1), (4, .long y219), (6, .long y218), (9, .int y216)]) hx hb dX11_still_224 hl (by decide) rfl (fun ls hl => ?_)
          obtain ⟨v238, e_v238⟩ : ∃ x : Int32, x = y216 + Int32.ofInt 1 := ⟨_, rfl⟩
          have f_v238 := e_v238.symm
          have e_v238 : v238.toInt = y216.toInt + 1 := ai_add e_v238 rfl (show (Int32.ofInt 1).toInt = 1 from (by decide +kernel)) (by omega)
          refine lv_iinc (v := v238) (lv' := [(9, .int v238), (8, .int v237), (10, .int 0), (0, .ref h0), (1, .int x1), (4, .long y219), (6, .long y218)]) hx hb dX11_still_226 hl (k := 6) rfl f_v238 (by decide) rfl (fun ls hl => ?_)
          refine lv_goto (tgt := 53) hx hb dX11_still_229 (by decide) ?_
          exact ih53_223 v238 v237 y218 y219 y220 y221 y222 _ _ _ (by omega) (by omega) (by omega) (by omega) (by omega) (by omega)  (by omega) (hT.sub [6, 0, 7, 1, 2, 8, 3, 4, 5] (by decide) rfl) hS (lv_sub hl [3, 4, 5, 6, 1, 0] rfl)
        · skip
          have c_236 := nl_eq c_236 rfl rfl
          refine lv_iconst (v := 1) hx hb dX11_still_107 (by decide) ?_
          refine lv_goto (tgt := 112) hx hb dX11_still_108 (by decide) ?_
          refine lv_istore (lv' := [(10, .int 1), (0, .ref h0), (1, .int x1), (4, .long y219), (6, .long y218), (8, .int y217), (9, .int y216)]) hx hb dX11_still_112 hl (by decide) rfl (fun ls hl => ?_)
          refine lv_iload hx hb dX11_still_114 (lv_at hl 0 rfl) ?_
          refine lv_if_eq (tgt := 158) hx hb dX11_still_116 (by decide) (fun cc => absurd cc (by decide +kernel)) (fun _ => ?_)
          refine lv_aload_n hx hb dX11_still_119 rfl (lv_at hl 1 rfl) ?_
          refine tz_get (ci := 8) (v := .ref h4) (C := RX11) (F := TX11) (N := 36) hx hb hU iX11 hown hK hT 6 rfl rfl 11 (by decide) w796 (fun _ h9 => h9) rfl dX11_still_120 ?_
          refine lv_iconst (v := 3) hx hb dX11_still_123 (by decide) ?_
          refine tz_lald hx hb hK hT 7 rfl (by have := li_3; omega) dX11_still_124 (fun v239 e_v239 => ?_)
          clear e_v239
          refine lv_iload_n hx hb dX11_still_125 rfl (lv_at hl 2 rfl) ?_
          obtain ⟨v240, e_v240⟩ : ∃ x : Int64, x1.toInt64 = x := ⟨_, rfl⟩
          refine lv_i2l (v := v240) hx hb dX11_still_126 e_v240 ?_
          have e_v240 := ai_i2l e_v240 rfl
          refine lv_lmul hx hb dX11_still_127 (lv_topl (fun v241 e_v241 => ?_))
          refine lv_aload_n hx hb dX11_still_128 rfl (lv_at hl 1 rfl) ?_
          refine tz_get (ci := 8) (v := .ref h4) (C := RX11) (F := TX11) (N := 36) hx hb hU iX11 hown hK hT 6 rfl rfl 11 (by decide) w796 (fun _ h9 => h9) rfl dX11_still_129 ?_
          refine lv_iconst (v := 4) hx hb dX11_still_132 (by decide) ?_
          refine tz_lald hx hb hK hT 7 rfl (by have := li_4; omega) dX11_still_133 (fun v242 e_v242 => ?_)
          clear e_v242
          refine lv_lload hx hb dX11_still_134 (lv_at hl 3 rfl) ?_
          refine lv_lmul hx hb dX11_still_136 (lv_topl (fun v243 e_v243 => ?_))
          refine lv_ladd hx hb dX11_still_137 (lv_topl (fun v244 e_v244 => ?_))
          refine lv_aload_n hx hb dX11_still_138 rfl (lv_at hl 1 rfl) ?_
          refine tz_get (ci := 8) (v := .ref h4) (C := RX11) (F := TX11) (N := 36) hx hb hU iX11 hown hK hT 6 rfl rfl 11 (by decide) w796 (fun _ h9 => h9) rfl dX11_still_139 ?_
          refine lv_iconst (v := 5) hx hb dX11_still_142 (by decide) ?_
          refine tz_lald hx hb hK hT 7 rfl (by have := li_5; omega) dX11_still_143 (fun v245 e_v245 => ?_)
          clear e_v245
          refine lv_lload hx hb dX11_still_144 (lv_at hl 4 rfl) ?_
          refine lv_lmul hx hb dX11_still_146 (lv_topl (fun v246 e_v246 => ?_))
          refine lv_ladd hx hb dX11_still_147 (lv_topl (fun v247 e_v247 => ?_))
          refine lv_lload hx hb dX11_still_148 (lv_at hl 3 rfl) ?_
          refine W.lcmp hx hb dX11_still_150 ?_
          refine lv_if_ne (tgt := 158) hx hb dX11_still_151 (by decide) (fun c_248 => ?_) (fun c_248 => ?_)
          · skip
            have c_248 := nl_ne c_248 rfl rfl
            refine lv_iconst (v := 0) hx hb dX11_still_158 (by decide) ?_
            refine lv_istore (lv' := [(10, .int 0), (0, .ref h0), (1, .int x1), (4, .long y219), (6, .long y218), (8, .int y217), (9, .int y216)]) hx hb dX11_still_159 hl (by decide) rfl (fun ls hl => ?_)
            refine lv_iload hx hb dX11_still_161 (lv_at hl 0 rfl) ?_
            refine lv_if_eq (tgt := 208) hx hb dX11_still_163 (by decide) (fun _ => ?_) (fun cc => absurd (by decide +kernel) cc)
            refine lv_iconst (v := 0) hx hb dX11_still_208 (by decide) ?_
            refine lv_istore (lv' := [(10, .int 0), (0, .ref h0), (1, .int x1), (4, .long y219), (6, .long y218), (8, .int y217), (9, .int y216)]) hx hb dX11_still_209 hl (by decide) rfl (fun ls hl => ?_)
            refine lv_iload hx hb dX11_still_211 (lv_at hl 5 rfl) ?_
            refine lv_iload hx hb dX11_still_213 (lv_at hl 0 rfl) ?_
            refine lv_if_eq (tgt := 222) hx hb dX11_still_215 (by decide) (fun _ => ?_) (fun cc => absurd (by decide +kernel) cc)
            refine lv_iconst (v := 0) hx hb dX11_still_222 (by decide) ?_
            refine lv_iadd hx hb dX11_still_223 (lv_topi (fun v249 e_v249 => ?_))
            refine lv_istore (lv' := [(8, .int v249), (10, .int 0), (0, .ref h0), (1, .int x1), (4, .long y219), (6, .long y218), (9, .int y216)]) hx hb dX11_still_224 hl (by decide) rfl (fun ls hl => ?_)
            obtain ⟨v250, e_v250⟩ : ∃ x : Int32, x = y216 + Int32.ofInt 1 := ⟨_, rfl⟩
            have f_v250 := e_v250.symm
            have e_v250 : v250.toInt = y216.toInt + 1 := ai_add e_v250 rfl (show (Int32.ofInt 1).toInt = 1 from (by decide +kernel)) (by omega)
            refine lv_iinc (v := v250) (lv' := [(9, .int v250), (8, .int v249), (10, .int 0), (0, .ref h0), (1, .int x1), (4, .long y219), (6, .long y218)]) hx hb dX11_still_226 hl (k := 6) rfl f_v250 (by decide) rfl (fun ls hl => ?_)
            refine lv_goto (tgt := 53) hx hb dX11_still_229 (by decide) ?_
            exact ih53_223 v250 v249 y218 y219 y220 y221 y222 _ _ _ (by omega) (by omega) (by omega) (by omega) (by omega) (by omega)  (by omega) (hT.sub [6, 0, 7, 1, 2, 8, 3, 4, 5] (by decide) rfl) hS (lv_sub hl [3, 4, 5, 6, 1, 0] rfl)
          · skip
            have c_248 := nl_eq c_248 rfl rfl
            refine lv_iconst (v := 1) hx hb dX11_still_154 (by decide) ?_
            refine lv_goto (tgt := 159) hx hb dX11_still_155 (by decide) ?_
            refine lv_istore (lv' := [(10, .int 1), (0, .ref h0), (1, .int x1), (4, .long y219), (6, .long y218), (8, .int y217), (9, .int y216)]) hx hb dX11_still_159 hl (by decide) rfl (fun ls hl => ?_)
            refine lv_iload hx hb dX11_still_161 (lv_at hl 0 rfl) ?_
            refine lv_if_eq (tgt := 208) hx hb dX11_still_163 (by decide) (fun cc => absurd cc (by decide +kernel)) (fun _ => ?_)
            refine lv_aload_n hx hb dX11_still_166 rfl (lv_at hl 1 rfl) ?_
            refine tz_get (ci := 8) (v := .ref h4) (C := RX11) (F := TX11) (N := 36) hx hb hU iX11 hown hK hT 6 rfl rfl 11 (by decide) w796 (fun _ h9 => h9) rfl dX11_still_167 ?_
            refine lv_bipush (v := 6) hx hb dX11_still_170 (by decide) ?_
            refine tz_lald hx hb hK hT 7 rfl (by have := li_6; omega) dX11_still_172 (fun v251 e_v251 => ?_)
            clear e_v251
            refine lv_iload_n hx hb dX11_still_173 rfl (lv_at hl 2 rfl) ?_
            obtain ⟨v252, e_v252⟩ : ∃ x : Int64, x1.toInt64 = x := ⟨_, rfl⟩
            refine lv_i2l (v := v252) hx hb dX11_still_174 e_v252 ?_
            have e_v252 := ai_i2l e_v252 rfl
            refine lv_lmul hx hb dX11_still_175 (lv_topl (fun v253 e_v253 => ?_))
            refine lv_aload_n hx hb dX11_still_176 rfl (lv_at hl 1 rfl) ?_
            refine tz_get (ci := 8) (v := .ref h4) (C := RX11) (F := TX11) (N := 36) hx hb hU iX11 hown hK hT 6 rfl rfl 11 (by decide) w796 (fun _ h9 => h9) rfl dX11_still_177 ?_
            refine lv_bipush (v := 7) hx hb dX11_still_180 (by decide) ?_
            refine tz_lald hx hb hK hT 7 rfl (by have := li_7; omega) dX11_still_182 (fun v254 e_v254 => ?_)
            clear e_v254
            refine lv_lload hx hb dX11_still_183 (lv_at hl 3 rfl) ?_
            refine lv_lmul hx hb dX11_still_185 (lv_topl (fun v255 e_v255 => ?_))
            refine lv_ladd hx hb dX11_still_186 (lv_topl (fun v256 e_v256 => ?_))
            refine lv_aload_n hx hb dX11_still_187 rfl (lv_at hl 1 rfl) ?_
            refine tz_get (ci := 8) (v := .ref h4) (C := RX11) (F := TX11) (N := 36) hx hb hU iX11 hown hK hT 6 rfl rfl 11 (by decide) w796 (fun _ h9 => h9) rfl dX11_still_188 ?_
            refine lv_bipush (v := 8) hx hb dX11_still_191 (by decide) ?_
            refine tz_lald hx hb hK hT 7 rfl (by have := li_8; omega) dX11_still_193 (fun v257 e_v257 => ?_)
            clear e_v257
            refine lv_lload hx hb dX11_still_194 (lv_at hl 4 rfl) ?_
            refine lv_lmul hx hb dX11_still_196 (lv_topl (fun v258 e_v258 => ?_))
            refine lv_ladd hx hb dX11_still_197 (lv_topl (fun v259 e_v259 => ?_))
            refine lv_lload hx hb dX11_still_198 (lv_at hl 4 rfl) ?_
            refine W.lcmp hx hb dX11_still_200 ?_
            refine lv_if_ne (tgt := 208) hx hb dX11_still_201 (by decide) (fun c_260 => ?_) (fun c_260 => ?_)
            · skip
              have c_260 := nl_ne c_260 rfl rfl
              refine lv_iconst (v := 0) hx hb dX11_still_208 (by decide) ?_
              refine lv_istore (lv' := [(10, .int 0), (0, .ref h0), (1, .int x1), (4, .long y219), (6, .long y218), (8, .int y217), (9, .int y216)]) hx hb dX11_still_209 hl (by decide) rfl (fun ls hl => ?_)
              refine lv_iload hx hb dX11_still_211 (lv_at hl 5 rfl) ?_
              refine lv_iload hx hb dX11_still_213 (lv_at hl 0 rfl) ?_
              refine lv_if_eq (tgt := 222) hx hb dX11_still_215 (by decide) (fun _ => ?_) (fun cc => absurd (by decide +kernel) cc)
              refine lv_iconst (v := 0) hx hb dX11_still_222 (by decide) ?_
              refine lv_iadd hx hb dX11_still_223 (lv_topi (fun v261 e_v261 => ?_))
              refine lv_istore (lv' := [(8, .int v261), (10, .int 0), (0, .ref h0), (1, .int x1), (4, .long y219), (6, .long y218), (9, .int y216)]) hx hb dX11_still_224 hl (by decide) rfl (fun ls hl => ?_)
              obtain ⟨v262, e_v262⟩ : ∃ x : Int32, x = y216 + Int32.ofInt 1 := ⟨_, rfl⟩
              have f_v262 := e_v262.symm
              have e_v262 : v262.toInt = y216.toInt + 1 := ai_add e_v262 rfl (show (Int32.ofInt 1).toInt = 1 from (by decide +kernel)) (by omega)
              refine lv_iinc (v := v262) (lv' := [(9, .int v262), (8, .int v261), (10, .int 0), (0, .ref h0), (1, .int x1), (4, .long y219), (6, .long y218)]) hx hb dX11_still_226 hl (k := 6) rfl f_v262 (by decide) rfl (fun ls hl => ?_)
              refine lv_goto (tgt := 53) hx hb dX11_still_229 (by decide) ?_
              exact ih53_223 v262 v261 y218 y219 y220 y221 y222 _ _ _ (by omega) (by omega) (by omega) (by omega) (by omega) (by omega)  (by omega) (hT.sub [6, 0, 7, 1, 2, 8, 3, 4, 5] (by decide) rfl) hS (lv_sub hl [3, 4, 5, 6, 1, 0] rfl)
            · skip
              have c_260 := nl_eq c_260 rfl rfl
              refine lv_iconst (v := 1) hx hb dX11_still_204 (by decide) ?_
              refine lv_goto (tgt := 209) hx hb dX11_still_205 (by decide) ?_
              refine lv_istore (lv' := [(10, .int 1), (0, .ref h0), (1, .int x1), (4, .long y219), (6, .long y218), (8, .int y217), (9, .int y216)]) hx hb dX11_still_209 hl (by decide) rfl (fun ls hl => ?_)
              refine lv_iload hx hb dX11_still_211 (lv_at hl 5 rfl) ?_
              refine lv_iload hx hb dX11_still_213 (lv_at hl 0 rfl) ?_
              refine lv_if_eq (tgt := 222) hx hb dX11_still_215 (by decide) (fun cc => absurd cc (by decide +kernel)) (fun _ => ?_)
              refine lv_iconst (v := 1) hx hb dX11_still_218 (by decide) ?_
              refine lv_goto (tgt := 223) hx hb dX11_still_219 (by decide) ?_
              refine lv_iadd hx hb dX11_still_223 (lv_topi (fun v263 e_v263 => ?_))
              refine lv_istore (lv' := [(8, .int v263), (10, .int 1), (0, .ref h0), (1, .int x1), (4, .long y219), (6, .long y218), (9, .int y216)]) hx hb dX11_still_224 hl (by decide) rfl (fun ls hl => ?_)
              obtain ⟨v264, e_v264⟩ : ∃ x : Int32, x = y216 + Int32.ofInt 1 := ⟨_, rfl⟩
              have f_v264 := e_v264.symm
              have e_v264 : v264.toInt = y216.toInt + 1 := ai_add e_v264 rfl (show (Int32.ofInt 1).toInt = 1 from (by decide +kernel)) (by omega)
              refine lv_iinc (v := v264) (lv' := [(9, .int v264), (8, .int v263), (10, .int 1), (0, .ref h0), (1, .int x1), (4, .long y219), (6, .long y218)]) hx hb dX11_still_226 hl (k := 6) rfl f_v264 (by decide) rfl (fun ls hl => ?_)
              refine lv_goto (tgt := 53) hx hb dX11_still_229 (by decide) ?_
              exact ih53_223 v264 v263 y218 y219 y220 y221 y222 _ _ _ (by omega) (by omega) (by omega) (by omega) (by omega) (by omega)  (by omega) (hT.sub [6, 0, 7, 1, 2, 8, 3, 4, 5] (by decide) rfl) hS (lv_sub hl [3, 4, 5, 6, 1, 0] rfl)
  refine lv_iload_n hx hb dX11_still_0 rfl (lv_at hl 1 rfl) ?_
  refine lv_iload_n hx hb dX11_still_1 rfl (lv_at hl 2 rfl) ?_
  refine lv_iload_n hx hb dX11_still_2 rfl (lv_at hl 3 rfl) ?_
  refine tcI (Tc := []) (Tr := [(h0, ob 8 [.int h0f0, .int h0f1, .int h0f2, .int h0f3, .int h0f4, .int h0f5, .ref h1, .ref h2, .int h0f8, .int h0f9, .ref h3, .ref h4, .ref h5, .ref h6, .ref h7, .ref h8, .ref h9, .int h0f17, .int h0f18, .int h0f19, .ref h10, .ref h11, .ref h12, .ref h13, .int h0f24, .int h0f25, .ref h14, .ref h15, .ref h16, .ref h17, .int h0f30, .int h0f31, .ref h18, .ref h19, .ref h20, .ref h21]), (h1, aI (k 0) 36 anI), (h4, aJ (k 1) 9 anJ), (h5, aJ (k 1) 9 anJ), (h6, aJ (k 1) 9 anJ), (h10, aJ (k 1) 900 (lsP (h0f9.toInt))), (h11, aI (k 0) 100 anI), (h12, aI (k 0) 100 anI), (h13, aI (k 0) 100 anI)]) (as := []) (zcS (As := [.int x1, .int x2, .int x3]) (rest := []) (Tc := []) hx hb hml hown hU hK hT [] rfl (by decide) (cX11_isAsked_874da l D k _ x1 x2 x3) w1137 w1135 w1136 w72 hdX11_isAsked ⟨rfl, rfl⟩ ⟨Nat.le_of_ble_eq_true rfl, Nat.le_of_ble_eq_true rfl⟩ rfl hl.1 (Nat.le_of_ble_eq_true rfl) dX11_still_3 ⟨Nat.le_of_ble_eq_true rfl, Nat.le_of_ble_eq_true rfl⟩) hT hS hA [] [0, 1, 2, 3, 4, 5, 6, 7, 8] rfl rfl rfl (by decide) (by decide) (fun r265 H locs hB J hS => ?_)
  obtain ⟨b_r265, hT1⟩ := hB
  have hT := J _ hT1
  have hT : TP D A [(h0, ob 8 [.int h0f0, .int h0f1, .int h0f2, .int h0f3, .int h0f4, .int h0f5, .ref h1, .ref h2, .int h0f8, .int h0f9, .ref h3, .ref h4, .ref h5, .ref h6, .ref h7, .ref h8, .ref h9, .int h0f17, .int h0f18, .int h0f19, .ref h10, .ref h11, .ref h12, .ref h13, .int h0f24, .int h0f25, .ref h14, .ref h15, .ref h16, .ref h17, .int h0f30, .int h0f31, .ref h18, .ref h19, .ref h20, .ref h21]), (h1, aI (k 0) 36 anI), (h4, aJ (k 1) 9 anJ), (h5, aJ (k 1) 9 anJ), (h6, aJ (k 1) 9 anJ), (h10, aJ (k 1) 900 (lsP (h0f9.toInt))), (h11, aI (k 0) 100 anI), (h12, aI (k 0) 100 anI), (h13, aI (k 0) 100 anI)] _ := hT
  refine lv_if_ne (tgt := 11) hx hb dX11_still_6 (by decide) (fun c_266 => ?_) (fun c_266 => ?_)
  · skip
    have c_266 := ni_ne c_266 rfl li_0
    refine lv_aload_n hx hb dX11_still_11 rfl (lv_at hl 0 rfl) ?_
    refine tcV (Tc := [(h0, ob 8 [.int h0f0, .int h0f1, .int h0f2, .int h0f3, .int h0f4, .int h0f5, .ref h1, .ref h2, .int h0f8, .int h0f9, .ref h3, .ref h4, .ref h5, .ref h6, .ref h7, .ref h8, .ref h9, .int h0f17, .int h0f18, .int h0f19, .ref h10, .ref h11, .ref h12, .ref h13, .int h0f24, .int h0f25, .ref h14, .ref h15, .ref h16, .ref h17, .int h0f30, .int h0f31, .ref h18, .ref h19, .ref h20, .ref h21]), (h1, aI (k 0) 36 anI), (h4, aJ (k 1) 9 anJ), (h5, aJ (k 1) 9 anJ), (h6, aJ (k 1) 9 anJ), (h10, aJ (k 1) 900 (lsP (h0f9.toInt))), (h11, aI (k 0) 100 anI), (h12, aI (k 0) 100 anI), (h13, aI (k 0) 100 anI)]) (Tr := []) (as := [h0, h1, h4, h5, h6, h10, h11, h12, h13]) (zcV (q0 := 0) (ci := 8) (As := []) (rest := []) (Tc := [(h0, ob 8 [.int h0f0, .int h0f1, .int h0f2, .int h0f3, .int h0f4, .int h0f5, .ref h1, .ref h2, .int h0f8, .int h0f9, .ref h3, .ref h4, .ref h5, .ref h6, .ref h7, .ref h8, .ref h9, .int h0f17, .int h0f18, .int h0f19, .ref h10, .ref h11, .ref h12, .ref h13, .int h0f24, .int h0f25, .ref h14, .ref h15, .ref h16, .ref h17, .int h0f30, .int h0f31, .ref h18, .ref h19, .ref h20, .ref h21]), (h1, aI (k 0) 36 anI), (h4, aJ (k 1) 9 anJ), (h5, aJ (k 1) 9 anJ), (h6, aJ (k 1) 9 anJ), (h10, aJ (k 1) 900 (lsP (h0f9.toInt))), (h11, aI (k 0) 100 anI), (h12, aI (k 0) 100 anI), (h13, aI (k 0) 100 anI)]) hx hb hml hown hU hK hT rfl rfl [0, 1, 2, 3, 4, 5, 6, 7, 8] rfl (by decide) (cX11_findList_9a1c7 l D k _ h0 h1 h4 h5 h6 h10 h11 h12 h13 h2 h3 h7 h8 h9 h14 h15 h16 h17 h18 h19 h20 h21 h0f0 h0f1 h0f2 h0f3 h0f4 h0f5 h0f8 h0f9 h0f17 h0f18 h0f19 h0f24 h0f25 h0f30 h0f31 (by omega) (by omega) (by omega) (by omega) (by omega) (by omega) (by omega) (by omega) (by omega) (by omega) (by omega) (by omega) (by omega) (by omega) (by omega)) w1039 w1036 w1038 w47 w72 hdX11_findList ⟨rfl, rfl⟩ ⟨Nat.le_of_ble_eq_true rfl, Nat.le_of_ble_eq_true rfl⟩ rfl hl.1 (Nat.le_of_ble_eq_true rfl) dX11_still_12 ⟨Nat.le_of_ble_eq_true rfl, Nat.le_of_ble_eq_true rfl⟩) hT hS hA [0, 1, 2, 3, 4, 5, 6, 7, 8] [] rfl rfl rfl (by decide) (by decide) (fun H locs hB J hS => ?_)
    obtain ⟨v268, v269, v270, b_v268, b_v269, b_v270, hT1⟩ := hB
    have hT := J _ hT1
    have hT : TP D A [(h0, ob 8 [.int h0f0, .int h0f1, .int h0f2, .int h0f3, .int h0f4, .int h0f5, .ref h1, .ref h2, .int h0f8, .int v268, .ref h3, .ref h4, .ref h5, .ref h6, .ref h7, .ref h8, .ref h9, .int h0f17, .int h0f18, .int h0f19, .ref h10, .ref h11, .ref h12, .ref h13, .int v269, .int v270, .ref h14, .ref h15, .ref h16, .ref h17, .int h0f30, .int h0f31, .ref h18, .ref h19, .ref h20, .ref h21]), (h1, aI (k 0) 36 anI), (h4, aJ (k 1) 9 anJ), (h5, aJ (k 1) 9 anJ), (h6, aJ (k 1) 9 anJ), (h10, aJ (k 1) 900 (lsP (v268.toInt))), (h11, aI (k 0) 100 anI), (h12, aI (k 0) 100 anI), (h13, aI (k 0) 100 anI)] _ := hT
    refine lv_aload_n hx hb dX11_still_15 rfl (lv_at hl 0 rfl) ?_
    refine tz_get (ci := 8) (v := .int h0f0) (C := RX11) (F := TX11) (N := 36) hx hb hU iX11 hown hK hT 0 rfl rfl 0 (by decide) w785 (fun _ h9 => h9) rfl dX11_still_16 ?_
    refine lv_iconst (v := 1) hx hb dX11_still_19 (by decide) ?_
    refine lv_icmp_le (tgt := 28) hx hb dX11_still_20 (by decide) (fun c_271 => ?_) (fun c_271 => ?_)
    · skip
      have c_271 := ni_le c_271 rfl li_1
      refine lv_lconst (v := 0) hx hb dX11_still_28 (by decide) ?_
      refine lv_lstore (lv' := [(4, .long 0), (0, .ref h0), (1, .int x1), (2, .int x2), (3, .int x3)]) hx hb dX11_still_29 hl (by decide) rfl (fun ls hl => ?_)
      refine lv_aload_n hx hb dX11_still_31 rfl (lv_at hl 1 rfl) ?_
      refine tz_get (ci := 8) (v := .int h0f0) (C := RX11) (F := TX11) (N := 36) hx hb hU iX11 hown hK hT 0 rfl rfl 0 (by decide) w785 (fun _ h9 => h9) rfl dX11_still_32 ?_
      refine lv_iconst (v := 2) hx hb dX11_still_35 (by decide) ?_
      refine lv_icmp_le (tgt := 44) hx hb dX11_still_36 (by decide) (fun c_272 => ?_) (fun c_272 => ?_)
      · skip
        have c_272 := ni_le c_272 rfl li_2
        refine lv_lconst (v := 0) hx hb dX11_still_44 (by decide) ?_
        refine lv_lstore (lv' := [(6, .long 0), (4, .long 0), (0, .ref h0), (1, .int x1), (2, .int x2), (3, .int x3)]) hx hb dX11_still_45 hl (by decide) rfl (fun ls hl => ?_)
        refine lv_iconst (v := 0) hx hb dX11_still_47 (by decide) ?_
        refine lv_istore (lv' := [(8, .int 0), (6, .long 0), (4, .long 0), (0, .ref h0), (1, .int x1), (2, .int x2), (3, .int x3)]) hx hb dX11_still_48 hl (by decide) rfl (fun ls hl => ?_)
        refine lv_iconst (v := 0) hx hb dX11_still_50 (by decide) ?_
        refine lv_istore (lv' := [(9, .int 0), (8, .int 0), (6, .long 0), (4, .long 0), (0, .ref h0), (1, .int x1), (2, .int x2), (3, .int x3)]) hx hb dX11_still_51 hl (by decide) rfl (fun ls hl => ?_)
        exact lp53_223 ((v269.toInt + (-1) * (0 : Int32).toInt + 1).toNat + 1) (0) (0) (0) (0) v268 v269 v270 _ _ _ (by have := li_0; have := ll_0; omega) (by have := li_0; have := ll_0; omega) (by have := li_0; have := ll_0; omega) (by have := li_0; have := ll_0; omega) (by have := li_0; have := ll_0; omega) (by have := li_0; have := ll_0; omega)  (Nat.lt_succ_self _) hT hS (lv_sub hl [4, 5, 3, 2, 1, 0] rfl)
      · skip
        have c_272 := ni_nle c_272 rfl li_2
        exfalso; omega
    · skip
      have c_271 := ni_nle c_271 rfl li_1
      refine lv_iload_n hx hb dX11_still_23 rfl (lv_at hl 2 rfl) ?_
      have tb_x2 := i32b x2
      obtain ⟨v273, e_v273⟩ : ∃ x : Int64, x2.toInt64 = x := ⟨_, rfl⟩
      refine lv_i2l (v := v273) hx hb dX11_still_24 e_v273 ?_
      have e_v273 := ai_i2l e_v273 rfl
      refine lv_goto (tgt := 29) hx hb dX11_still_25 (by decide) ?_
      refine lv_lstore (lv' := [(4, .long v273), (0, .ref h0), (1, .int x1), (2, .int x2), (3, .int x3)]) hx hb dX11_still_29 hl (by decide) rfl (fun ls hl => ?_)
      refine lv_aload_n hx hb dX11_still_31 rfl (lv_at hl 1 rfl) ?_
      refine tz_get (ci := 8) (v := .int h0f0) (C := RX11) (F := TX11) (N := 36) hx hb hU iX11 hown hK hT 0 rfl rfl 0 (by decide) w785 (fun _ h9 => h9) rfl dX11_still_32 ?_
      refine lv_iconst (v := 2) hx hb dX11_still_35 (by decide) ?_
      refine lv_icmp_le (tgt := 44) hx hb dX11_still_36 (by decide) (fun c_274 => ?_) (fun c_274 => ?_)
      · skip
        have c_274 := ni_le c_274 rfl li_2
        refine lv_lconst (v := 0) hx hb dX11_still_44 (by decide) ?_
        refine lv_lstore (lv' := [(6, .long 0), (4, .long v273), (0, .ref h0), (1, .int x1), (2, .int x2), (3, .int x3)]) hx hb dX11_still_45 hl (by decide) rfl (fun ls hl => ?_)
        refine lv_iconst (v := 0) hx hb dX11_still_47 (by decide) ?_
        refine lv_istore (lv' := [(8, .int 0), (6, .long 0), (4, .long v273), (0, .ref h0), (1, .int x1), (2, .int x2), (3, .int x3)]) hx hb dX11_still_48 hl (by decide) rfl (fun ls hl => ?_)
        refine lv_iconst (v := 0) hx hb dX11_still_50 (by decide) ?_
        refine lv_istore (lv' := [(9, .int 0), (8, .int 0), (6, .long 0), (4, .long v273), (0, .ref h0), (1, .int x1), (2, .int x2), (3, .int x3)]) hx hb dX11_still_51 hl (by decide) rfl (fun ls hl => ?_)
        exact lp53_223 ((v269.toInt + (-1) * (0 : Int32).toInt + 1).toNat + 1) (0) (0) (0) v273 v268 v269 v270 _ _ _ (by have := li_0; have := ll_0; omega) (by have := li_0; have := ll_0; omega) (by have := li_0; have := ll_0; omega) (by have := li_0; have := ll_0; omega) (by have := li_0; have := ll_0; omega) (by have := li_0; have := ll_0; omega)  (Nat.lt_succ_self _) hT hS (lv_sub hl [4, 5, 3, 2, 1, 0] rfl)
      · skip
        have c_274 := ni_nle c_274 rfl li_2
        refine lv_iload_n hx hb dX11_still_39 rfl (lv_at hl 4 rfl) ?_
        have tb_x3 := i32b x3
        obtain ⟨v275, e_v275⟩ : ∃ x : Int64, x3.toInt64 = x := ⟨_, rfl⟩
        refine lv_i2l (v := v275) hx hb dX11_still_40 e_v275 ?_
        have e_v275 := ai_i2l e_v275 rfl
        refine lv_goto (tgt := 45) hx hb dX11_still_41 (by decide) ?_
        refine lv_lstore (lv' := [(6, .long v275), (4, .long v273), (0, .ref h0), (1, .int x1), (2, .int x2), (3, .int x3)]) hx hb dX11_still_45 hl (by decide) rfl (fun ls hl => ?_)
        refine lv_iconst (v := 0) hx hb dX11_still_47 (by decide) ?_
        refine lv_istore (lv' := [(8, .int 0), (6, .long v275), (4, .long v273), (0, .ref h0), (1, .int x1), (2, .int x2), (3, .int x3)]) hx hb dX11_still_48 hl (by decide) rfl (fun ls hl => ?_)
        refine lv_iconst (v := 0) hx hb dX11_still_50 (by decide) ?_
        refine lv_istore (lv' := [(9, .int 0), (8, .int 0), (6, .long v275), (4, .long v273), (0, .ref h0), (1, .int x1), (2, .int x2), (3, .int x3)]) hx hb dX11_still_51 hl (by decide) rfl (fun ls hl => ?_)
        exact lp53_223 ((v269.toInt + (-1) * (0 : Int32).toInt + 1).toNat + 1) (0) (0) v275 v273 v268 v269 v270 _ _ _ (by have := li_0; omega) (by have := li_0; omega) (by have := li_0; omega) (by have := li_0; omega) (by have := li_0; omega) (by have := li_0; omega)  (Nat.lt_succ_self _) hT hS (lv_sub hl [4, 5, 3, 2, 1, 0] rfl)
  · skip
    have c_266 := ni_eq c_266 rfl li_0
    refine lv_iconst (v := (-1)) hx hb dX11_still_9 (by decide) ?_
    exact tz_retI (B := B_cX11_still_70a1e D k h0 h1 h4 h5 h6 h10 h11 h12 h13 h2 h3 h7 h8 h9 h14 h15 h16 h17 h18 h19 h20 h21 x1 x2 x3 h0f0 h0f1 h0f2 h0f3 h0f4 h0f5 h0f8 h0f9 h0f17 h0f18 h0f19 h0f24 h0f25 h0f30 h0f31) (v := (-1)) hQ hx hb hr hlocks hS (Nat.le_of_ble_eq_true rfl) (Nat.le_of_ble_eq_true rfl) dX11_still_10 (⟨h0f9, h0f24, h0f25, (by have := li_m1; omega), (by have := li_m1; omega), (by have := li_m1; omega), hT⟩)
