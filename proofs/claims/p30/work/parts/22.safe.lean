abbrev Rm_cX10_orderOf_3073c : Room := { frames := 2, cells := 0, slots := 0, locals := 56 }
abbrev B_cX10_orderOf_3073c (D : va_G) (k : Nat → ClassId) (h0 h1 h2 h13 h14 h3 h4 h5 h6 h7 h8 h9 h10 h11 h12 : Nat) (x2 : Int32) (h0f2 : Int32) (h0f6 : Int32) (h0f8 : Int32) (h0f11 : Int32) (h2f0 : Int32) (h2f1 : Int32) (h2f2 : Int32) (A : Nat → Prop) (r : Int32) (H : Heap) : Prop := ((-3) ≤ r.toInt ∧ r.toInt ≤ 12) ∧ TP D A [(h0, ob 7 [.ref h2, .ref h3, .int h0f2, .ref h4, .ref h5, .ref h6, .int h0f6, .ref h7, .int h0f8, .ref h8, .ref h9, .int h0f11, .ref h10, .ref h11, .ref h12, .ref h13, .ref h14]), (h1, aJ (k 1) 36 anJ), (h2, ob 4 [.int h2f0, .int h2f1, .int h2f2, .ref h1]), (h13, aJ (k 1) 9 anJ), (h14, aJ (k 1) 9 anJ)] H
set_option maxHeartbeats 4000000 in
set_option maxRecDepth 100000 in
theorem cX10_orderOf_3073c (l : Launch) (D : va_G) (k : Nat → ClassId) (sz : Nat) (h0 h1 h2 h13 h14 h3 h4 h5 h6 h7 h8 h9 h10 h11 h12 : Nat) (x2 : Int32) (h0f2 : Int32) (h0f6 : Int32) (h0f8 : Int32) (h0f11 : Int32) (h2f0 : Int32) (h2f1 : Int32) (h2f2 : Int32) (b_x2 : 0 ≤ x2.toInt ∧ x2.toInt ≤ 27) (b_h0f2 : 0 ≤ h0f2.toInt ∧ h0f2.toInt ≤ 1) (b_h0f6 : 0 ≤ h0f6.toInt ∧ h0f6.toInt ≤ 1) (b_h0f8 : 0 ≤ h0f8.toInt ∧ h0f8.toInt ≤ 1) (b_h0f11 : 0 ≤ h0f11.toInt ∧ h0f11.toInt ≤ 200) (b_h2f0 : 1 ≤ h2f0.toInt ∧ h2f0.toInt ≤ 3) (b_h2f1 : 1 ≤ h2f1.toInt ∧ h2f1.toInt ≤ 4) : Met l yX10_orderOf (Cond.code yX10_orderOf cX10_orderOf 5 (some .int) :: uw) Rm_cX10_orderOf_3073c (pT D k sz [.ref h0, .ref h1, .int x2] [(h0, ob 7 [.ref h2, .ref h3, .int h0f2, .ref h4, .ref h5, .ref h6, .int h0f6, .ref h7, .int h0f8, .ref h8, .ref h9, .int h0f11, .ref h10, .ref h11, .ref h12, .ref h13, .ref h14]), (h1, aJ (k 1) 36 anJ), (h2, ob 4 [.int h2f0, .int h2f1, .int h2f2, .ref h1]), (h13, aJ (k 1) 9 anJ), (h14, aJ (k 1) 9 anJ)]) (qI (B_cX10_orderOf_3073c D k h0 h1 h2 h13 h14 h3 h4 h5 h6 h7 h8 h9 h10 h11 h12 x2 h0f2 h0f6 h0f8 h0f11 h2f0 h2f1 h2f2 (zA [h0, h1, h2, h13, h14] sz)) (zA [h0, h1, h2, h13, h14] sz)) 0 0 (zA [h0, h1, h2, h13, h14] sz) := by
  refine tz_begin (as := [h0, h1, h2, h13, h14]) (Qc := fun A => qI (B_cX10_orderOf_3073c D k h0 h1 h2 h13 h14 h3 h4 h5 h6 h7 h8 h9 h10 h11 h12 x2 h0f2 h0f6 h0f8 h0f11 h2f0 h2f1 h2f2 A) A) (by decide +kernel) rfl (Nat.le_of_ble_eq_true rfl) ?_
  intro p e s m args below meth c ls A Q hx hb hr hml hown hlocks hin hU hK hT hS hA hl hQ
  have hl : lv_has ls 5 [(0, .ref h0), (1, .ref h1), (2, .int x2)] := hl
  have hT : TP D A [(h0, ob 7 [.ref h2, .ref h3, .int h0f2, .ref h4, .ref h5, .ref h6, .int h0f6, .ref h7, .int h0f8, .ref h8, .ref h9, .int h0f11, .ref h10, .ref h11, .ref h12, .ref h13, .ref h14]), (h1, aJ (k 1) 36 anJ), (h2, ob 4 [.int h2f0, .int h2f1, .int h2f2, .ref h1]), (h13, aJ (k 1) 9 anJ), (h14, aJ (k 1) 9 anJ)] s.heap := hT
  refine lv_aload_n hx hb dX10_orderOf_0 rfl (lv_at hl 0 rfl) ?_
  refine tz_get (ci := 7) (v := .ref h2) (C := RX10) (F := TX10) (N := 17) hx hb hU iX10 hown hK hT 0 rfl rfl 0 (by decide) w249 (fun _ h9 => h9) rfl dX10_orderOf_1 ?_
  refine tcI (Tc := [(h2, ob 4 [.int h2f0, .int h2f1, .int h2f2, .ref h1])]) (Tr := [(h0, ob 7 [.ref h2, .ref h3, .int h0f2, .ref h4, .ref h5, .ref h6, .int h0f6, .ref h7, .int h0f8, .ref h8, .ref h9, .int h0f11, .ref h10, .ref h11, .ref h12, .ref h13, .ref h14]), (h1, aJ (k 1) 36 anJ), (h13, aJ (k 1) 9 anJ), (h14, aJ (k 1) 9 anJ)]) (as := [h2]) (zcV (q0 := 2) (ci := 4) (As := []) (rest := []) (Tc := [(h2, ob 4 [.int h2f0, .int h2f1, .int h2f2, .ref h1])]) hx hb hml hown hU hK hT rfl rfl [2] rfl (by decide) (cX5_cellCount_642c9 l D k _ h2 h1 h2f0 h2f1 h2f2 (by omega) (by omega)) w385 w382 w383 w384 w64 hdX5_cellCount ⟨rfl, rfl⟩ ⟨Nat.le_of_ble_eq_true rfl, Nat.le_of_ble_eq_true rfl⟩ rfl hl.1 (Nat.le_of_ble_eq_true rfl) dX10_orderOf_4 ⟨Nat.le_of_ble_eq_true rfl, Nat.le_of_ble_eq_true rfl⟩) hT hS hA [2] [0, 1, 3, 4] rfl rfl rfl (by decide) (by decide) (fun r1 H locs hB J hS => ?_)
  obtain ⟨b_r1, hT1⟩ := hB
  have hT := J _ hT1
  have hT : TP D A [(h0, ob 7 [.ref h2, .ref h3, .int h0f2, .ref h4, .ref h5, .ref h6, .int h0f6, .ref h7, .int h0f8, .ref h8, .ref h9, .int h0f11, .ref h10, .ref h11, .ref h12, .ref h13, .ref h14]), (h1, aJ (k 1) 36 anJ), (h13, aJ (k 1) 9 anJ), (h14, aJ (k 1) 9 anJ), (h2, ob 4 [.int h2f0, .int h2f1, .int h2f2, .ref h1])] _ := hT
  refine lv_istore_n (lv' := [(3, .int r1), (0, .ref h0), (1, .ref h1), (2, .int x2)]) hx hb dX10_orderOf_7 rfl hl (by decide) rfl (fun ls hl => ?_)
  refine lv_aload_n hx hb dX10_orderOf_8 rfl (lv_at hl 2 rfl) ?_
  refine lv_iload_n hx hb dX10_orderOf_9 rfl (lv_at hl 3 rfl) ?_
  refine lv_aload_n hx hb dX10_orderOf_10 rfl (lv_at hl 1 rfl) ?_
  refine tz_get (ci := 7) (v := .ref h13) (C := RX10) (F := TX10) (N := 17) hx hb hU iX10 hown hK hT 0 rfl rfl 15 (by decide) w264 (fun _ h9 => h9) rfl dX10_orderOf_11 ?_
  refine lv_iconst (v := 0) hx hb dX10_orderOf_14 (by decide) ?_
  refine lv_iload_n hx hb dX10_orderOf_15 rfl (lv_at hl 0 rfl) ?_
  refine tz_copyl hx hb (by rw [hml]; exact hl.1.symm) hown hU w410 w348 w347 w75 hK hT hS 1 2 rfl rfl (by have := li_0; omega) (fun _ _ _ _ => trivial) (Nat.le_of_ble_eq_true rfl) (Nat.le_of_ble_eq_true rfl) dX10_orderOf_16 (fun H locs hT hS => ?_)
  refine lv_iconst (v := 1) hx hb dX10_orderOf_19 (by decide) ?_
  refine lv_istore (lv' := [(4, .int 1), (3, .int r1), (0, .ref h0), (1, .ref h1), (2, .int x2)]) hx hb dX10_orderOf_20 hl (by decide) rfl (fun ls hl => ?_)
  have lp22_11 : ∀ (n : Nat) (y10 : Int32) (H : Heap) (locs : List Loc) (ls : Array Slot), (1 ≤ y10.toInt ∧ y10.toInt ≤ 13) → ((-1) * y10.toInt + 12 + 1).toNat < n → TP D A [(h0, ob 7 [.ref h2, .ref h3, .int h0f2, .ref h4, .ref h5, .ref h6, .int h0f6, .ref h7, .int h0f8, .ref h8, .ref h9, .int h0f11, .ref h10, .ref h11, .ref h12, .ref h13, .ref h14]), (h1, aJ (k 1) 36 anJ), (h13, aJ (k 1) 9 anJ), (h14, aJ (k 1) 9 anJ), (h2, ob 4 [.int h2f0, .int h2f1, .int h2f2, .ref h1])] H → va_S A s.heap H locs → lv_has ls 5 [(0, .ref h0), (1, .ref h1), (2, .int x2), (3, .int r1), (4, .int y10)] → W p l e Rm_cX10_orderOf_3073c s m args below meth c H locs 0 0 Q (F0 m 22 ls []) := by
    intro n
    induction n with
    | zero => intro y10 H locs ls b_y10 hm hT hS hl; exact absurd hm (Nat.not_lt_zero _)
    | succ n ih =>
      intro y10 H locs ls b_y10 hm hT hS hl
      have ih22_11 := ih
      clear ih
      refine lv_iload hx hb dX10_orderOf_22 (lv_at hl 4 rfl) ?_
      refine lv_bipush (v := 12) hx hb dX10_orderOf_24 (by decide) ?_
      refine lv_icmp_gt (tgt := 107) hx hb dX10_orderOf_26 (by decide) (fun c_12 => ?_) (fun c_12 => ?_)
      · skip
        have c_12 := ni_lt c_12 li_12 rfl
        refine lv_bipush (v := (-3)) hx hb dX10_orderOf_107 (by decide) ?_
        exact tz_retI (B := B_cX10_orderOf_3073c D k h0 h1 h2 h13 h14 h3 h4 h5 h6 h7 h8 h9 h10 h11 h12 x2 h0f2 h0f6 h0f8 h0f11 h2f0 h2f1 h2f2) (v := (-3)) hQ hx hb hr hlocks hS (Nat.le_of_ble_eq_true rfl) (Nat.le_of_ble_eq_true rfl) dX10_orderOf_109 (⟨(by have := li_m3; omega), (hT.sub [0, 1, 4, 2, 3] (by decide) rfl)⟩)
      · skip
        have c_12 := ni_nlt c_12 li_12 rfl
        refine lv_aload_n hx hb dX10_orderOf_29 rfl (lv_at hl 0 rfl) ?_
        refine tz_get (ci := 7) (v := .ref h13) (C := RX10) (F := TX10) (N := 17) hx hb hU iX10 hown hK hT 0 rfl rfl 15 (by decide) w264 (fun _ h9 => h9) rfl dX10_orderOf_30 ?_
        refine lv_aload_n hx hb dX10_orderOf_33 rfl (lv_at hl 0 rfl) ?_
        refine tz_get (ci := 7) (v := .ref h2) (C := RX10) (F := TX10) (N := 17) hx hb hU iX10 hown hK hT 0 rfl rfl 0 (by decide) w249 (fun _ h9 => h9) rfl dX10_orderOf_34 ?_
        refine tz_get (ci := 4) (v := .int h2f0) (C := RX5) (F := TX5) (N := 4) hx hb hU iX5 hown hK hT 4 rfl rfl 0 (by decide) w93 (fun _ h9 => h9) rfl dX10_orderOf_37 ?_
        refine tcI (Tc := [(h13, aJ (k 1) 9 anJ)]) (Tr := [(h0, ob 7 [.ref h2, .ref h3, .int h0f2, .ref h4, .ref h5, .ref h6, .int h0f6, .ref h7, .int h0f8, .ref h8, .ref h9, .int h0f11, .ref h10, .ref h11, .ref h12, .ref h13, .ref h14]), (h1, aJ (k 1) 36 anJ), (h14, aJ (k 1) 9 anJ), (h2, ob 4 [.int h2f0, .int h2f1, .int h2f2, .ref h1])]) (as := [h13]) (zcS (As := [.ref h13, .int h2f0]) (rest := []) (Tc := [(h13, aJ (k 1) 9 anJ)]) hx hb hml hown hU hK hT [2] rfl (by decide) (cX7_isOne_2ccf3 l D k _ h13 h2f0 (by omega)) w413 w411 w412 w74 hdX7_isOne ⟨rfl, rfl⟩ ⟨Nat.le_of_ble_eq_true rfl, Nat.le_of_ble_eq_true rfl⟩ rfl hl.1 (Nat.le_of_ble_eq_true rfl) dX10_orderOf_40 ⟨Nat.le_of_ble_eq_true rfl, Nat.le_of_ble_eq_true rfl⟩) hT hS hA [2] [0, 1, 3, 4] rfl rfl rfl (by decide) (by decide) (fun r13 H locs hB J hS => ?_)
        obtain ⟨b_r13, hT1⟩ := hB
        have hT := J _ hT1
        have hT : TP D A [(h0, ob 7 [.ref h2, .ref h3, .int h0f2, .ref h4, .ref h5, .ref h6, .int h0f6, .ref h7, .int h0f8, .ref h8, .ref h9, .int h0f11, .ref h10, .ref h11, .ref h12, .ref h13, .ref h14]), (h1, aJ (k 1) 36 anJ), (h14, aJ (k 1) 9 anJ), (h2, ob 4 [.int h2f0, .int h2f1, .int h2f2, .ref h1]), (h13, aJ (k 1) 9 anJ)] _ := hT
        refine lv_if_eq (tgt := 49) hx hb dX10_orderOf_43 (by decide) (fun c_14 => ?_) (fun c_14 => ?_)
        · skip
          have c_14 := ni_eq c_14 rfl li_0
          refine lv_aload_n hx hb dX10_orderOf_49 rfl (lv_at hl 0 rfl) ?_
          refine tz_get (ci := 7) (v := .ref h13) (C := RX10) (F := TX10) (N := 17) hx hb hU iX10 hown hK hT 0 rfl rfl 15 (by decide) w264 (fun _ h9 => h9) rfl dX10_orderOf_50 ?_
          refine lv_iload_n hx hb dX10_orderOf_53 rfl (lv_at hl 3 rfl) ?_
          refine lv_ldc2 hx hb hown (hU _ w414) dX10_orderOf_54 ?_
          have q_q16 := ll_1000000000
          refine tcI (Tc := [(h13, aJ (k 1) 9 anJ)]) (Tr := [(h0, ob 7 [.ref h2, .ref h3, .int h0f2, .ref h4, .ref h5, .ref h6, .int h0f6, .ref h7, .int h0f8, .ref h8, .ref h9, .int h0f11, .ref h10, .ref h11, .ref h12, .ref h13, .ref h14]), (h1, aJ (k 1) 36 anJ), (h14, aJ (k 1) 9 anJ), (h2, ob 4 [.int h2f0, .int h2f1, .int h2f2, .ref h1])]) (as := [h13]) (zcS (As := [.ref h13, .int r1, .long 1000000000]) (rest := []) (Tc := [(h13, aJ (k 1) 9 anJ)]) hx hb hml hown hU hK hT [4] rfl (by decide) (cX7_isWithin_443ab l D k _ h13 r1 (1000000000) (by omega) (by have := ll_1000000000; omega)) w389 w387 w388 w74 hdX7_isWithin ⟨rfl, rfl⟩ ⟨Nat.le_of_ble_eq_true rfl, Nat.le_of_ble_eq_true rfl⟩ rfl hl.1 (Nat.le_of_ble_eq_true rfl) dX10_orderOf_57 ⟨Nat.le_of_ble_eq_true rfl, Nat.le_of_ble_eq_true rfl⟩) hT hS hA [4] [0, 1, 2, 3] rfl rfl rfl (by decide) (by decide) (fun r15 H locs hB J hS => ?_)
          obtain ⟨b_r15, hT1⟩ := hB
          have hT := J _ hT1
          have hT : TP D A [(h0, ob 7 [.ref h2, .ref h3, .int h0f2, .ref h4, .ref h5, .ref h6, .int h0f6, .ref h7, .int h0f8, .ref h8, .ref h9, .int h0f11, .ref h10, .ref h11, .ref h12, .ref h13, .ref h14]), (h1, aJ (k 1) 36 anJ), (h14, aJ (k 1) 9 anJ), (h2, ob 4 [.int h2f0, .int h2f1, .int h2f2, .ref h1]), (h13, aJ (k 1) 9 anJ)] _ := hT
          refine lv_if_ne (tgt := 66) hx hb dX10_orderOf_60 (by decide) (fun c_17 => ?_) (fun c_17 => ?_)
          · skip
            have c_17 := ni_ne c_17 rfl li_0
            refine lv_aload_n hx hb dX10_orderOf_66 rfl (lv_at hl 0 rfl) ?_
            refine tz_get (ci := 7) (v := .ref h13) (C := RX10) (F := TX10) (N := 17) hx hb hU iX10 hown hK hT 0 rfl rfl 15 (by decide) w264 (fun _ h9 => h9) rfl dX10_orderOf_67 ?_
            refine lv_iconst (v := 0) hx hb dX10_orderOf_70 (by decide) ?_
            refine lv_aload_n hx hb dX10_orderOf_71 rfl (lv_at hl 1 rfl) ?_
            refine lv_iload_n hx hb dX10_orderOf_72 rfl (lv_at hl 2 rfl) ?_
            refine lv_aload_n hx hb dX10_orderOf_73 rfl (lv_at hl 0 rfl) ?_
            refine tz_get (ci := 7) (v := .ref h14) (C := RX10) (F := TX10) (N := 17) hx hb hU iX10 hown hK hT 0 rfl rfl 16 (by decide) w265 (fun _ h9 => h9) rfl dX10_orderOf_74 ?_
            refine lv_aload_n hx hb dX10_orderOf_77 rfl (lv_at hl 0 rfl) ?_
            refine tz_get (ci := 7) (v := .ref h2) (C := RX10) (F := TX10) (N := 17) hx hb hU iX10 hown hK hT 0 rfl rfl 0 (by decide) w249 (fun _ h9 => h9) rfl dX10_orderOf_78 ?_
            refine tz_get (ci := 4) (v := .int h2f0) (C := RX5) (F := TX5) (N := 4) hx hb hU iX5 hown hK hT 3 rfl rfl 0 (by decide) w93 (fun _ h9 => h9) rfl dX10_orderOf_81 ?_
            have q_q19 := li_0
            refine tcV (Tc := [(h13, aJ (k 1) 9 anJ), (h1, aJ (k 1) 36 anJ), (h14, aJ (k 1) 9 anJ)]) (Tr := [(h0, ob 7 [.ref h2, .ref h3, .int h0f2, .ref h4, .ref h5, .ref h6, .int h0f6, .ref h7, .int h0f8, .ref h8, .ref h9, .int h0f11, .ref h10, .ref h11, .ref h12, .ref h13, .ref h14]), (h2, ob 4 [.int h2f0, .int h2f1, .int h2f2, .ref h1])]) (as := [h13, h1, h14]) (zcS (As := [.ref h13, .int 0, .ref h1, .int x2, .ref h14, .int h2f0]) (rest := []) (Tc := [(h13, aJ (k 1) 9 anJ), (h1, aJ (k 1) 36 anJ), (h14, aJ (k 1) 9 anJ)]) hx hb hml hown hU hK hT [4, 1, 2] rfl (by decide) (cX7_multiply_a4f9f l D k _ h13 h1 h14 (0) x2 h2f0 (by have := li_0; omega) (by omega) (by omega)) w363 w361 w362 w74 hdX7_multiply ⟨rfl, rfl⟩ ⟨Nat.le_of_ble_eq_true rfl, Nat.le_of_ble_eq_true rfl⟩ rfl hl.1 (Nat.le_of_ble_eq_true rfl) dX10_orderOf_84 ⟨Nat.le_of_ble_eq_true rfl, Nat.le_of_ble_eq_true rfl⟩) hT hS hA [4, 1, 2] [0, 3] rfl rfl rfl (by decide) (by decide) (fun H locs hB J hS => ?_)
            have hT1 := hB
            have hT := J _ hT1
            have hT : TP D A [(h0, ob 7 [.ref h2, .ref h3, .int h0f2, .ref h4, .ref h5, .ref h6, .int h0f6, .ref h7, .int h0f8, .ref h8, .ref h9, .int h0f11, .ref h10, .ref h11, .ref h12, .ref h13, .ref h14]), (h2, ob 4 [.int h2f0, .int h2f1, .int h2f2, .ref h1]), (h13, aJ (k 1) 9 anJ), (h1, aJ (k 1) 36 anJ), (h14, aJ (k 1) 9 anJ)] _ := hT
            refine lv_aload_n hx hb dX10_orderOf_87 rfl (lv_at hl 0 rfl) ?_
            refine tz_get (ci := 7) (v := .ref h14) (C := RX10) (F := TX10) (N := 17) hx hb hU iX10 hown hK hT 0 rfl rfl 16 (by decide) w265 (fun _ h9 => h9) rfl dX10_orderOf_88 ?_
            refine lv_iconst (v := 0) hx hb dX10_orderOf_91 (by decide) ?_
            refine lv_aload_n hx hb dX10_orderOf_92 rfl (lv_at hl 0 rfl) ?_
            refine tz_get (ci := 7) (v := .ref h13) (C := RX10) (F := TX10) (N := 17) hx hb hU iX10 hown hK hT 0 rfl rfl 15 (by decide) w264 (fun _ h9 => h9) rfl dX10_orderOf_93 ?_
            refine lv_iconst (v := 0) hx hb dX10_orderOf_96 (by decide) ?_
            refine lv_iload_n hx hb dX10_orderOf_97 rfl (lv_at hl 3 rfl) ?_
            refine tz_copyl hx hb (by rw [hml]; exact hl.1.symm) hown hU w410 w348 w347 w75 hK hT hS 4 2 rfl rfl (by have := li_0; omega) (fun _ _ _ _ => trivial) (Nat.le_of_ble_eq_true rfl) (Nat.le_of_ble_eq_true rfl) dX10_orderOf_98 (fun H locs hT hS => ?_)
            obtain ⟨v20, e_v20⟩ : ∃ x : Int32, x = y10 + Int32.ofInt 1 := ⟨_, rfl⟩
            have f_v20 := e_v20.symm
            have e_v20 : v20.toInt = y10.toInt + 1 := ai_add e_v20 rfl (show (Int32.ofInt 1).toInt = 1 from (by decide +kernel)) (by omega)
            refine lv_iinc (v := v20) (lv' := [(4, .int v20), (0, .ref h0), (1, .ref h1), (2, .int x2), (3, .int r1)]) hx hb dX10_orderOf_101 hl (k := 4) rfl f_v20 (by decide) rfl (fun ls hl => ?_)
            refine lv_goto (tgt := 22) hx hb dX10_orderOf_104 (by decide) ?_
            exact ih22_11 v20 _ _ _ (by omega)  (by omega) (hT.sub [0, 3, 2, 4, 1] (by decide) rfl) hS (lv_sub hl [1, 2, 3, 4, 0] rfl)
          · skip
            have c_17 := ni_eq c_17 rfl li_0
            refine lv_bipush (v := (-3)) hx hb dX10_orderOf_63 (by decide) ?_
            exact tz_retI (B := B_cX10_orderOf_3073c D k h0 h1 h2 h13 h14 h3 h4 h5 h6 h7 h8 h9 h10 h11 h12 x2 h0f2 h0f6 h0f8 h0f11 h2f0 h2f1 h2f2) (v := (-3)) hQ hx hb hr hlocks hS (Nat.le_of_ble_eq_true rfl) (Nat.le_of_ble_eq_true rfl) dX10_orderOf_65 (⟨(by have := li_m3; omega), (hT.sub [0, 1, 3, 4, 2] (by decide) rfl)⟩)
        · skip
          have c_14 := ni_ne c_14 rfl li_0
          refine lv_iload hx hb dX10_orderOf_46 (lv_at hl 4 rfl) ?_
          exact tz_retI (B := B_cX10_orderOf_3073c D k h0 h1 h2 h13 h14 h3 h4 h5 h6 h7 h8 h9 h10 h11 h12 x2 h0f2 h0f6 h0f8 h0f11 h2f0 h2f1 h2f2) (v := y10) hQ hx hb hr hlocks hS (Nat.le_of_ble_eq_true rfl) (Nat.le_of_ble_eq_true rfl) dX10_orderOf_48 (⟨(by omega), (hT.sub [0, 1, 3, 4, 2] (by decide) rfl)⟩)
  exact lp22_11 (((-1) * (1 : Int32).toInt + 12 + 1).toNat + 1) (1) _ _ _ (by have := li_1; omega)  (Nat.lt_succ_self _) hT hS (lv_sub hl [2, 3, 4, 1, 0] rfl)
abbrev Rm_cX10_of_7cd83 : Room := { frames := 3, cells := 0, slots := 0, locals := 80 }
abbrev B_cX10_of_7cd83 (D : va_G) (k : Nat → ClassId) (h0 h1 h12 h13 h14 h2 h3 h4 h5 h6 h7 h8 h9 h10 h11 : Nat) (x1 : Int32) (x2 : Int32) (h0f2 : Int32) (h0f6 : Int32) (h0f8 : Int32) (h0f11 : Int32) (h1f0 : Int32) (h1f1 : Int32) (h1f2 : Int32) (A : Nat → Prop) (r : Int32) (H : Heap) : Prop := TP D A [(h0, ob 7 [.ref h1, .ref h2, .int h0f2, .ref h3, .ref h4, .ref h5, .int h0f6, .ref h6, .int h0f8, .ref h7, .ref h8, .int h0f11, .ref h9, .ref h10, .ref h11, .ref h12, .ref h13]), (h1, ob 4 [.int h1f0, .int h1f1, .int h1f2, .ref h14]), (h12, aJ (k 1) 9 anJ), (h13, aJ (k 1) 9 anJ), (h14, aJ (k 1) 36 anJ)] H
set_option maxHeartbeats 4000000 in
set_option maxRecDepth 100000 in
theorem cX10_of_7cd83 (l : Launch) (D : va_G) (k : Nat → ClassId) (sz : Nat) (h0 h1 h12 h13 h14 h2 h3 h4 h5 h6 h7 h8 h9 h10 h11 : Nat) (x1 : Int32) (x2 : Int32) (h0f2 : Int32) (h0f6 : Int32) (h0f8 : Int32) (h0f11 : Int32) (h1f0 : Int32) (h1f1 : Int32) (h1f2 : Int32) (b_h0f2 : 0 ≤ h0f2.toInt ∧ h0f2.toInt ≤ 1) (b_h0f6 : 0 ≤ h0f6.toInt ∧ h0f6.toInt ≤ 1) (b_h0f8 : 0 ≤ h0f8.toInt ∧ h0f8.toInt ≤ 1) (b_h0f11 : 0 ≤ h0f11.toInt ∧ h0f11.toInt ≤ 200) (b_h1f0 : 1 ≤ h1f0.toInt ∧ h1f0.toInt ≤ 3) (b_h1f1 : 0 ≤ h1f1.toInt ∧ h1f1.toInt ≤ 4) : Met l yX10_of (Cond.code yX10_of cX10_of 4 (some .int) :: uw) Rm_cX10_of_7cd83 (pT D k sz [.ref h0, .int x1, .int x2] [(h0, ob 7 [.ref h1, .ref h2, .int h0f2, .ref h3, .ref h4, .ref h5, .int h0f6, .ref h6, .int h0f8, .ref h7, .ref h8, .int h0f11, .ref h9, .ref h10, .ref h11, .ref h12, .ref h13]), (h1, ob 4 [.int h1f0, .int h1f1, .int h1f2, .ref h14]), (h12, aJ (k 1) 9 anJ), (h13, aJ (k 1) 9 anJ), (h14, aJ (k 1) 36 anJ)]) (qI (B_cX10_of_7cd83 D k h0 h1 h12 h13 h14 h2 h3 h4 h5 h6 h7 h8 h9 h10 h11 x1 x2 h0f2 h0f6 h0f8 h0f11 h1f0 h1f1 h1f2 (zA [h0, h1, h12, h13, h14] sz)) (zA [h0, h1, h12, h13, h14] sz)) 0 0 (zA [h0, h1, h12, h13, h14] sz) := by
  refine tz_begin (as := [h0, h1, h12, h13, h14]) (Qc := fun A => qI (B_cX10_of_7cd83 D k h0 h1 h12 h13 h14 h2 h3 h4 h5 h6 h7 h8 h9 h10 h11 x1 x2 h0f2 h0f6 h0f8 h0f11 h1f0 h1f1 h1f2 A) A) (by decide +kernel) rfl (Nat.le_of_ble_eq_true rfl) ?_
  intro p e s m args below meth c ls A Q hx hb hr hml hown hlocks hin hU hK hT hS hA hl hQ
  have hl : lv_has ls 4 [(0, .ref h0), (1, .int x1), (2, .int x2)] := hl
  have hT : TP D A [(h0, ob 7 [.ref h1, .ref h2, .int h0f2, .ref h3, .ref h4, .ref h5, .int h0f6, .ref h6, .int h0f8, .ref h7, .ref h8, .int h0f11, .ref h9, .ref h10, .ref h11, .ref h12, .ref h13]), (h1, ob 4 [.int h1f0, .int h1f1, .int h1f2, .ref h14]), (h12, aJ (k 1) 9 anJ), (h13, aJ (k 1) 9 anJ), (h14, aJ (k 1) 36 anJ)] s.heap := hT
  refine lv_aload_n hx hb dX10_of_0 rfl (lv_at hl 0 rfl) ?_
  refine tz_get (ci := 7) (v := .ref h1) (C := RX10) (F := TX10) (N := 17) hx hb hU iX10 hown hK hT 0 rfl rfl 0 (by decide) w249 (fun _ h9 => h9) rfl dX10_of_1 ?_
  refine lv_iload_n hx hb dX10_of_4 rfl (lv_at hl 1 rfl) ?_
  refine tcI (Tc := [(h1, ob 4 [.int h1f0, .int h1f1, .int h1f2, .ref h14])]) (Tr := [(h0, ob 7 [.ref h1, .ref h2, .int h0f2, .ref h3, .ref h4, .ref h5, .int h0f6, .ref h6, .int h0f8, .ref h7, .ref h8, .int h0f11, .ref h9, .ref h10, .ref h11, .ref h12, .ref h13]), (h12, aJ (k 1) 9 anJ), (h13, aJ (k 1) 9 anJ), (h14, aJ (k 1) 36 anJ)]) (as := [h1]) (zcV (q0 := 1) (ci := 4) (As := [.int x1]) (rest := []) (Tc := [(h1, ob 4 [.int h1f0, .int h1f1, .int h1f2, .ref h14])]) hx hb hml hown hU hK hT rfl rfl [1] rfl (by decide) (cX5_has_64567 l D k _ h1 h14 x1 h1f0 h1f1 h1f2 (by omega) (by omega)) w356 w353 w354 w355 w64 hdX5_has ⟨rfl, rfl⟩ ⟨Nat.le_of_ble_eq_true rfl, Nat.le_of_ble_eq_true rfl⟩ rfl hl.1 (Nat.le_of_ble_eq_true rfl) dX10_of_5 ⟨Nat.le_of_ble_eq_true rfl, Nat.le_of_ble_eq_true rfl⟩) hT hS hA [1] [0, 2, 3, 4] rfl rfl rfl (by decide) (by decide) (fun r1 H locs hB J hS => ?_)
  rcases hB with ⟨rfl, hT1⟩ | ⟨c_2, c_3, rfl, hT1⟩
  · skip
    have hT := J _ hT1
    have hT : TP D A [(h0, ob 7 [.ref h1, .ref h2, .int h0f2, .ref h3, .ref h4, .ref h5, .int h0f6, .ref h6, .int h0f8, .ref h7, .ref h8, .int h0f11, .ref h9, .ref h10, .ref h11, .ref h12, .ref h13]), (h12, aJ (k 1) 9 anJ), (h13, aJ (k 1) 9 anJ), (h14, aJ (k 1) 36 anJ), (h1, ob 4 [.int h1f0, .int h1f1, .int h1f2, .ref h14])] _ := hT
    refine lv_if_eq (tgt := 20) hx hb dX10_of_8 (by decide) (fun _ => ?_) (fun cc => absurd (by decide +kernel) cc)
    refine lv_iconst (v := (-1)) hx hb dX10_of_20 (by decide) ?_
    exact tz_retI (B := B_cX10_of_7cd83 D k h0 h1 h12 h13 h14 h2 h3 h4 h5 h6 h7 h8 h9 h10 h11 x1 x2 h0f2 h0f6 h0f8 h0f11 h1f0 h1f1 h1f2) (v := (-1)) hQ hx hb hr hlocks hS (Nat.le_of_ble_eq_true rfl) (Nat.le_of_ble_eq_true rfl) dX10_of_21 ((hT.sub [0, 4, 1, 2, 3] (by decide) rfl))
  · skip
    have hT := J _ hT1
    have hT : TP D A [(h0, ob 7 [.ref h1, .ref h2, .int h0f2, .ref h3, .ref h4, .ref h5, .int h0f6, .ref h6, .int h0f8, .ref h7, .ref h8, .int h0f11, .ref h9, .ref h10, .ref h11, .ref h12, .ref h13]), (h12, aJ (k 1) 9 anJ), (h13, aJ (k 1) 9 anJ), (h14, aJ (k 1) 36 anJ), (h1, ob 4 [.int h1f0, .int h1f1, .int h1f2, .ref h14])] _ := hT
    refine lv_if_eq (tgt := 20) hx hb dX10_of_8 (by decide) (fun cc => absurd cc (by decide +kernel)) (fun _ => ?_)
    refine lv_iload_n hx hb dX10_of_11 rfl (lv_at hl 2 rfl) ?_
    refine lv_if_lt (tgt := 20) hx hb dX10_of_12 (by decide) (fun c_4 => ?_) (fun c_4 => ?_)
    · skip
      have c_4 := ni_lt c_4 rfl li_0
      refine lv_iconst (v := (-1)) hx hb dX10_of_20 (by decide) ?_
      exact tz_retI (B := B_cX10_of_7cd83 D k h0 h1 h12 h13 h14 h2 h3 h4 h5 h6 h7 h8 h9 h10 h11 x1 x2 h0f2 h0f6 h0f8 h0f11 h1f0 h1f1 h1f2) (v := (-1)) hQ hx hb hr hlocks hS (Nat.le_of_ble_eq_true rfl) (Nat.le_of_ble_eq_true rfl) dX10_of_21 ((hT.sub [0, 4, 1, 2, 3] (by decide) rfl))
    · skip
      have c_4 := ni_nlt c_4 rfl li_0
      refine lv_iload_n hx hb dX10_of_15 rfl (lv_at hl 2 rfl) ?_
      refine lv_iconst (v := 2) hx hb dX10_of_16 (by decide) ?_
      refine lv_icmp_le (tgt := 22) hx hb dX10_of_17 (by decide) (fun c_5 => ?_) (fun c_5 => ?_)
      · skip
        have c_5 := ni_le c_5 rfl li_2
        refine lv_iload_n hx hb dX10_of_22 rfl (lv_at hl 1 rfl) ?_
        refine lv_bipush (v := 9) hx hb dX10_of_23 (by decide) ?_
        refine lv_imul hx hb dX10_of_25 (lv_topi (fun v6 e_v6 => ?_))
        have e_v6 := ai_mul e_v6 rfl li_9 (by omega)
        refine lv_istore_n (lv' := [(3, .int v6), (0, .ref h0), (1, .int x1), (2, .int x2)]) hx hb dX10_of_26 rfl hl (by decide) rfl (fun ls hl => ?_)
        refine lv_iload_n hx hb dX10_of_27 rfl (lv_at hl 3 rfl) ?_
        refine lv_if_ne (tgt := 62) hx hb dX10_of_28 (by decide) (fun c_7 => ?_) (fun c_7 => ?_)
        · skip
          have c_7 := ni_ne c_7 rfl li_0
          refine lv_iload_n hx hb dX10_of_62 rfl (lv_at hl 3 rfl) ?_
          refine lv_iconst (v := 1) hx hb dX10_of_63 (by decide) ?_
          refine lv_icmp_ne (tgt := 91) hx hb dX10_of_64 (by decide) (fun c_8 => ?_) (fun c_8 => ?_)
          · skip
            have c_8 := ni_ne c_8 rfl li_1
            refine lv_aload_n hx hb dX10_of_91 rfl (lv_at hl 1 rfl) ?_
            refine lv_aload_n hx hb dX10_of_92 rfl (lv_at hl 1 rfl) ?_
            refine tz_get (ci := 7) (v := .ref h1) (C := RX10) (F := TX10) (N := 17) hx hb hU iX10 hown hK hT 0 rfl rfl 0 (by decide) w249 (fun _ h9 => h9) rfl dX10_of_93 ?_
            refine tz_get (ci := 4) (v := .ref h14) (C := RX5) (F := TX5) (N := 4) hx hb hU iX5 hown hK hT 4 rfl rfl 3 (by decide) w103 (fun _ h9 => h9) rfl dX10_of_96 ?_
            refine lv_iload_n hx hb dX10_of_99 rfl (lv_at hl 0 rfl) ?_
            refine tcI (Tc := [(h0, ob 7 [.ref h1, .ref h2, .int h0f2, .ref h3, .ref h4, .ref h5, .int h0f6, .ref h6, .int h0f8, .ref h7, .ref h8, .int h0f11, .ref h9, .ref h10, .ref h11, .ref h12, .ref h13]), (h14, aJ (k 1) 36 anJ), (h1, ob 4 [.int h1f0, .int h1f1, .int h1f2, .ref h14]), (h12, aJ (k 1) 9 anJ), (h13, aJ (k 1) 9 anJ)]) (Tr := []) (as := [h0, h14, h1, h12, h13]) (zcV (q0 := 0) (ci := 7) (As := [.ref h14, .int v6]) (rest := []) (Tc := [(h0, ob 7 [.ref h1, .ref h2, .int h0f2, .ref h3, .ref h4, .ref h5, .int h0f6, .ref h6, .int h0f8, .ref h7, .ref h8, .int h0f11, .ref h9, .ref h10, .ref h11, .ref h12, .ref h13]), (h14, aJ (k 1) 36 anJ), (h1, ob 4 [.int h1f0, .int h1f1, .int h1f2, .ref h14]), (h12, aJ (k 1) 9 anJ), (h13, aJ (k 1) 9 anJ)]) hx hb hml hown hU hK hT rfl rfl [0, 3, 4, 1, 2] rfl (by decide) (cX10_orderOf_3073c l D k _ h0 h14 h1 h12 h13 h2 h3 h4 h5 h6 h7 h8 h9 h10 h11 v6 h0f2 h0f6 h0f8 h0f11 h1f0 h1f1 h1f2 (by omega) (by omega) (by omega) (by omega) (by omega) (by omega) (by omega)) w409 w406 w408 w4 w63 hdX10_orderOf ⟨rfl, rfl⟩ ⟨Nat.le_of_ble_eq_true rfl, Nat.le_of_ble_eq_true rfl⟩ rfl hl.1 (Nat.le_of_ble_eq_true rfl) dX10_of_100 ⟨Nat.le_of_ble_eq_true rfl, Nat.le_of_ble_eq_true rfl⟩) hT hS hA [0, 3, 4, 1, 2] [] rfl rfl rfl (by decide) (by decide) (fun r9 H locs hB J hS => ?_)
            obtain ⟨b_r9, hT1⟩ := hB
            have hT := J _ hT1
            have hT : TP D A [(h0, ob 7 [.ref h1, .ref h2, .int h0f2, .ref h3, .ref h4, .ref h5, .int h0f6, .ref h6, .int h0f8, .ref h7, .ref h8, .int h0f11, .ref h9, .ref h10, .ref h11, .ref h12, .ref h13]), (h14, aJ (k 1) 36 anJ), (h1, ob 4 [.int h1f0, .int h1f1, .int h1f2, .ref h14]), (h12, aJ (k 1) 9 anJ), (h13, aJ (k 1) 9 anJ)] _ := hT
            exact tz_retI (B := B_cX10_of_7cd83 D k h0 h1 h12 h13 h14 h2 h3 h4 h5 h6 h7 h8 h9 h10 h11 x1 x2 h0f2 h0f6 h0f8 h0f11 h1f0 h1f1 h1f2) (v := r9) hQ hx hb hr hlocks hS (Nat.le_of_ble_eq_true rfl) (Nat.le_of_ble_eq_true rfl) dX10_of_103 ((hT.sub [0, 2, 3, 4, 1] (by decide) rfl))
          · skip
            have c_8 := ni_eq c_8 rfl li_1
            refine lv_sipush (v := 1000) hx hb dX10_of_67 (by decide) ?_
            refine lv_aload_n hx hb dX10_of_70 rfl (lv_at hl 1 rfl) ?_
            refine tz_get (ci := 7) (v := .ref h1) (C := RX10) (F := TX10) (N := 17) hx hb hU iX10 hown hK hT 0 rfl rfl 0 (by decide) w249 (fun _ h9 => h9) rfl dX10_of_71 ?_
            refine tz_get (ci := 4) (v := .ref h14) (C := RX5) (F := TX5) (N := 4) hx hb hU iX5 hown hK hT 4 rfl rfl 3 (by decide) w103 (fun _ h9 => h9) rfl dX10_of_74 ?_
            refine lv_iload_n hx hb dX10_of_77 rfl (lv_at hl 0 rfl) ?_
            refine lv_aload_n hx hb dX10_of_78 rfl (lv_at hl 1 rfl) ?_
            refine tz_get (ci := 7) (v := .ref h1) (C := RX10) (F := TX10) (N := 17) hx hb hU iX10 hown hK hT 0 rfl rfl 0 (by decide) w249 (fun _ h9 => h9) rfl dX10_of_79 ?_
            refine tz_get (ci := 4) (v := .int h1f0) (C := RX5) (F := TX5) (N := 4) hx hb hU iX5 hown hK hT 4 rfl rfl 0 (by decide) w93 (fun _ h9 => h9) rfl dX10_of_82 ?_
            refine tcL (Tc := [(h14, aJ (k 1) 36 anJ)]) (Tr := [(h0, ob 7 [.ref h1, .ref h2, .int h0f2, .ref h3, .ref h4, .ref h5, .int h0f6, .ref h6, .int h0f8, .ref h7, .ref h8, .int h0f11, .ref h9, .ref h10, .ref h11, .ref h12, .ref h13]), (h12, aJ (k 1) 9 anJ), (h13, aJ (k 1) 9 anJ), (h1, ob 4 [.int h1f0, .int h1f1, .int h1f2, .ref h14])]) (as := [h14]) (zcS (As := [.ref h14, .int v6, .int h1f0]) (rest := [.int 1000]) (Tc := [(h14, aJ (k 1) 36 anJ)]) hx hb hml hown hU hK hT [3] rfl (by decide) (cX7_trace_e2d54 l D k _ h14 v6 h1f0 (by omega) (by omega)) w405 w403 w404 w74 hdX7_trace ⟨rfl, rfl⟩ ⟨Nat.le_of_ble_eq_true rfl, Nat.le_of_ble_eq_true rfl⟩ rfl hl.1 (Nat.le_of_ble_eq_true rfl) dX10_of_85 ⟨Nat.le_of_ble_eq_true rfl, Nat.le_of_ble_eq_true rfl⟩) hT hS hA [3] [0, 1, 2, 4] rfl rfl rfl (by decide) (by decide) (fun r10 H locs hB J hS => ?_)
            have hT1 := hB
            have hT := J _ hT1
            have hT : TP D A [(h0, ob 7 [.ref h1, .ref h2, .int h0f2, .ref h3, .ref h4, .ref h5, .int h0f6, .ref h6, .int h0f8, .ref h7, .ref h8, .int h0f11, .ref h9, .ref h10, .ref h11, .ref h12, .ref h13]), (h12, aJ (k 1) 9 anJ), (h13, aJ (k 1) 9 anJ), (h1, ob 4 [.int h1f0, .int h1f1, .int h1f2, .ref h14]), (h14, aJ (k 1) 36 anJ)] _ := hT
            refine lv_l2i hx hb dX10_of_88 rfl (lv_topi (fun v11 _ => ?_))
            refine lv_iadd hx hb dX10_of_89 (lv_topi (fun v12 e_v12 => ?_))
            exact tz_retI (B := B_cX10_of_7cd83 D k h0 h1 h12 h13 h14 h2 h3 h4 h5 h6 h7 h8 h9 h10 h11 x1 x2 h0f2 h0f6 h0f8 h0f11 h1f0 h1f1 h1f2) (v := v12) hQ hx hb hr hlocks hS (Nat.le_of_ble_eq_true rfl) (Nat.le_of_ble_eq_true rfl) dX10_of_90 ((hT.sub [0, 3, 1, 2, 4] (by decide) rfl))
        · skip
          have c_7 := ni_eq c_7 rfl li_0
          refine lv_sipush (v := 1000) hx hb dX10_of_31 (by decide) ?_
          refine lv_aload_n hx hb dX10_of_34 rfl (lv_at hl 1 rfl) ?_
          refine tz_get (ci := 7) (v := .ref h1) (C := RX10) (F := TX10) (N := 17) hx hb hU iX10 hown hK hT 0 rfl rfl 0 (by decide) w249 (fun _ h9 => h9) rfl dX10_of_35 ?_
          refine tz_get (ci := 4) (v := .ref h14) (C := RX5) (F := TX5) (N := 4) hx hb hU iX5 hown hK hT 4 rfl rfl 3 (by decide) w103 (fun _ h9 => h9) rfl dX10_of_38 ?_
          refine lv_iload_n hx hb dX10_of_41 rfl (lv_at hl 0 rfl) ?_
          refine lv_aload_n hx hb dX10_of_42 rfl (lv_at hl 1 rfl) ?_
          refine tz_get (ci := 7) (v := .ref h1) (C := RX10) (F := TX10) (N := 17) hx hb hU iX10 hown hK hT 0 rfl rfl 0 (by decide) w249 (fun _ h9 => h9) rfl dX10_of_43 ?_
          refine tz_get (ci := 4) (v := .int h1f0) (C := RX5) (F := TX5) (N := 4) hx hb hU iX5 hown hK hT 4 rfl rfl 0 (by decide) w93 (fun _ h9 => h9) rfl dX10_of_46 ?_
          refine lv_aload_n hx hb dX10_of_49 rfl (lv_at hl 1 rfl) ?_
          refine tz_get (ci := 7) (v := .ref h1) (C := RX10) (F := TX10) (N := 17) hx hb hU iX10 hown hK hT 0 rfl rfl 0 (by decide) w249 (fun _ h9 => h9) rfl dX10_of_50 ?_
          refine tz_get (ci := 4) (v := .int h1f0) (C := RX5) (F := TX5) (N := 4) hx hb hU iX5 hown hK hT 4 rfl rfl 0 (by decide) w93 (fun _ h9 => h9) rfl dX10_of_53 ?_
          refine tcL (Tc := [(h14, aJ (k 1) 36 anJ)]) (Tr := [(h0, ob 7 [.ref h1, .ref h2, .int h0f2, .ref h3, .ref h4, .ref h5, .int h0f6, .ref h6, .int h0f8, .ref h7, .ref h8, .int h0f11, .ref h9, .ref h10, .ref h11, .ref h12, .ref h13]), (h12, aJ (k 1) 9 anJ), (h13, aJ (k 1) 9 anJ), (h1, ob 4 [.int h1f0, .int h1f1, .int h1f2, .ref h14])]) (as := [h14]) (zcS (As := [.ref h14, .int v6, .int h1f0, .int h1f0]) (rest := [.int 1000]) (Tc := [(h14, aJ (k 1) 36 anJ)]) hx hb hml hown hU hK hT [3] rfl (by decide) (cX7_determinant_05929 l D k _ h14 v6 h1f0 h1f0 (by omega) (by omega) (by omega)) w372 w402 w371 w74 hdX7_determinant ⟨rfl, rfl⟩ ⟨Nat.le_of_ble_eq_true rfl, Nat.le_of_ble_eq_true rfl⟩ rfl hl.1 (Nat.le_of_ble_eq_true rfl) dX10_of_56 ⟨Nat.le_of_ble_eq_true rfl, Nat.le_of_ble_eq_true rfl⟩) hT hS hA [3] [0, 1, 2, 4] rfl rfl rfl (by decide) (by decide) (fun r13 H locs hB J hS => ?_)
          have hT1 := hB
          have hT := J _ hT1
          have hT : TP D A [(h0, ob 7 [.ref h1, .ref h2, .int h0f2, .ref h3, .ref h4, .ref h5, .int h0f6, .ref h6, .int h0f8, .ref h7, .ref h8, .int h0f11, .ref h9, .ref h10, .ref h11, .ref h12, .ref h13]), (h12, aJ (k 1) 9 anJ), (h13, aJ (k 1) 9 anJ), (h1, ob 4 [.int h1f0, .int h1f1, .int h1f2, .ref h14]), (h14, aJ (k 1) 36 anJ)] _ := hT
          refine lv_l2i hx hb dX10_of_59 rfl (lv_topi (fun v14 _ => ?_))
          refine lv_iadd hx hb dX10_of_60 (lv_topi (fun v15 e_v15 => ?_))
          exact tz_retI (B := B_cX10_of_7cd83 D k h0 h1 h12 h13 h14 h2 h3 h4 h5 h6 h7 h8 h9 h10 h11 x1 x2 h0f2 h0f6 h0f8 h0f11 h1f0 h1f1 h1f2) (v := v15) hQ hx hb hr hlocks hS (Nat.le_of_ble_eq_true rfl) (Nat.le_of_ble_eq_true rfl) dX10_of_61 ((hT.sub [0, 3, 1, 2, 4] (by decide) rfl))
      · skip
        have c_5 := ni_nle c_5 rfl li_2
        refine lv_iconst (v := (-1)) hx hb dX10_of_20 (by decide) ?_
        exact tz_retI (B := B_cX10_of_7cd83 D k h0 h1 h12 h13 h14 h2 h3 h4 h5 h6 h7 h8 h9 h10 h11 x1 x2 h0f2 h0f6 h0f8 h0f11 h1f0 h1f1 h1f2) (v := (-1)) hQ hx hb hr hlocks hS (Nat.le_of_ble_eq_true rfl) (Nat.le_of_ble_eq_true rfl) dX10_of_21 ((hT.sub [0, 4, 1, 2, 3] (by decide) rfl))
abbrev Rm_cX11_clears_b1b4b : Room := { frames := 0, cells := 0, slots := 0, locals := 0 }
abbrev B_cX11_clears_b1b4b (D : va_G) (k : Nat → ClassId) (h0 h1 h2 h3 h4 h5 h6 h7 h8 h9 h10 h11 h12 h13 h14 h15 h16 h17 h18 h19 h20 h21 : Nat) (h0f0 : Int32) (h0f1 : Int32) (h0f2 : Int32) (h0f3 : Int32) (h0f4 : Int32) (h0f5 : Int32) (h0f8 : Int32) (h0f9 : Int32) (h0f17 : Int32) (h0f18 : Int32) (h0f19 : Int32) (h0f24 : Int32) (h0f25 : Int32) (h0f30 : Int32) (h0f31 : Int32) (A : Nat → Prop) (H : Heap) : Prop := TP D A [(h0, ob 8 [.int h0f0, .int h0f1, .int h0f2, .int h0f3, .int h0f4, .int h0f5, .ref h2, .ref h3, .int h0f8, .int h0f9, .ref h4, .ref h5, .ref h1, .ref h6, .ref h7, .ref h8, .ref h9, .int h0f17, .int h0f18, .int h0f19, .ref h10, .ref h11, .ref h12, .ref h13, .int h0f24, .int h0f25, .ref h14, .ref h15, .ref h16, .ref h17, .int h0f30, .int h0f31, .ref h18, .ref h19, .ref h20, .ref h21]), (h1, aJ (k 1) 9 anJ)] H
set_option maxHeartbeats 4000000 in
set_option maxRecDepth 100000 in
theorem cX11_clears_b1b4b (l : Launch) (D : va_G) (k : Nat → ClassId) (sz : Nat) (h0 h1 h2 h3 h4 h5 h6 h7 h8 h9 h10 h11 h12 h13 h14 h15 h16 h17 h18 h19 h20 h21 : Nat) (h0f0 : Int32) (h0f1 : Int32) (h0f2 : Int32) (h0f3 : Int32) (h0f4 : Int32) (h0f5 : Int32) (h0f8 : Int32) (h0f9 : Int32) (h0f17 : Int32) (h0f18 : Int32) (h0f19 : Int32) (h0f24 : Int32) (h0f25 : Int32) (h0f30 : Int32) (h0f31 : Int32) (b_h0f0 : 1 ≤ h0f0.toInt ∧ h0f0.toInt ≤ 3) (b_h0f1 : 0 ≤ h0f1.toInt ∧ h0f1.toInt ≤ 4) (b_h0f3 : 0 ≤ h0f3.toInt ∧ h0f3.toInt ≤ 3) (b_h0f4 : 0 ≤ h0f4.toInt ∧ h0f4.toInt ≤ 4) (b_h0f8 : 0 ≤ h0f8.toInt ∧ h0f8.toInt ≤ 1) (b_h0f9 : 0 ≤ h0f9.toInt ∧ h0f9.toInt ≤ 1) (b_h0f17 : 0 ≤ h0f17.toInt ∧ h0f17.toInt ≤ 120) (b_h0f18 : 0 ≤ h0f18.toInt ∧ h0f18.toInt ≤ 120) (b_h0f19 : 0 ≤ h0f19.toInt ∧ h0f19.toInt ≤ 4) (b_h0f24 : 0 ≤ h0f24.toInt ∧ h0f24.toInt ≤ 100) (b_h0f25 : 0 ≤ h0f25.toInt ∧ h0f25.toInt ≤ 1) (b_h0f30 : 0 ≤ h0f30.toInt ∧ h0f30.toInt ≤ 60) (b_h0f31 : 0 ≤ h0f31.toInt ∧ h0f31.toInt ≤ 1) (i_0 : h0f8.toInt ≤ h0f3.toInt) (i_1 : h0f9.toInt ≤ h0f24.toInt) : Met l yX11_clears (Cond.code yX11_clears cX11_clears 3 none :: uw) Rm_cX11_clears_b1b4b (pT D k sz [.ref h0, .ref h1] [(h0, ob 8 [.int h0f0, .int h0f1, .int h0f2, .int h0f3, .int h0f4, .int h0f5, .ref h2, .ref h3, .int h0f8, .int h0f9, .ref h4, .ref h5, .ref h1, .ref h6, .ref h7, .ref h8, .ref h9, .int h0f17, .int h0f18, .int h0f19, .ref h10, .ref h11, .ref h12, .ref h13, .int h0f24, .int h0f25, .ref h14, .ref h15, .ref h16, .ref h17, .int h0f30, .int h0f31, .ref h18, .ref h19, .ref h20, .ref h21]), (h1, aJ (k 1) 9 anJ)]) (qV (B_cX11_clears_b1b4b D k h0 h1 h2 h3 h4 h5 h6 h7 h8 h9 h10 h11 h12 h13 h14 h15 h16 h17 h18 h19 h20 h21 h0f0 h0f1 h0f2 h0f3 h0f4 h0f5 h0f8 h0f9 h0f17 h0f18 h0f19 h0f24 h0f25 h0f30 h0f31 (zA [h0, h1] sz)) (zA [h0, h1] sz)) 0 0 (zA [h0, h1] sz) := by
  refine tz_begin (as := [h0, h1]) (Qc := fun A => qV (B_cX11_clears_b1b4b D k h0 h1 h2 h3 h4 h5 h6 h7 h8 h9 h10 h11 h12 h13 h14 h15 h16 h17 h18 h19 h20 h21 h0f0 h0f1 h0f2 h0f3 h0f4 h0f5 h0f8 h0f9 h0f17 h0f18 h0f19 h0f24 h0f25 h0f30 h0f31 A) A) (by decide +kernel) rfl (Nat.le_of_ble_eq_true rfl) ?_
  intro p e s m args below meth c ls A Q hx hb hr hml hown hlocks hin hU hK hT hS hA hl hQ
  have hl : lv_has ls 3 [(0, .ref h0), (1, .ref h1)] := hl
  have hT : TP D A [(h0, ob 8 [.int h0f0, .int h0f1, .int h0f2, .int h0f3, .int h0f4, .int h0f5, .ref h2, .ref h3, .int h0f8, .int h0f9, .ref h4, .ref h5, .ref h1, .ref h6, .ref h7, .ref h8, .ref h9, .int h0f17, .int h0f18, .int h0f19, .ref h10, .ref h11, .ref h12, .ref h13, .int h0f24, .int h0f25, .ref h14, .ref h15, .ref h16, .ref h17, .int h0f30, .int h0f31, .ref h18, .ref h19, .ref h20, .ref h21]), (h1, aJ (k 1) 9 anJ)] s.heap := hT
  refine lv_iconst (v := 0) hx hb dX11_clears_0 (by decide) ?_
  refine lv_istore_n (lv' := [(2, .int 0), (0, .ref h0), (1, .ref h1)]) hx hb dX11_clears_1 rfl hl (by decide) rfl (fun ls hl => ?_)
  have lp2_8 : ∀ (n : Nat) (y7 : Int32) (H : Heap) (locs : List Loc) (ls : Array Slot), (0 ≤ y7.toInt ∧ y7.toInt ≤ 9) → ((-1) * y7.toInt + 9 + 1).toNat < n → TP D A [(h0, ob 8 [.int h0f0, .int h0f1, .int h0f2, .int h0f3, .int h0f4, .int h0f5, .ref h2, .ref h3, .int h0f8, .int h0f9, .ref h4, .ref h5, .ref h1, .ref h6, .ref h7, .ref h8, .ref h9, .int h0f17, .int h0f18, .int h0f19, .ref h10, .ref h11, .ref h12, .ref h13, .int h0f24, .int h0f25, .ref h14, .ref h15, .ref h16, .ref h17, .int h0f30, .int h0f31, .ref h18, .ref h19, .ref h20, .ref h21]), (h1, aJ (k 1) 9 anJ)] H → va_S A s.heap H locs → lv_has ls 3 [(1, .ref h1), (2, .int y7)] → W p l e Rm_cX11_clears_b1b4b s m args below meth c H locs 0 0 Q (F0 m 2 ls []) := by
    intro n
    induction n with
    | zero => intro y7 H locs ls b_y7 hm hT hS hl; exact absurd hm (Nat.not_lt_zero _)
    | succ n ih =>
      intro y7 H locs ls b_y7 hm hT hS hl
      have ih2_8 := ih
      clear ih
      refine lv_iload_n hx hb dX11_clears_2 rfl (lv_at hl 1 rfl) ?_
      refine lv_bipush (v := 9) hx hb dX11_clears_3 (by decide) ?_
      refine lv_icmp_ge (tgt := 18) hx hb dX11_clears_5 (by decide) (fun c_9 => ?_) (fun c_9 => ?_)
      · skip
        have c_9 := ni_le c_9 li_9 rfl
        exact tz_retV (B := B_cX11_clears_b1b4b D k h0 h1 h2 h3 h4 h5 h6 h7 h8 h9 h10 h11 h12 h13 h14 h15 h16 h17 h18 h19 h20 h21 h0f0 h0f1 h0f2 h0f3 h0f4 h0f5 h0f8 h0f9 h0f17 h0f18 h0f19 h0f24 h0f25 h0f30 h0f31) hQ hx hb hr hlocks hS (Nat.le_of_ble_eq_true rfl) (Nat.le_of_ble_eq_true rfl) dX11_clears_18 (hT)
      · skip
        have c_9 := ni_nle c_9 li_9 rfl
        refine lv_aload_n hx hb dX11_clears_8 rfl (lv_at hl 0 rfl) ?_
        refine lv_iload_n hx hb dX11_clears_9 rfl (lv_at hl 1 rfl) ?_
        refine lv_lconst (v := 0) hx hb dX11_clears_10 (by decide) ?_
        refine tz_last hx hb hK hT hS 1 rfl (by omega) (fun _ _ => trivial) dX11_clears_11 (fun H locs hT hS => ?_)
        obtain ⟨v10, e_v10⟩ : ∃ x : Int32, x = y7 + Int32.ofInt 1 := ⟨_, rfl⟩
        have f_v10 := e_v10.symm
        have e_v10 : v10.toInt = y7.toInt + 1 := ai_add e_v10 rfl (show (Int32.ofInt 1).toInt = 1 from (by decide +kernel)) (by omega)
        refine lv_iinc (v := v10) (lv' := [(2, .int v10), (1, .ref h1)]) hx hb dX11_clears_12 hl (k := 1) rfl f_v10 (by decide) rfl (fun ls hl => ?_)
        refine lv_goto (tgt := 2) hx hb dX11_clears_15 (by decide) ?_
        exact ih2_8 v10 _ _ _ (by omega)  (by omega) hT hS (lv_sub hl [1, 0] rfl)
  exact lp2_8 (((-1) * (0 : Int32).toInt + 9 + 1).toNat + 1) (0) _ _ _ (by have := li_0; omega)  (Nat.lt_succ_self _) hT hS (lv_sub hl [2, 0] rfl)
abbrev Rm_cX11_first_2048a : Room := { frames := 1, cells := 0, slots := 0, locals := 22 }
abbrev B_cX11_first_2048a (D : va_G) (k : Nat → ClassId) (h0 h1 h2 h3 h4 h5 h6 h7 h8 h9 h10 h11 h12 h13 h14 h15 h16 h17 h18 h19 h20 h21 : Nat) (h0f0 : Int32) (h0f1 : Int32) (h0f2 : Int32) (h0f3 : Int32) (h0f4 : Int32) (h0f5 : Int32) (h0f8 : Int32) (h0f9 : Int32) (h0f17 : Int32) (h0f18 : Int32) (h0f19 : Int32) (h0f24 : Int32) (h0f25 : Int32) (h0f30 : Int32) (h0f31 : Int32) (A : Nat → Prop) (H : Heap) : Prop := TP D A [(h0, ob 8 [.int h0f0, .int h0f1, .int h0f2, .int h0f3, .int h0f4, .int h0f5, .ref h2, .ref h3, .int h0f8, .int h0f9, .ref h4, .ref h5, .ref h1, .ref h6, .ref h7, .ref h8, .ref h9, .int h0f17, .int h0f18, .int h0f19, .ref h10, .ref h11, .ref h12, .ref h13, .int h0f24, .int h0f25, .ref h14, .ref h15, .ref h16, .ref h17, .int h0f30, .int h0f31, .ref h18, .ref h19, .ref h20, .ref h21]), (h1, aJ (k 1) 9 anJ)] H
set_option maxHeartbeats 4000000 in
set_option maxRecDepth 100000 in
theorem cX11_first_2048a (l : Launch) (D : va_G) (k : Nat → ClassId) (sz : Nat) (h0 h1 h2 h3 h4 h5 h6 h7 h8 h9 h10 h11 h12 h13 h14 h15 h16 h17 h18 h19 h20 h21 : Nat) (h0f0 : Int32) (h0f1 : Int32) (h0f2 : Int32) (h0f3 : Int32) (h0f4 : Int32) (h0f5 : Int32) (h0f8 : Int32) (h0f9 : Int32) (h0f17 : Int32) (h0f18 : Int32) (h0f19 : Int32) (h0f24 : Int32) (h0f25 : Int32) (h0f30 : Int32) (h0f31 : Int32) (b_h0f0 : 1 ≤ h0f0.toInt ∧ h0f0.toInt ≤ 3) (b_h0f1 : 0 ≤ h0f1.toInt ∧ h0f1.toInt ≤ 4) (b_h0f3 : 0 ≤ h0f3.toInt ∧ h0f3.toInt ≤ 3) (b_h0f4 : 0 ≤ h0f4.toInt ∧ h0f4.toInt ≤ 4) (b_h0f8 : 0 ≤ h0f8.toInt ∧ h0f8.toInt ≤ 1) (b_h0f9 : 0 ≤ h0f9.toInt ∧ h0f9.toInt ≤ 1) (b_h0f17 : 0 ≤ h0f17.toInt ∧ h0f17.toInt ≤ 120) (b_h0f18 : 0 ≤ h0f18.toInt ∧ h0f18.toInt ≤ 120) (b_h0f19 : 0 ≤ h0f19.toInt ∧ h0f19.toInt ≤ 4) (b_h0f24 : 0 ≤ h0f24.toInt ∧ h0f24.toInt ≤ 100) (b_h0f25 : 0 ≤ h0f25.toInt ∧ h0f25.toInt ≤ 1) (b_h0f30 : 0 ≤ h0f30.toInt ∧ h0f30.toInt ≤ 60) (b_h0f31 : 0 ≤ h0f31.toInt ∧ h0f31.toInt ≤ 1) (i_0 : h0f8.toInt ≤ h0f3.toInt) (i_1 : h0f9.toInt ≤ h0f24.toInt) : Met l yX11_first (Cond.code yX11_first cX11_first 3 none :: uw) Rm_cX11_first_2048a (pT D k sz [.ref h0, .ref h1] [(h0, ob 8 [.int h0f0, .int h0f1, .int h0f2, .int h0f3, .int h0f4, .int h0f5, .ref h2, .ref h3, .int h0f8, .int h0f9, .ref h4, .ref h5, .ref h1, .ref h6, .ref h7, .ref h8, .ref h9, .int h0f17, .int h0f18, .int h0f19, .ref h10, .ref h11, .ref h12, .ref h13, .int h0f24, .int h0f25, .ref h14, .ref h15, .ref h16, .ref h17, .int h0f30, .int h0f31, .ref h18, .ref h19, .ref h20, .ref h21]), (h1, aJ (k 1) 9 anJ)]) (qV (B_cX11_first_2048a D k h0 h1 h2 h3 h4 h5 h6 h7 h8 h9 h10 h11 h12 h13 h14 h15 h16 h17 h18 h19 h20 h21 h0f0 h0f1 h0f2 h0f3 h0f4 h0f5 h0f8 h0f9 h0f17 h0f18 h0f19 h0f24 h0f25 h0f30 h0f31 (zA [h0, h1] sz)) (zA [h0, h1] sz)) 0 0 (zA [h0, h1] sz) := by
  refine tz_begin (as := [h0, h1]) (Qc := fun A => qV (B_cX11_first_2048a D k h0 h1 h2 h3 h4 h5 h6 h7 h8 h9 h10 h11 h12 h13 h14 h15 h16 h17 h18 h19 h20 h21 h0f0 h0f1 h0f2 h0f3 h0f4 h0f5 h0f8 h0f9 h0f17 h0f18 h0f19 h0f24 h0f25 h0f30 h0f31 A) A) (by decide +kernel) rfl (Nat.le_of_ble_eq_true rfl) ?_
  intro p e s m args below meth c ls A Q hx hb hr hml hown hlocks hin hU hK hT hS hA hl hQ
  have hl : lv_has ls 3 [(0, .ref h0), (1, .ref h1)] := hl
  have hT : TP D A [(h0, ob 8 [.int h0f0, .int h0f1, .int h0f2, .int h0f3, .int h0f4, .int h0f5, .ref h2, .ref h3, .int h0f8, .int h0f9, .ref h4, .ref h5, .ref h1, .ref h6, .ref h7, .ref h8, .ref h9, .int h0f17, .int h0f18, .int h0f19, .ref h10, .ref h11, .ref h12, .ref h13, .int h0f24, .int h0f25, .ref h14, .ref h15, .ref h16, .ref h17, .int h0f30, .int h0f31, .ref h18, .ref h19, .ref h20, .ref h21]), (h1, aJ (k 1) 9 anJ)] s.heap := hT
  refine lv_aload_n hx hb dX11_first_0 rfl (lv_at hl 0 rfl) ?_
  refine lv_aload_n hx hb dX11_first_1 rfl (lv_at hl 1 rfl) ?_
  refine tcV (Tc := [(h0, ob 8 [.int h0f0, .int h0f1, .int h0f2, .int h0f3, .int h0f4, .int h0f5, .ref h2, .ref h3, .int h0f8, .int h0f9, .ref h4, .ref h5, .ref h1, .ref h6, .ref h7, .ref h8, .ref h9, .int h0f17, .int h0f18, .int h0f19, .ref h10, .ref h11, .ref h12, .ref h13, .int h0f24, .int h0f25, .ref h14, .ref h15, .ref h16, .ref h17, .int h0f30, .int h0f31, .ref h18, .ref h19, .ref h20, .ref h21]), (h1, aJ (k 1) 9 anJ)]) (Tr := []) (as := [h0, h1]) (zcV (q0 := 0) (ci := 8) (As := [.ref h1]) (rest := []) (Tc := [(h0, ob 8 [.int h0f0, .int h0f1, .int h0f2, .int h0f3, .int h0f4, .int h0f5, .ref h2, .ref h3, .int h0f8, .int h0f9, .ref h4, .ref h5, .ref h1, .ref h6, .ref h7, .ref h8, .ref h9, .int h0f17, .int h0f18, .int h0f19, .ref h10, .ref h11, .ref h12, .ref h13, .int h0f24, .int h0f25, .ref h14, .ref h15, .ref h16, .ref h17, .int h0f30, .int h0f31, .ref h18, .ref h19, .ref h20, .ref h21]), (h1, aJ (k 1) 9 anJ)]) hx hb hml hown hU hK hT rfl rfl [0, 1] rfl (by decide) (cX11_clears_b1b4b l D k _ h0 h1 h2 h3 h4 h5 h6 h7 h8 h9 h10 h11 h12 h13 h14 h15 h16 h17 h18 h19 h20 h21 h0f0 h0f1 h0f2 h0f3 h0f4 h0f5 h0f8 h0f9 h0f17 h0f18 h0f19 h0f24 h0f25 h0f30 h0f31 (by omega) (by omega) (by omega) (by omega) (by omega) (by omega) (by omega) (by omega) (by omega) (by omega) (by omega) (by omega) (by omega) (by omega) (by omega)) w923 w920 w922 w29 w72 hdX11_clears ⟨rfl, rfl⟩ ⟨Nat.le_of_ble_eq_true rfl, Nat.le_of_ble_eq_true rfl⟩ rfl hl.1 (Nat.le_of_ble_eq_true rfl) dX11_first_2 ⟨Nat.le_of_ble_eq_true rfl, Nat.le_of_ble_eq_true rfl⟩) hT hS hA [0, 1] [] rfl rfl rfl (by decide) (by decide) (fun H locs hB J hS => ?_)
  have hT1 := hB
  have hT := J _ hT1
  have hT : TP D A [(h0, ob 8 [.int h0f0, .int h0f1, .int h0f2, .int h0f3, .int h0f4, .int h0f5, .ref h2, .ref h3, .int h0f8, .int h0f9, .ref h4, .ref h5, .ref h1, .ref h6, .ref h7, .ref h8, .ref h9, .int h0f17, .int h0f18, .int h0f19, .ref h10, .ref h11, .ref h12, .ref h13, .int h0f24, .int h0f25, .ref h14, .ref h15, .ref h16, .ref h17, .int h0f30, .int h0f31, .ref h18, .ref h19, .ref h20, .ref h21]), (h1, aJ (k 1) 9 anJ)] _ := hT
  refine lv_iconst (v := 0) hx hb dX11_first_5 (by decide) ?_
  refine lv_istore_n (lv' := [(2, .int 0), (0, .ref h0), (1, .ref h1)]) hx hb dX11_first_6 rfl hl (by decide) rfl (fun ls hl => ?_)
  have lp7_5 : ∀ (n : Nat) (y4 : Int32) (H : Heap) (locs : List Loc) (ls : Array Slot), (0 ≤ y4.toInt ∧ y4.toInt ≤ 3) → (h0f0.toInt + (-1) * y4.toInt + 1).toNat < n → TP D A [(h0, ob 8 [.int h0f0, .int h0f1, .int h0f2, .int h0f3, .int h0f4, .int h0f5, .ref h2, .ref h3, .int h0f8, .int h0f9, .ref h4, .ref h5, .ref h1, .ref h6, .ref h7, .ref h8, .ref h9, .int h0f17, .int h0f18, .int h0f19, .ref h10, .ref h11, .ref h12, .ref h13, .int h0f24, .int h0f25, .ref h14, .ref h15, .ref h16, .ref h17, .int h0f30, .int h0f31, .ref h18, .ref h19, .ref h20, .ref h21]), (h1, aJ (k 1) 9 anJ)] H → va_S A s.heap H locs → lv_has ls 3 [(0, .ref h0), (1, .ref h1), (2, .int y4)] → W p l e Rm_cX11_first_2048a s m args below meth c H locs 0 0 Q (F0 m 7 ls []) := by
    intro n
    induction n with
    | zero => intro y4 H locs ls b_y4 hm hT hS hl; exact absurd hm (Nat.not_lt_zero _)
    | succ n ih =>
      intro y4 H locs ls b_y4 hm hT hS hl
      have ih7_5 := ih
      clear ih
      refine lv_iload_n hx hb dX11_first_7 rfl (lv_at hl 2 rfl) ?_
      refine lv_aload_n hx hb dX11_first_8 rfl (lv_at hl 0 rfl) ?_
      refine tz_get (ci := 8) (v := .int h0f0) (C := RX11) (F := TX11) (N := 36) hx hb hU iX11 hown hK hT 0 rfl rfl 0 (by decide) w785 (fun _ h9 => h9) rfl dX11_first_9 ?_
      refine lv_icmp_ge (tgt := 27) hx hb dX11_first_12 (by decide) (fun c_6 => ?_) (fun c_6 => ?_)
      · skip
        have c_6 := ni_le c_6 rfl rfl
        exact tz_retV (B := B_cX11_first_2048a D k h0 h1 h2 h3 h4 h5 h6 h7 h8 h9 h10 h11 h12 h13 h14 h15 h16 h17 h18 h19 h20 h21 h0f0 h0f1 h0f2 h0f3 h0f4 h0f5 h0f8 h0f9 h0f17 h0f18 h0f19 h0f24 h0f25 h0f30 h0f31) hQ hx hb hr hlocks hS (Nat.le_of_ble_eq_true rfl) (Nat.le_of_ble_eq_true rfl) dX11_first_27 (hT)
      · skip
        have c_6 := ni_nle c_6 rfl rfl
        refine lv_aload_n hx hb dX11_first_15 rfl (lv_at hl 1 rfl) ?_
        refine lv_iconst (v := 4) hx hb dX11_first_16 (by decide) ?_
        refine lv_iload_n hx hb dX11_first_17 rfl (lv_at hl 2 rfl) ?_
        refine lv_imul hx hb dX11_first_18 (lv_topi (fun v7 e_v7 => ?_))
        have e_v7 := ai_mul e_v7 li_4 rfl (by omega)
        refine lv_lconst (v := 1) hx hb dX11_first_19 (by decide) ?_
        refine tz_last hx hb hK hT hS 1 rfl (by omega) (fun _ _ => trivial) dX11_first_20 (fun H locs hT hS => ?_)
        obtain ⟨v8, e_v8⟩ : ∃ x : Int32, x = y4 + Int32.ofInt 1 := ⟨_, rfl⟩
        have f_v8 := e_v8.symm
        have e_v8 : v8.toInt = y4.toInt + 1 := ai_add e_v8 rfl (show (Int32.ofInt 1).toInt = 1 from (by decide +kernel)) (by omega)
        refine lv_iinc (v := v8) (lv' := [(2, .int v8), (0, .ref h0), (1, .ref h1)]) hx hb dX11_first_21 hl (k := 2) rfl f_v8 (by decide) rfl (fun ls hl => ?_)
        refine lv_goto (tgt := 7) hx hb dX11_first_24 (by decide) ?_
        exact ih7_5 v8 _ _ _ (by omega)  (by omega) hT hS (lv_sub hl [1, 2, 0] rfl)
  exact lp7_5 ((h0f0.toInt + (-1) * (0 : Int32).toInt + 1).toNat + 1) (0) _ _ _ (by have := li_0; omega)  (Nat.lt_succ_self _) hT hS (lv_sub hl [1, 2, 0] rfl)
abbrev Rm_cX11_times_2393c : Room := { frames := 1, cells := 0, slots := 0, locals := 22 }
abbrev B_cX11_times_2393c (D : va_G) (k : Nat → ClassId) (h0 h1 h2 h3 h4 h5 h6 h7 h8 h9 h10 h11 h12 h13 h14 h15 h16 h17 h18 h19 h20 h21 : Nat) (h0f0 : Int32) (h0f1 : Int32) (h0f2 : Int32) (h0f3 : Int32) (h0f4 : Int32) (h0f5 : Int32) (h0f8 : Int32) (h0f9 : Int32) (h0f17 : Int32) (h0f18 : Int32) (h0f19 : Int32) (h0f24 : Int32) (h0f25 : Int32) (h0f30 : Int32) (h0f31 : Int32) (A : Nat → Prop) (H : Heap) : Prop := TP D A [(h0, ob 8 [.int h0f0, .int h0f1, .int h0f2, .int h0f3, .int h0f4, .int h0f5, .ref h4, .ref h5, .int h0f8, .int h0f9, .ref h3, .ref h2, .ref h1, .ref h6, .ref h7, .ref h8, .ref h9, .int h0f17, .int h0f18, .int h0f19, .ref h10, .ref h11, .ref h12, .ref h13, .int h0f24, .int h0f25, .ref h14, .ref h15, .ref h16, .ref h17, .int h0f30, .int h0f31, .ref h18, .ref h19, .ref h20, .ref h21]), (h1, aJ (k 1) 9 anJ), (h2, aJ (k 1) 9 anJ), (h3, aJ (k 1) 9 anJ)] H
set_option maxHeartbeats 4000000 in
set_option maxRecDepth 100000 in
theorem cX11_times_2393c (l : Launch) (D : va_G) (k : Nat → ClassId) (sz : Nat) (h0 h1 h2 h3 h4 h5 h6 h7 h8 h9 h10 h11 h12 h13 h14 h15 h16 h17 h18 h19 h20 h21 : Nat) (h0f0 : Int32) (h0f1 : Int32) (h0f2 : Int32) (h0f3 : Int32) (h0f4 : Int32) (h0f5 : Int32) (h0f8 : Int32) (h0f9 : Int32) (h0f17 : Int32) (h0f18 : Int32) (h0f19 : Int32) (h0f24 : Int32) (h0f25 : Int32) (h0f30 : Int32) (h0f31 : Int32) (b_h0f0 : 1 ≤ h0f0.toInt ∧ h0f0.toInt ≤ 3) (b_h0f1 : 0 ≤ h0f1.toInt ∧ h0f1.toInt ≤ 4) (b_h0f3 : 0 ≤ h0f3.toInt ∧ h0f3.toInt ≤ 3) (b_h0f4 : 0 ≤ h0f4.toInt ∧ h0f4.toInt ≤ 4) (b_h0f8 : 0 ≤ h0f8.toInt ∧ h0f8.toInt ≤ 1) (b_h0f9 : 0 ≤ h0f9.toInt ∧ h0f9.toInt ≤ 1) (b_h0f17 : 0 ≤ h0f17.toInt ∧ h0f17.toInt ≤ 120) (b_h0f18 : 0 ≤ h0f18.toInt ∧ h0f18.toInt ≤ 120) (b_h0f19 : 0 ≤ h0f19.toInt ∧ h0f19.toInt ≤ 4) (b_h0f24 : 0 ≤ h0f24.toInt ∧ h0f24.toInt ≤ 100) (b_h0f25 : 0 ≤ h0f25.toInt ∧ h0f25.toInt ≤ 1) (b_h0f30 : 0 ≤ h0f30.toInt ∧ h0f30.toInt ≤ 60) (b_h0f31 : 0 ≤ h0f31.toInt ∧ h0f31.toInt ≤ 1) (i_0 : h0f8.toInt ≤ h0f3.toInt) (i_1 : h0f9.toInt ≤ h0f24.toInt) : Met l yX11_times (Cond.code yX11_times cX11_times 7 none :: uw) Rm_cX11_times_2393c (pT D k sz [.ref h0, .ref h1, .ref h2, .ref h3] [(h0, ob 8 [.int h0f0, .int h0f1, .int h0f2, .int h0f3, .int h0f4, .int h0f5, .ref h4, .ref h5, .int h0f8, .int h0f9, .ref h3, .ref h2, .ref h1, .ref h6, .ref h7, .ref h8, .ref h9, .int h0f17, .int h0f18, .int h0f19, .ref h10, .ref h11, .ref h12, .ref h13, .int h0f24, .int h0f25, .ref h14, .ref h15, .ref h16, .ref h17, .int h0f30, .int h0f31, .ref h18, .ref h19, .ref h20, .ref h21]), (h1, aJ (k 1) 9 anJ), (h2, aJ (k 1) 9 anJ), (h3, aJ (k 1) 9 anJ)]) (qV (B_cX11_times_2393c D k h0 h1 h2 h3 h4 h5 h6 h7 h8 h9 h10 h11 h12 h13 h14 h15 h16 h17 h18 h19 h20 h21 h0f0 h0f1 h0f2 h0f3 h0f4 h0f5 h0f8 h0f9 h0f17 h0f18 h0f19 h0f24 h0f25 h0f30 h0f31 (zA [h0, h1, h2, h3] sz)) (zA [h0, h1, h2, h3] sz)) 0 0 (zA [h0, h1, h2, h3] sz) := by
  refine tz_begin (as := [h0, h1, h2, h3]) (Qc := fun A => qV (B_cX11_times_2393c D k h0 h1 h2 h3 h4 h5 h6 h7 h8 h9 h10 h11 h12 h13 h14 h15 h16 h17 h18 h19 h20 h21 h0f0 h0f1 h0f2 h0f3 h0f4 h0f5 h0f8 h0f9 h0f17 h0f18 h0f19 h0f24 h0f25 h0f30 h0f31 A) A) (by decide +kernel) rfl (Nat.le_of_ble_eq_true rfl) ?_
  intro p e s m args below meth c ls A Q hx hb hr hml hown hlocks hin hU hK hT hS hA hl hQ
  have hl : lv_has ls 7 [(0, .ref h0), (1, .ref h1), (2, .ref h2), (3, .ref h3)] := hl
  have hT : TP D A [(h0, ob 8 [.int h0f0, .int h0f1, .int h0f2, .int h0f3, .int h0f4, .int h0f5, .ref h4, .ref h5, .int h0f8, .int h0f9, .ref h3, .ref h2, .ref h1, .ref h6, .ref h7, .ref h8, .ref h9, .int h0f17, .int h0f18, .int h0f19, .ref h10, .ref h11, .ref h12, .ref h13, .int h0f24, .int h0f25, .ref h14, .ref h15, .ref h16, .ref h17, .int h0f30, .int h0f31, .ref h18, .ref h19, .ref h20, .ref h21]), (h1, aJ (k 1) 9 anJ), (h2, aJ (k 1) 9 anJ), (h3, aJ (k 1) 9 anJ)] s.heap := hT
  refine lv_aload_n hx hb dX11_times_0 rfl (lv_at hl 0 rfl) ?_
  refine lv_aload_n hx hb dX11_times_1 rfl (lv_at hl 3 rfl) ?_
  refine tcV (Tc := [(h0, ob 8 [.int h0f0, .int h0f1, .int h0f2, .int h0f3, .int h0f4, .int h0f5, .ref h4, .ref h5, .int h0f8, .int h0f9, .ref h3, .ref h2, .ref h1, .ref h6, .ref h7, .ref h8, .ref h9, .int h0f17, .int h0f18, .int h0f19, .ref h10, .ref h11, .ref h12, .ref h13, .int h0f24, .int h0f25, .ref h14, .ref h15, .ref h16, .ref h17, .int h0f30, .int h0f31, .ref h18, .ref h19, .ref h20, .ref h21]), (h3, aJ (k 1) 9 anJ)]) (Tr := [(h1, aJ (k 1) 9 anJ), (h2, aJ (k 1) 9 anJ)]) (as := [h0, h3]) (zcV (q0 := 0) (ci := 8) (As := [.ref h3]) (rest := []) (Tc := [(h0, ob 8 [.int h0f0, .int h0f1, .int h0f2, .int h0f3, .int h0f4, .int h0f5, .ref h4, .ref h5, .int h0f8, .int h0f9, .ref h3, .ref h2, .ref h1, .ref h6, .ref h7, .ref h8, .ref h9, .int h0f17, .int h0f18, .int h0f19, .ref h10, .ref h11, .ref h12, .ref h13, .int h0f24, .int h0f25, .ref h14, .ref h15, .ref h16, .ref h17, .int h0f30, .int h0f31, .ref h18, .ref h19, .ref h20, .ref h21]), (h3, aJ (k 1) 9 anJ)]) hx hb hml hown hU hK hT rfl rfl [0, 3] rfl (by decide) (cX11_clears_d395b l D k _ h0 h3 h4 h5 h2 h1 h6 h7 h8 h9 h10 h11 h12 h13 h14 h15 h16 h17 h18 h19 h20 h21 h0f0 h0f1 h0f2 h0f3 h0f4 h0f5 h0f8 h0f9 h0f17 h0f18 h0f19 h0f24 h0f25 h0f30 h0f31 (by omega) (by omega) (by omega) (by omega) (by omega) (by omega) (by omega) (by omega) (by omega) (by omega) (by omega) (by omega) (by omega) (by omega) (by omega)) w923 w920 w922 w29 w72 hdX11_clears ⟨rfl, rfl⟩ ⟨Nat.le_of_ble_eq_true rfl, Nat.le_of_ble_eq_true rfl⟩ rfl hl.1 (Nat.le_of_ble_eq_true rfl) dX11_times_2 ⟨Nat.le_of_ble_eq_true rfl, Nat.le_of_ble_eq_true rfl⟩) hT hS hA [0, 3] [1, 2] rfl rfl rfl (by decide) (by decide) (fun H locs hB J hS => ?_)
  have hT1 := hB
  have hT := J _ hT1
  have hT : TP D A [(h1, aJ (k 1) 9 anJ), (h2, aJ (k 1) 9 anJ), (h0, ob 8 [.int h0f0, .int h0f1, .int h0f2, .int h0f3, .int h0f4, .int h0f5, .ref h4, .ref h5, .int h0f8, .int h0f9, .ref h3, .ref h2, .ref h1, .ref h6, .ref h7, .ref h8, .ref h9, .int h0f17, .int h0f18, .int h0f19, .ref h10, .ref h11, .ref h12, .ref h13, .int h0f24, .int h0f25, .ref h14, .ref h15, .ref h16, .ref h17, .int h0f30, .int h0f31, .ref h18, .ref h19, .ref h20, .ref h21]), (h3, aJ (k 1) 9 anJ)] _ := hT
  refine lv_iconst (v := 0) hx hb dX11_times_5 (by decide) ?_
  refine lv_istore (lv' := [(4, .int 0), (0, .ref h0), (1, .ref h1), (2, .ref h2), (3, .ref h3)]) hx hb dX11_times_6 hl (by decide) rfl (fun ls hl => ?_)
  have lp8_5 : ∀ (n : Nat) (y4 : Int32) (H : Heap) (locs : List Loc) (ls : Array Slot), (0 ≤ y4.toInt ∧ y4.toInt ≤ 3) → (h0f0.toInt + (-1) * y4.toInt + 1).toNat < n → TP D A [(h1, aJ (k 1) 9 anJ), (h2, aJ (k 1) 9 anJ), (h0, ob 8 [.int h0f0, .int h0f1, .int h0f2, .int h0f3, .int h0f4, .int h0f5, .ref h4, .ref h5, .int h0f8, .int h0f9, .ref h3, .ref h2, .ref h1, .ref h6, .ref h7, .ref h8, .ref h9, .int h0f17, .int h0f18, .int h0f19, .ref h10, .ref h11, .ref h12, .ref h13, .int h0f24, .int h0f25, .ref h14, .ref h15, .ref h16, .ref h17, .int h0f30, .int h0f31, .ref h18, .ref h19, .ref h20, .ref h21]), (h3, aJ (k 1) 9 anJ)] H → va_S A s.heap H locs → lv_has ls 7 [(0, .ref h0), (1, .ref h1), (2, .ref h2), (3, .ref h3), (4, .int y4)] → W p l e Rm_cX11_times_2393c s m args below meth c H locs 0 0 Q (F0 m 8 ls []) := by
    intro n
    induction n with
    | zero => intro y4 H locs ls b_y4 hm hT hS hl; exact absurd hm (Nat.not_lt_zero _)
    | succ n ih =>
      intro y4 H locs ls b_y4 hm hT hS hl
      have ih8_5 := ih
      clear ih
      refine lv_iload hx hb dX11_times_8 (lv_at hl 4 rfl) ?_
      refine lv_aload_n hx hb dX11_times_10 rfl (lv_at hl 0 rfl) ?_
      refine tz_get (ci := 8) (v := .int h0f0) (C := RX11) (F := TX11) (N := 36) hx hb hU iX11 hown hK hT 2 rfl rfl 0 (by decide) w785 (fun _ h9 => h9) rfl dX11_times_11 ?_
      refine lv_icmp_ge (tgt := 90) hx hb dX11_times_14 (by decide) (fun c_6 => ?_) (fun c_6 => ?_)
      · skip
        have c_6 := ni_le c_6 rfl rfl
        exact tz_retV (B := B_cX11_times_2393c D k h0 h1 h2 h3 h4 h5 h6 h7 h8 h9 h10 h11 h12 h13 h14 h15 h16 h17 h18 h19 h20 h21 h0f0 h0f1 h0f2 h0f3 h0f4 h0f5 h0f8 h0f9 h0f17 h0f18 h0f19 h0f24 h0f25 h0f30 h0f31) hQ hx hb hr hlocks hS (Nat.le_of_ble_eq_true rfl) (Nat.le_of_ble_eq_true rfl) dX11_times_90 ((hT.sub [2, 0, 1, 3] (by decide) rfl))
      · skip
        have c_6 := ni_nle c_6 rfl rfl
        refine lv_iconst (v := 0) hx hb dX11_times_17 (by decide) ?_
        refine lv_istore (lv' := [(5, .int 0), (0, .ref h0), (1, .ref h1), (2, .ref h2), (3, .ref h3), (4, .int y4)]) hx hb dX11_times_18 hl (by decide) rfl (fun ls hl => ?_)
        have lp20_10 : ∀ (n : Nat) (y9 : Int32) (H : Heap) (locs : List Loc) (ls : Array Slot), (0 ≤ y9.toInt ∧ y9.toInt ≤ 3) → (h0f0.toInt + (-1) * y9.toInt + 1).toNat < n → TP D A [(h1, aJ (k 1) 9 anJ), (h2, aJ (k 1) 9 anJ), (h0, ob 8 [.int h0f0, .int h0f1, .int h0f2, .int h0f3, .int h0f4, .int h0f5, .ref h4, .ref h5, .int h0f8, .int h0f9, .ref h3, .ref h2, .ref h1, .ref h6, .ref h7, .ref h8, .ref h9, .int h0f17, .int h0f18, .int h0f19, .ref h10, .ref h11, .ref h12, .ref h13, .int h0f24, .int h0f25, .ref h14, .ref h15, .ref h16, .ref h17, .int h0f30, .int h0f31, .ref h18, .ref h19, .ref h20, .ref h21]), (h3, aJ (k 1) 9 anJ)] H → va_S A s.heap H locs → lv_has ls 7 [(0, .ref h0), (1, .ref h1), (2, .ref h2), (3, .ref h3), (4, .int y4), (5, .int y9)] → W p l e Rm_cX11_times_2393c s m args below meth c H locs 0 0 Q (F0 m 20 ls []) := by
          intro n
          induction n with
          | zero => intro y9 H locs ls b_y9 hm hT hS hl; exact absurd hm (Nat.not_lt_zero _)
          | succ n ih =>
            intro y9 H locs ls b_y9 hm hT hS hl
            have ih20_10 := ih
            clear ih
            refine lv_iload hx hb dX11_times_20 (lv_at hl 5 rfl) ?_
            refine lv_aload_n hx hb dX11_times_22 rfl (lv_at hl 0 rfl) ?_
            refine tz_get (ci := 8) (v := .int h0f0) (C := RX11) (F := TX11) (N := 36) hx hb hU iX11 hown hK hT 2 rfl rfl 0 (by decide) w785 (fun _ h9 => h9) rfl dX11_times_23 ?_
            refine lv_icmp_ge (tgt := 84) hx hb dX11_times_26 (by decide) (fun c_11 => ?_) (fun c_11 => ?_)
            · skip
              have c_11 := ni_le c_11 rfl rfl
              obtain ⟨v12, e_v12⟩ : ∃ x : Int32, x = y4 + Int32.ofInt 1 := ⟨_, rfl⟩
              have f_v12 := e_v12.symm
              have e_v12 : v12.toInt = y4.toInt + 1 := ai_add e_v12 rfl (show (Int32.ofInt 1).toInt = 1 from (by decide +kernel)) (by omega)
              refine lv_iinc (v := v12) (lv' := [(4, .int v12), (0, .ref h0), (1, .ref h1), (2, .ref h2), (3, .ref h3), (5, .int y9)]) hx hb dX11_times_84 hl (k := 4) rfl f_v12 (by decide) rfl (fun ls hl => ?_)
              refine lv_goto (tgt := 8) hx hb dX11_times_87 (by decide) ?_
              exact ih8_5 v12 _ _ _ (by omega)  (by omega) hT hS (lv_sub hl [1, 2, 3, 4, 0] rfl)
            · skip
              have c_11 := ni_nle c_11 rfl rfl
              refine lv_iconst (v := 0) hx hb dX11_times_29 (by decide) ?_
              refine lv_istore (lv' := [(6, .int 0), (0, .ref h0), (1, .ref h1), (2, .ref h2), (3, .ref h3), (4, .int y4), (5, .int y9)]) hx hb dX11_times_30 hl (by decide) rfl (fun ls hl => ?_)
              have lp32_16 : ∀ (n : Nat) (y15 : Int32) (H : Heap) (locs : List Loc) (ls : Array Slot), (0 ≤ y15.toInt ∧ y15.toInt ≤ 3) → (h0f0.toInt + (-1) * y15.toInt + 1).toNat < n → TP D A [(h1, aJ (k 1) 9 anJ), (h2, aJ (k 1) 9 anJ), (h0, ob 8 [.int h0f0, .int h0f1, .int h0f2, .int h0f3, .int h0f4, .int h0f5, .ref h4, .ref h5, .int h0f8, .int h0f9, .ref h3, .ref h2, .ref h1, .ref h6, .ref h7, .ref h8, .ref h9, .int h0f17, .int h0f18, .int h0f19, .ref h10, .ref h11, .ref h12, .ref h13, .int h0f24, .int h0f25, .ref h14, .ref h15, .ref h16, .ref h17, .int h0f30, .int h0f31, .ref h18, .ref h19, .ref h20, .ref h21]), (h3, aJ (k 1) 9 anJ)] H → va_S A s.heap H locs → lv_has ls 7 [(0, .ref h0), (1, .ref h1), (2, .ref h2), (3, .ref h3), (4, .int y4), (5, .int y9), (6, .int y15)] → W p l e Rm_cX11_times_2393c s m args below meth c H locs 0 0 Q (F0 m 32 ls []) := by
                intro n
                induction n with
                | zero => intro y15 H locs ls b_y15 hm hT hS hl; exact absurd hm (Nat.not_lt_zero _)
                | succ n ih =>
                  intro y15 H locs ls b_y15 hm hT hS hl
                  have ih32_16 := ih
                  clear ih
                  refine lv_iload hx hb dX11_times_32 (lv_at hl 6 rfl) ?_
                  refine lv_aload_n hx hb dX11_times_34 rfl (lv_at hl 0 rfl) ?_
                  refine tz_get (ci := 8) (v := .int h0f0) (C := RX11) (F := TX11) (N := 36) hx hb hU iX11 hown hK hT 2 rfl rfl 0 (by decide) w785 (fun _ h9 => h9) rfl dX11_times_35 ?_
                  refine lv_icmp_ge (tgt := 78) hx hb dX11_times_38 (by decide) (fun c_17 => ?_) (fun c_17 => ?_)
                  · skip
                    have c_17 := ni_le c_17 rfl rfl
                    obtain ⟨v18, e_v18⟩ : ∃ x : Int32, x = y9 + Int32.ofInt 1 := ⟨_, rfl⟩
                    have f_v18 := e_v18.symm
                    have e_v18 : v18.toInt = y9.toInt + 1 := ai_add e_v18 rfl (show (Int32.ofInt 1).toInt = 1 from (by decide +kernel)) (by omega)
                    refine lv_iinc (v := v18) (lv' := [(5, .int v18), (0, .ref h0), (1, .ref h1), (2, .ref h2), (3, .ref h3), (4, .int y4), (6, .int y15)]) hx hb dX11_times_78 hl (k := 5) rfl f_v18 (by decide) rfl (fun ls hl => ?_)
                    refine lv_goto (tgt := 20) hx hb dX11_times_81 (by decide) ?_
                    exact ih20_10 v18 _ _ _ (by omega)  (by omega) hT hS (lv_sub hl [1, 2, 3, 4, 5, 0] rfl)
                  · skip
                    have c_17 := ni_nle c_17 rfl rfl
                    refine lv_aload_n hx hb dX11_times_41 rfl (lv_at hl 3 rfl) ?_
                    refine lv_iconst (v := 3) hx hb dX11_times_42 (by decide) ?_
                    refine lv_iload hx hb dX11_times_43 (lv_at hl 4 rfl) ?_
                    refine lv_imul hx hb dX11_times_45 (lv_topi (fun v19 e_v19 => ?_))
                    have e_v19 := ai_mul e_v19 li_3 rfl (by omega)
                    refine lv_iload hx hb dX11_times_46 (lv_at hl 5 rfl) ?_
                    refine lv_iadd hx hb dX11_times_48 (lv_topi (fun v20 e_v20 => ?_))
                    have e_v20 := ai_add e_v20 rfl rfl (by omega)
                    refine lv_dup2_11 hx hb dX11_times_49 rfl rfl ?_
                    refine tz_lald hx hb hK hT 3 rfl (by omega) dX11_times_50 (fun v21 e_v21 => ?_)
                    clear e_v21
                    refine lv_aload_n hx hb dX11_times_51 rfl (lv_at hl 1 rfl) ?_
                    refine lv_iconst (v := 3) hx hb dX11_times_52 (by decide) ?_
                    refine lv_iload hx hb dX11_times_53 (lv_at hl 4 rfl) ?_
                    refine lv_imul hx hb dX11_times_55 (lv_topi (fun v22 e_v22 => ?_))
                    have e_v22 := ai_mul e_v22 li_3 rfl (by omega)
                    refine lv_iload hx hb dX11_times_56 (lv_at hl 6 rfl) ?_
                    refine lv_iadd hx hb dX11_times_58 (lv_topi (fun v23 e_v23 => ?_))
                    have e_v23 := ai_add e_v23 rfl rfl (by omega)
                    refine tz_lald hx hb hK hT 0 rfl (by omega) dX11_times_59 (fun v24 e_v24 => ?_)
                    clear e_v24
                    refine lv_aload_n hx hb dX11_times_60 rfl (lv_at hl 2 rfl) ?_
                    refine lv_iconst (v := 3) hx hb dX11_times_61 (by decide) ?_
                    refine lv_iload hx hb dX11_times_62 (lv_at hl 6 rfl) ?_
                    refine lv_imul hx hb dX11_times_64 (lv_topi (fun v25 e_v25 => ?_))
                    have e_v25 := ai_mul e_v25 li_3 rfl (by omega)
                    refine lv_iload hx hb dX11_times_65 (lv_at hl 5 rfl) ?_
                    refine lv_iadd hx hb dX11_times_67 (lv_topi (fun v26 e_v26 => ?_))
                    have e_v26 := ai_add e_v26 rfl rfl (by omega)
                    refine tz_lald hx hb hK hT 1 rfl (by omega) dX11_times_68 (fun v27 e_v27 => ?_)
                    clear e_v27
                    refine lv_lmul hx hb dX11_times_69 (lv_topl (fun v28 e_v28 => ?_))
                    refine lv_ladd hx hb dX11_times_70 (lv_topl (fun v29 e_v29 => ?_))
                    refine tz_last hx hb hK hT hS 3 rfl (by omega) (fun _ _ => trivial) dX11_times_71 (fun H locs hT hS => ?_)
                    obtain ⟨v30, e_v30⟩ : ∃ x : Int32, x = y15 + Int32.ofInt 1 := ⟨_, rfl⟩
                    have f_v30 := e_v30.symm
                    have e_v30 : v30.toInt = y15.toInt + 1 := ai_add e_v30 rfl (show (Int32.ofInt 1).toInt = 1 from (by decide +kernel)) (by omega)
                    refine lv_iinc (v := v30) (lv' := [(6, .int v30), (0, .ref h0), (1, .ref h1), (2, .ref h2), (3, .ref h3), (4, .int y4), (5, .int y9)]) hx hb dX11_times_72 hl (k := 6) rfl f_v30 (by decide) rfl (fun ls hl => ?_)
                    refine lv_goto (tgt := 32) hx hb dX11_times_75 (by decide) ?_
                    exact ih32_16 v30 _ _ _ (by omega)  (by omega) hT hS (lv_sub hl [1, 2, 3, 4, 5, 6, 0] rfl)
              exact lp32_16 ((h0f0.toInt + (-1) * (0 : Int32).toInt + 1).toNat + 1) (0) _ _ _ (by have := li_0; omega)  (Nat.lt_succ_self _) hT hS (lv_sub hl [1, 2, 3, 4, 5, 6, 0] rfl)
        exact lp20_10 ((h0f0.toInt + (-1) * (0 : Int32).toInt + 1).toNat + 1) (0) _ _ _ (by have := li_0; omega)  (Nat.lt_succ_self _) hT hS (lv_sub hl [1, 2, 3, 4, 5, 0] rfl)
  exact lp8_5 ((h0f0.toInt + (-1) * (0 : Int32).toInt + 1).toNat + 1) (0) _ _ _ (by have := li_0; omega)  (Nat.lt_succ_self _) hT hS (lv_sub hl [1, 2, 3, 4, 0] rfl)
abbrev Rm_cX11_clears_8948d : Room := { frames := 0, cells := 0, slots := 0, locals := 0 }
abbrev B_cX11_clears_8948d (D : va_G) (k : Nat → ClassId) (h0 h1 h2 h3 h4 h5 h6 h7 h8 h9 h10 h11 h12 h13 h14 h15 h16 h17 h18 h19 h20 h21 : Nat) (h0f0 : Int32) (h0f1 : Int32) (h0f2 : Int32) (h0f3 : Int32) (h0f4 : Int32) (h0f5 : Int32) (h0f8 : Int32) (h0f9 : Int32) (h0f17 : Int32) (h0f18 : Int32) (h0f19 : Int32) (h0f24 : Int32) (h0f25 : Int32) (h0f30 : Int32) (h0f31 : Int32) (A : Nat → Prop) (H : Heap) : Prop := TP D A [(h0, ob 8 [.int h0f0, .int h0f1, .int h0f2, .int h0f3, .int h0f4, .int h0f5, .ref h2, .ref h3, .int h0f8, .int h0f9, .ref h4, .ref h5, .ref h6, .ref h1, .ref h7, .ref h8, .ref h9, .int h0f17, .int h0f18, .int h0f19, .ref h10, .ref h11, .ref h12, .ref h13, .int h0f24, .int h0f25, .ref h14, .ref h15, .ref h16, .ref h17, .int h0f30, .int h0f31, .ref h18, .ref h19, .ref h20, .ref h21]), (h1, aJ (k 1) 9 anJ)] H
set_option maxHeartbeats 4000000 in
set_option maxRecDepth 100000 in
theorem cX11_clears_8948d (l : Launch) (D : va_G) (k : Nat → ClassId) (sz : Nat) (h0 h1 h2 h3 h4 h5 h6 h7 h8 h9 h10 h11 h12 h13 h14 h15 h16 h17 h18 h19 h20 h21 : Nat) (h0f0 : Int32) (h0f1 : Int32) (h0f2 : Int32) (h0f3 : Int32) (h0f4 : Int32) (h0f5 : Int32) (h0f8 : Int32) (h0f9 : Int32) (h0f17 : Int32) (h0f18 : Int32) (h0f19 : Int32) (h0f24 : Int32) (h0f25 : Int32) (h0f30 : Int32) (h0f31 : Int32) (b_h0f0 : 1 ≤ h0f0.toInt ∧ h0f0.toInt ≤ 3) (b_h0f1 : 0 ≤ h0f1.toInt ∧ h0f1.toInt ≤ 4) (b_h0f3 : 0 ≤ h0f3.toInt ∧ h0f3.toInt ≤ 3) (b_h0f4 : 0 ≤ h0f4.toInt ∧ h0f4.toInt ≤ 4) (b_h0f8 : 0 ≤ h0f8.toInt ∧ h0f8.toInt ≤ 1) (b_h0f9 : 0 ≤ h0f9.toInt ∧ h0f9.toInt ≤ 1) (b_h0f17 : 0 ≤ h0f17.toInt ∧ h0f17.toInt ≤ 120) (b_h0f18 : 0 ≤ h0f18.toInt ∧ h0f18.toInt ≤ 120) (b_h0f19 : 0 ≤ h0f19.toInt ∧ h0f19.toInt ≤ 4) (b_h0f24 : 0 ≤ h0f24.toInt ∧ h0f24.toInt ≤ 100) (b_h0f25 : 0 ≤ h0f25.toInt ∧ h0f25.toInt ≤ 1) (b_h0f30 : 0 ≤ h0f30.toInt ∧ h0f30.toInt ≤ 60) (b_h0f31 : 0 ≤ h0f31.toInt ∧ h0f31.toInt ≤ 1) (i_0 : h0f8.toInt ≤ h0f3.toInt) (i_1 : h0f9.toInt ≤ h0f24.toInt) : Met l yX11_clears (Cond.code yX11_clears cX11_clears 3 none :: uw) Rm_cX11_clears_8948d (pT D k sz [.ref h0, .ref h1] [(h0, ob 8 [.int h0f0, .int h0f1, .int h0f2, .int h0f3, .int h0f4, .int h0f5, .ref h2, .ref h3, .int h0f8, .int h0f9, .ref h4, .ref h5, .ref h6, .ref h1, .ref h7, .ref h8, .ref h9, .int h0f17, .int h0f18, .int h0f19, .ref h10, .ref h11, .ref h12, .ref h13, .int h0f24, .int h0f25, .ref h14, .ref h15, .ref h16, .ref h17, .int h0f30, .int h0f31, .ref h18, .ref h19, .ref h20, .ref h21]), (h1, aJ (k 1) 9 anJ)]) (qV (B_cX11_clears_8948d D k h0 h1 h2 h3 h4 h5 h6 h7 h8 h9 h10 h11 h12 h13 h14 h15 h16 h17 h18 h19 h20 h21 h0f0 h0f1 h0f2 h0f3 h0f4 h0f5 h0f8 h0f9 h0f17 h0f18 h0f19 h0f24 h0f25 h0f30 h0f31 (zA [h0, h1] sz)) (zA [h0, h1] sz)) 0 0 (zA [h0, h1] sz) := by
  refine tz_begin (as := [h0, h1]) (Qc := fun A => qV (B_cX11_clears_8948d D k h0 h1 h2 h3 h4 h5 h6 h7 h8 h9 h10 h11 h12 h13 h14 h15 h16 h17 h18 h19 h20 h21 h0f0 h0f1 h0f2 h0f3 h0f4 h0f5 h0f8 h0f9 h0f17 h0f18 h0f19 h0f24 h0f25 h0f30 h0f31 A) A) (by decide +kernel) rfl (Nat.le_of_ble_eq_true rfl) ?_
  intro p e s m args below meth c ls A Q hx hb hr hml hown hlocks hin hU hK hT hS hA hl hQ
  have hl : lv_has ls 3 [(0, .ref h0), (1, .ref h1)] := hl
  have hT : TP D A [(h0, ob 8 [.int h0f0, .int h0f1, .int h0f2, .int h0f3, .int h0f4, .int h0f5, .ref h2, .ref h3, .int h0f8, .int h0f9, .ref h4, .ref h5, .ref h6, .ref h1, .ref h7, .ref h8, .ref h9, .int h0f17, .int h0f18, .int h0f19, .ref h10, .ref h11, .ref h12, .ref h13, .int h0f24, .int h0f25, .ref h14, .ref h15, .ref h16, .ref h17, .int h0f30, .int h0f31, .ref h18, .ref h19, .ref h20, .ref h21]), (h1, aJ (k 1) 9 anJ)] s.heap := hT
  refine lv_iconst (v := 0) hx hb dX11_clears_0 (by decide) ?_
  refine lv_istore_n (lv' := [(2, .int 0), (0, .ref h0), (1, .ref h1)]) hx hb dX11_clears_1 rfl hl (by decide) rfl (fun ls hl => ?_)
  have lp2_8 : ∀ (n : Nat) (y7 : Int32) (H : Heap) (locs : List Loc) (ls : Array Slot), (0 ≤ y7.toInt ∧ y7.toInt ≤ 9) → ((-1) * y7.toInt + 9 + 1).toNat < n → TP D A [(h0, ob 8 [.int h0f0, .int h0f1, .int h0f2, .int h0f3, .int h0f4, .int h0f5, .ref h2, .ref h3, .int h0f8, .int h0f9, .ref h4, .ref h5, .ref h6, .ref h1, .ref h7, .ref h8, .ref h9, .int h0f17, .int h0f18, .int h0f19, .ref h10, .ref h11, .ref h12, .ref h13, .int h0f24, .int h0f25, .ref h14, .ref h15, .ref h16, .ref h17, .int h0f30, .int h0f31, .ref h18, .ref h19, .ref h20, .ref h21]), (h1, aJ (k 1) 9 anJ)] H → va_S A s.heap H locs → lv_has ls 3 [(1, .ref h1), (2, .int y7)] → W p l e Rm_cX11_clears_8948d s m args below meth c H locs 0 0 Q (F0 m 2 ls []) := by
    intro n
    induction n with
    | zero => intro y7 H locs ls b_y7 hm hT hS hl; exact absurd hm (Nat.not_lt_zero _)
    | succ n ih =>
      intro y7 H locs ls b_y7 hm hT hS hl
      have ih2_8 := ih
      clear ih
      refine lv_iload_n hx hb dX11_clears_2 rfl (lv_at hl 1 rfl) ?_
      refine lv_bipush (v := 9) hx hb dX11_clears_3 (by decide) ?_
      refine lv_icmp_ge (tgt := 18) hx hb dX11_clears_5 (by decide) (fun c_9 => ?_) (fun c_9 => ?_)
      · skip
        have c_9 := ni_le c_9 li_9 rfl
        exact tz_retV (B := B_cX11_clears_8948d D k h0 h1 h2 h3 h4 h5 h6 h7 h8 h9 h10 h11 h12 h13 h14 h15 h16 h17 h18 h19 h20 h21 h0f0 h0f1 h0f2 h0f3 h0f4 h0f5 h0f8 h0f9 h0f17 h0f18 h0f19 h0f24 h0f25 h0f30 h0f31) hQ hx hb hr hlocks hS (Nat.le_of_ble_eq_true rfl) (Nat.le_of_ble_eq_true rfl) dX11_clears_18 (hT)
      · skip
        have c_9 := ni_nle c_9 li_9 rfl
        refine lv_aload_n hx hb dX11_clears_8 rfl (lv_at hl 0 rfl) ?_
        refine lv_iload_n hx hb dX11_clears_9 rfl (lv_at hl 1 rfl) ?_
        refine lv_lconst (v := 0) hx hb dX11_clears_10 (by decide) ?_
        refine tz_last hx hb hK hT hS 1 rfl (by omega) (fun _ _ => trivial) dX11_clears_11 (fun H locs hT hS => ?_)
        obtain ⟨v10, e_v10⟩ : ∃ x : Int32, x = y7 + Int32.ofInt 1 := ⟨_, rfl⟩
        have f_v10 := e_v10.symm
        have e_v10 : v10.toInt = y7.toInt + 1 := ai_add e_v10 rfl (show (Int32.ofInt 1).toInt = 1 from (by decide +kernel)) (by omega)
        refine lv_iinc (v := v10) (lv' := [(2, .int v10), (1, .ref h1)]) hx hb dX11_clears_12 hl (k := 1) rfl f_v10 (by decide) rfl (fun ls hl => ?_)
        refine lv_goto (tgt := 2) hx hb dX11_clears_15 (by decide) ?_
        exact ih2_8 v10 _ _ _ (by omega)  (by omega) hT hS (lv_sub hl [1, 0] rfl)
  exact lp2_8 (((-1) * (0 : Int32).toInt + 9 + 1).toNat + 1) (0) _ _ _ (by have := li_0; omega)  (Nat.lt_succ_self _) hT hS (lv_sub hl [2, 0] rfl)
abbrev Rm_cX11_first_e5cf2 : Room := { frames := 1, cells := 0, slots := 0, locals := 22 }
abbrev B_cX11_first_e5cf2 (D : va_G) (k : Nat → ClassId) (h0 h1 h2 h3 h4 h5 h6 h7 h8 h9 h10 h11 h12 h13 h14 h15 h16 h17 h18 h19 h20 h21 : Nat) (h0f0 : Int32) (h0f1 : Int32) (h0f2 : Int32) (h0f3 : Int32) (h0f4 : Int32) (h0f5 : Int32) (h0f8 : Int32) (h0f9 : Int32) (h0f17 : Int32) (h0f18 : Int32) (h0f19 : Int32) (h0f24 : Int32) (h0f25 : Int32) (h0f30 : Int32) (h0f31 : Int32) (A : Nat → Prop) (H : Heap) : Prop := TP D A [(h0, ob 8 [.int h0f0, .int h0f1, .int h0f2, .int h0f3, .int h0f4, .int h0f5, .ref h2, .ref h3, .int h0f8, .int h0f9, .ref h4, .ref h5, .ref h6, .ref h1, .ref h7, .ref h8, .ref h9, .int h0f17, .int h0f18, .int h0f19, .ref h10, .ref h11, .ref h12, .ref h13, .int h0f24, .int h0f25, .ref h14, .ref h15, .ref h16, .ref h17, .int h0f30, .int h0f31, .ref h18, .ref h19, .ref h20, .ref h21]), (h1, aJ (k 1) 9 anJ)] H
set_option maxHeartbeats 4000000 in
set_option maxRecDepth 100000 in
theorem cX11_first_e5cf2 (l : Launch) (D : va_G) (k : Nat → ClassId) (sz : Nat) (h0 h1 h2 h3 h4 h5 h6 h7 h8 h9 h10 h11 h12 h13 h14 h15 h16 h17 h18 h19 h20 h21 : Nat) (h0f0 : Int32) (h0f1 : Int32) (h0f2 : Int32) (h0f3 : Int32) (h0f4 : Int32) (h0f5 : Int32) (h0f8 : Int32) (h0f9 : Int32) (h0f17 : Int32) (h0f18 : Int32) (h0f19 : Int32) (h0f24 : Int32) (h0f25 : Int32) (h0f30 : Int32) (h0f31 : Int32) (b_h0f0 : 1 ≤ h0f0.toInt ∧ h0f0.toInt ≤ 3) (b_h0f1 : 0 ≤ h0f1.toInt ∧ h0f1.toInt ≤ 4) (b_h0f3 : 0 ≤ h0f3.toInt ∧ h0f3.toInt ≤ 3) (b_h0f4 : 0 ≤ h0f4.toInt ∧ h0f4.toInt ≤ 4) (b_h0f8 : 0 ≤ h0f8.toInt ∧ h0f8.toInt ≤ 1) (b_h0f9 : 0 ≤ h0f9.toInt ∧ h0f9.toInt ≤ 1) (b_h0f17 : 0 ≤ h0f17.toInt ∧ h0f17.toInt ≤ 120) (b_h0f18 : 0 ≤ h0f18.toInt ∧ h0f18.toInt ≤ 120) (b_h0f19 : 0 ≤ h0f19.toInt ∧ h0f19.toInt ≤ 4) (b_h0f24 : 0 ≤ h0f24.toInt ∧ h0f24.toInt ≤ 100) (b_h0f25 : 0 ≤ h0f25.toInt ∧ h0f25.toInt ≤ 1) (b_h0f30 : 0 ≤ h0f30.toInt ∧ h0f30.toInt ≤ 60) (b_h0f31 : 0 ≤ h0f31.toInt ∧ h0f31.toInt ≤ 1) (i_0 : h0f8.toInt ≤ h0f3.toInt) (i_1 : h0f9.toInt ≤ h0f24.toInt) : Met l yX11_first (Cond.code yX11_first cX11_first 3 none :: uw) Rm_cX11_first_e5cf2 (pT D k sz [.ref h0, .ref h1] [(h0, ob 8 [.int h0f0, .int h0f1, .int h0f2, .int h0f3, .int h0f4, .int h0f5, .ref h2, .ref h3, .int h0f8, .int h0f9, .ref h4, .ref h5, .ref h6, .ref h1, .ref h7, .ref h8, .ref h9, .int h0f17, .int h0f18, .int h0f19, .ref h10, .ref h11, .ref h12, .ref h13, .int h0f24, .int h0f25, .ref h14, .ref h15, .ref h16, .ref h17, .int h0f30, .int h0f31, .ref h18, .ref h19, .ref h20, .ref h21]), (h1, aJ (k 1) 9 anJ)]) (qV (B_cX11_first_e5cf2 D k h0 h1 h2 h3 h4 h5 h6 h7 h8 h9 h10 h11 h12 h13 h14 h15 h16 h17 h18 h19 h20 h21 h0f0 h0f1 h0f2 h0f3 h0f4 h0f5 h0f8 h0f9 h0f17 h0f18 h0f19 h0f24 h0f25 h0f30 h0f31 (zA [h0, h1] sz)) (zA [h0, h1] sz)) 0 0 (zA [h0, h1] sz) := by
  refine tz_begin (as := [h0, h1]) (Qc := fun A => qV (B_cX11_first_e5cf2 D k h0 h1 h2 h3 h4 h5 h6 h7 h8 h9 h10 h11 h12 h13 h14 h15 h16 h17 h18 h19 h20 h21 h0f0 h0f1 h0f2 h0f3 h0f4 h0f5 h0f8 h0f9 h0f17 h0f18 h0f19 h0f24 h0f25 h0f30 h0f31 A) A) (by decide +kernel) rfl (Nat.le_of_ble_eq_true rfl) ?_
  intro p e s m args below meth c ls A Q hx hb hr hml hown hlocks hin hU hK hT hS hA hl hQ
  have hl : lv_has ls 3 [(0, .ref h0), (1, .ref h1)] := hl
  have hT : TP D A [(h0, ob 8 [.int h0f0, .int h0f1, .int h0f2, .int h0f3, .int h0f4, .int h0f5, .ref h2, .ref h3, .int h0f8, .int h0f9, .ref h4, .ref h5, .ref h6, .ref h1, .ref h7, .ref h8, .ref h9, .int h0f17, .int h0f18, .int h0f19, .ref h10, .ref h11, .ref h12, .ref h13, .int h0f24, .int h0f25, .ref h14, .ref h15, .ref h16, .ref h17, .int h0f30, .int h0f31, .ref h18, .ref h19, .ref h20, .ref h21]), (h1, aJ (k 1) 9 anJ)] s.heap := hT
  refine lv_aload_n hx hb dX11_first_0 rfl (lv_at hl 0 rfl) ?_
  refine lv_aload_n hx hb dX11_first_1 rfl (lv_at hl 1 rfl) ?_
  refine tcV (Tc := [(h0, ob 8 [.int h0f0, .int h0f1, .int h0f2, .int h0f3, .int h0f4, .int h0f5, .ref h2, .ref h3, .int h0f8, .int h0f9, .ref h4, .ref h5, .ref h6, .ref h1, .ref h7, .ref h8, .ref h9, .int h0f17, .int h0f18, .int h0f19, .ref h10, .ref h11, .ref h12, .ref h13, .int h0f24, .int h0f25, .ref h14, .ref h15, .ref h16, .ref h17, .int h0f30, .int h0f31, .ref h18, .ref h19, .ref h20, .ref h21]), (h1, aJ (k 1) 9 anJ)]) (Tr := []) (as := [h0, h1]) (zcV (q0 := 0) (ci := 8) (As := [.ref h1]) (rest := []) (Tc := [(h0, ob 8 [.int h0f0, .int h0f1, .int h0f2, .int h0f3, .int h0f4, .int h0f5, .ref h2, .ref h3, .int h0f8, .int h0f9, .ref h4, .ref h5, .ref h6, .ref h1, .ref h7, .ref h8, .ref h9, .int h0f17, .int h0f18, .int h0f19, .ref h10, .ref h11, .ref h12, .ref h13, .int h0f24, .int h0f25, .ref h14, .ref h15, .ref h16, .ref h17, .int h0f30, .int h0f31, .ref h18, .ref h19, .ref h20, .ref h21]), (h1, aJ (k 1) 9 anJ)]) hx hb hml hown hU hK hT rfl rfl [0, 1] rfl (by decide) (cX11_clears_8948d l D k _ h0 h1 h2 h3 h4 h5 h6 h7 h8 h9 h10 h11 h12 h13 h14 h15 h16 h17 h18 h19 h20 h21 h0f0 h0f1 h0f2 h0f3 h0f4 h0f5 h0f8 h0f9 h0f17 h0f18 h0f19 h0f24 h0f25 h0f30 h0f31 (by omega) (by omega) (by omega) (by omega) (by omega) (by omega) (by omega) (by omega) (by omega) (by omega) (by omega) (by omega) (by omega) (by omega) (by omega)) w923 w920 w922 w29 w72 hdX11_clears ⟨rfl, rfl⟩ ⟨Nat.le_of_ble_eq_true rfl, Nat.le_of_ble_eq_true rfl⟩ rfl hl.1 (Nat.le_of_ble_eq_true rfl) dX11_first_2 ⟨Nat.le_of_ble_eq_true rfl, Nat.le_of_ble_eq_true rfl⟩) hT hS hA [0, 1] [] rfl rfl rfl (by decide) (by decide) (fun H locs hB J hS => ?_)
  have hT1 := hB
  have hT := J _ hT1
  have hT : TP D A [(h0, ob 8 [.int h0f0, .int h0f1, .int h0f2, .int h0f3, .int h0f4, .int h0f5, .ref h2, .ref h3, .int h0f8, .int h0f9, .ref h4, .ref h5, .ref h6, .ref h1, .ref h7, .ref h8, .ref h9, .int h0f17, .int h0f18, .int h0f19, .ref h10, .ref h11, .ref h12, .ref h13, .int h0f24, .int h0f25, .ref h14, .ref h15, .ref h16, .ref h17, .int h0f30, .int h0f31, .ref h18, .ref h19, .ref h20, .ref h21]), (h1, aJ (k 1) 9 anJ)] _ := hT
  refine lv_iconst (v := 0) hx hb dX11_first_5 (by decide) ?_
  refine lv_istore_n (lv' := [(2, .int 0), (0, .ref h0), (1, .ref h1)]) hx hb dX11_first_6 rfl hl (by decide) rfl (fun ls hl => ?_)
  have lp7_5 : ∀ (n : Nat) (y4 : Int32) (H : Heap) (locs : List Loc) (ls : Array Slot), (0 ≤ y4.toInt ∧ y4.toInt ≤ 3) → (h0f0.toInt + (-1) * y4.toInt + 1).toNat < n → TP D A [(h0, ob 8 [.int h0f0, .int h0f1, .int h0f2, .int h0f3, .int h0f4, .int h0f5, .ref h2, .ref h3, .int h0f8, .int h0f9, .ref h4, .ref h5, .ref h6, .ref h1, .ref h7, .ref h8, .ref h9, .int h0f17, .int h0f18, .int h0f19, .ref h10, .ref h11, .ref h12, .ref h13, .int h0f24, .int h0f25, .ref h14, .ref h15, .ref h16, .ref h17, .int h0f30, .int h0f31, .ref h18, .ref h19, .ref h20, .ref h21]), (h1, aJ (k 1) 9 anJ)] H → va_S A s.heap H locs → lv_has ls 3 [(0, .ref h0), (1, .ref h1), (2, .int y4)] → W p l e Rm_cX11_first_e5cf2 s m args below meth c H locs 0 0 Q (F0 m 7 ls []) := by
    intro n
    induction n with
    | zero => intro y4 H locs ls b_y4 hm hT hS hl; exact absurd hm (Nat.not_lt_zero _)
    | succ n ih =>
      intro y4 H locs ls b_y4 hm hT hS hl
      have ih7_5 := ih
      clear ih
      refine lv_iload_n hx hb dX11_first_7 rfl (lv_at hl 2 rfl) ?_
      refine lv_aload_n hx hb dX11_first_8 rfl (lv_at hl 0 rfl) ?_
      refine tz_get (ci := 8) (v := .int h0f0) (C := RX11) (F := TX11) (N := 36) hx hb hU iX11 hown hK hT 0 rfl rfl 0 (by decide) w785 (fun _ h9 => h9) rfl dX11_first_9 ?_
      refine lv_icmp_ge (tgt := 27) hx hb dX11_first_12 (by decide) (fun c_6 => ?_) (fun c_6 => ?_)
      · skip
        have c_6 := ni_le c_6 rfl rfl
        exact tz_retV (B := B_cX11_first_e5cf2 D k h0 h1 h2 h3 h4 h5 h6 h7 h8 h9 h10 h11 h12 h13 h14 h15 h16 h17 h18 h19 h20 h21 h0f0 h0f1 h0f2 h0f3 h0f4 h0f5 h0f8 h0f9 h0f17 h0f18 h0f19 h0f24 h0f25 h0f30 h0f31) hQ hx hb hr hlocks hS (Nat.le_of_ble_eq_true rfl) (Nat.le_of_ble_eq_true rfl) dX11_first_27 (hT)
      · skip
        have c_6 := ni_nle c_6 rfl rfl
        refine lv_aload_n hx hb dX11_first_15 rfl (lv_at hl 1 rfl) ?_
        refine lv_iconst (v := 4) hx hb dX11_first_16 (by decide) ?_
        refine lv_iload_n hx hb dX11_first_17 rfl (lv_at hl 2 rfl) ?_
        refine lv_imul hx hb dX11_first_18 (lv_topi (fun v7 e_v7 => ?_))
        have e_v7 := ai_mul e_v7 li_4 rfl (by omega)
        refine lv_lconst (v := 1) hx hb dX11_first_19 (by decide) ?_
        refine tz_last hx hb hK hT hS 1 rfl (by omega) (fun _ _ => trivial) dX11_first_20 (fun H locs hT hS => ?_)
        obtain ⟨v8, e_v8⟩ : ∃ x : Int32, x = y4 + Int32.ofInt 1 := ⟨_, rfl⟩
        have f_v8 := e_v8.symm
        have e_v8 : v8.toInt = y4.toInt + 1 := ai_add e_v8 rfl (show (Int32.ofInt 1).toInt = 1 from (by decide +kernel)) (by omega)
        refine lv_iinc (v := v8) (lv' := [(2, .int v8), (0, .ref h0), (1, .ref h1)]) hx hb dX11_first_21 hl (k := 2) rfl f_v8 (by decide) rfl (fun ls hl => ?_)
        refine lv_goto (tgt := 7) hx hb dX11_first_24 (by decide) ?_
        exact ih7_5 v8 _ _ _ (by omega)  (by omega) hT hS (lv_sub hl [1, 2, 0] rfl)
  exact lp7_5 ((h0f0.toInt + (-1) * (0 : Int32).toInt + 1).toNat + 1) (0) _ _ _ (by have := li_0; omega)  (Nat.lt_succ_self _) hT hS (lv_sub hl [1, 2, 0] rfl)
abbrev Rm_cX11_isFirst_6a416 : Room := { frames := 2, cells := 0, slots := 0, locals := 44 }
abbrev B_cX11_isFirst_6a416 (D : va_G) (k : Nat → ClassId) (h0 h1 h6 h2 h3 h4 h5 h7 h8 h9 h10 h11 h12 h13 h14 h15 h16 h17 h18 h19 h20 h21 : Nat) (h0f0 : Int32) (h0f1 : Int32) (h0f2 : Int32) (h0f3 : Int32) (h0f4 : Int32) (h0f5 : Int32) (h0f8 : Int32) (h0f9 : Int32) (h0f17 : Int32) (h0f18 : Int32) (h0f19 : Int32) (h0f24 : Int32) (h0f25 : Int32) (h0f30 : Int32) (h0f31 : Int32) (A : Nat → Prop) (r : Int32) (H : Heap) : Prop := (0 ≤ r.toInt ∧ r.toInt ≤ 1) ∧ TP D A [(h0, ob 8 [.int h0f0, .int h0f1, .int h0f2, .int h0f3, .int h0f4, .int h0f5, .ref h2, .ref h3, .int h0f8, .int h0f9, .ref h4, .ref h5, .ref h1, .ref h6, .ref h7, .ref h8, .ref h9, .int h0f17, .int h0f18, .int h0f19, .ref h10, .ref h11, .ref h12, .ref h13, .int h0f24, .int h0f25, .ref h14, .ref h15, .ref h16, .ref h17, .int h0f30, .int h0f31, .ref h18, .ref h19, .ref h20, .ref h21]), (h1, aJ (k 1) 9 anJ), (h6, aJ (k 1) 9 anJ)] H
set_option maxHeartbeats 4000000 in
set_option maxRecDepth 100000 in
theorem cX11_isFirst_6a416 (l : Launch) (D : va_G) (k : Nat → ClassId) (sz : Nat) (h0 h1 h6 h2 h3 h4 h5 h7 h8 h9 h10 h11 h12 h13 h14 h15 h16 h17 h18 h19 h20 h21 : Nat) (h0f0 : Int32) (h0f1 : Int32) (h0f2 : Int32) (h0f3 : Int32) (h0f4 : Int32) (h0f5 : Int32) (h0f8 : Int32) (h0f9 : Int32) (h0f17 : Int32) (h0f18 : Int32) (h0f19 : Int32) (h0f24 : Int32) (h0f25 : Int32) (h0f30 : Int32) (h0f31 : Int32) (b_h0f0 : 1 ≤ h0f0.toInt ∧ h0f0.toInt ≤ 3) (b_h0f1 : 0 ≤ h0f1.toInt ∧ h0f1.toInt ≤ 4) (b_h0f3 : 0 ≤ h0f3.toInt ∧ h0f3.toInt ≤ 3) (b_h0f4 : 0 ≤ h0f4.toInt ∧ h0f4.toInt ≤ 4) (b_h0f8 : 0 ≤ h0f8.toInt ∧ h0f8.toInt ≤ 1) (b_h0f9 : 0 ≤ h0f9.toInt ∧ h0f9.toInt ≤ 1) (b_h0f17 : 0 ≤ h0f17.toInt ∧ h0f17.toInt ≤ 120) (b_h0f18 : 0 ≤ h0f18.toInt ∧ h0f18.toInt ≤ 120) (b_h0f19 : 0 ≤ h0f19.toInt ∧ h0f19.toInt ≤ 4) (b_h0f24 : 0 ≤ h0f24.toInt ∧ h0f24.toInt ≤ 100) (b_h0f25 : 0 ≤ h0f25.toInt ∧ h0f25.toInt ≤ 1) (b_h0f30 : 0 ≤ h0f30.toInt ∧ h0f30.toInt ≤ 60) (b_h0f31 : 0 ≤ h0f31.toInt ∧ h0f31.toInt ≤ 1) (i_0 : h0f8.toInt ≤ h0f3.toInt) (i_1 : h0f9.toInt ≤ h0f24.toInt) : Met l yX11_isFirst (Cond.code yX11_isFirst cX11_isFirst 4 (some .boolean) :: uw) Rm_cX11_isFirst_6a416 (pT D k sz [.ref h0, .ref h1] [(h0, ob 8 [.int h0f0, .int h0f1, .int h0f2, .int h0f3, .int h0f4, .int h0f5, .ref h2, .ref h3, .int h0f8, .int h0f9, .ref h4, .ref h5, .ref h1, .ref h6, .ref h7, .ref h8, .ref h9, .int h0f17, .int h0f18, .int h0f19, .ref h10, .ref h11, .ref h12, .ref h13, .int h0f24, .int h0f25, .ref h14, .ref h15, .ref h16, .ref h17, .int h0f30, .int h0f31, .ref h18, .ref h19, .ref h20, .ref h21]), (h1, aJ (k 1) 9 anJ), (h6, aJ (k 1) 9 anJ)]) (qI (B_cX11_isFirst_6a416 D k h0 h1 h6 h2 h3 h4 h5 h7 h8 h9 h10 h11 h12 h13 h14 h15 h16 h17 h18 h19 h20 h21 h0f0 h0f1 h0f2 h0f3 h0f4 h0f5 h0f8 h0f9 h0f17 h0f18 h0f19 h0f24 h0f25 h0f30 h0f31 (zA [h0, h1, h6] sz)) (zA [h0, h1, h6] sz)) 0 0 (zA [h0, h1, h6] sz) := by
  refine tz_begin (as := [h0, h1, h6]) (Qc := fun A => qI (B_cX11_isFirst_6a416 D k h0 h1 h6 h2 h3 h4 h5 h7 h8 h9 h10 h11 h12 h13 h14 h15 h16 h17 h18 h19 h20 h21 h0f0 h0f1 h0f2 h0f3 h0f4 h0f5 h0f8 h0f9 h0f17 h0f18 h0f19 h0f24 h0f25 h0f30 h0f31 A) A) (by decide +kernel) rfl (Nat.le_of_ble_eq_true rfl) ?_
  intro p e s m args below meth c ls A Q hx hb hr hml hown hlocks hin hU hK hT hS hA hl hQ
  have hl : lv_has ls 4 [(0, .ref h0), (1, .ref h1)] := hl
  have hT : TP D A [(h0, ob 8 [.int h0f0, .int h0f1, .int h0f2, .int h0f3, .int h0f4, .int h0f5, .ref h2, .ref h3, .int h0f8, .int h0f9, .ref h4, .ref h5, .ref h1, .ref h6, .ref h7, .ref h8, .ref h9, .int h0f17, .int h0f18, .int h0f19, .ref h10, .ref h11, .ref h12, .ref h13, .int h0f24, .int h0f25, .ref h14, .ref h15, .ref h16, .ref h17, .int h0f30, .int h0f31, .ref h18, .ref h19, .ref h20, .ref h21]), (h1, aJ (k 1) 9 anJ), (h6, aJ (k 1) 9 anJ)] s.heap := hT
  refine lv_aload_n hx hb dX11_isFirst_0 rfl (lv_at hl 0 rfl) ?_
  refine lv_aload_n hx hb dX11_isFirst_1 rfl (lv_at hl 0 rfl) ?_
  refine tz_get (ci := 8) (v := .ref h6) (C := RX11) (F := TX11) (N := 36) hx hb hU iX11 hown hK hT 0 rfl rfl 13 (by decide) w798 (fun _ h9 => h9) rfl dX11_isFirst_2 ?_
  refine tcV (Tc := [(h0, ob 8 [.int h0f0, .int h0f1, .int h0f2, .int h0f3, .int h0f4, .int h0f5, .ref h2, .ref h3, .int h0f8, .int h0f9, .ref h4, .ref h5, .ref h1, .ref h6, .ref h7, .ref h8, .ref h9, .int h0f17, .int h0f18, .int h0f19, .ref h10, .ref h11, .ref h12, .ref h13, .int h0f24, .int h0f25, .ref h14, .ref h15, .ref h16, .ref h17, .int h0f30, .int h0f31, .ref h18, .ref h19, .ref h20, .ref h21]), (h6, aJ (k 1) 9 anJ)]) (Tr := [(h1, aJ (k 1) 9 anJ)]) (as := [h0, h6]) (zcV (q0 := 0) (ci := 8) (As := [.ref h6]) (rest := []) (Tc := [(h0, ob 8 [.int h0f0, .int h0f1, .int h0f2, .int h0f3, .int h0f4, .int h0f5, .ref h2, .ref h3, .int h0f8, .int h0f9, .ref h4, .ref h5, .ref h1, .ref h6, .ref h7, .ref h8, .ref h9, .int h0f17, .int h0f18, .int h0f19, .ref h10, .ref h11, .ref h12, .ref h13, .int h0f24, .int h0f25, .ref h14, .ref h15, .ref h16, .ref h17, .int h0f30, .int h0f31, .ref h18, .ref h19, .ref h20, .ref h21]), (h6, aJ (k 1) 9 anJ)]) hx hb hml hown hU hK hT rfl rfl [0, 2] rfl (by decide) (cX11_first_e5cf2 l D k _ h0 h6 h2 h3 h4 h5 h1 h7 h8 h9 h10 h11 h12 h13 h14 h15 h16 h17 h18 h19 h20 h21 h0f0 h0f1 h0f2 h0f3 h0f4 h0f5 h0f8 h0f9 h0f17 h0f18 h0f19 h0f24 h0f25 h0f30 h0f31 (by omega) (by omega) (by omega) (by omega) (by omega) (by omega) (by omega) (by omega) (by omega) (by omega) (by omega) (by omega) (by omega) (by omega) (by omega)) w919 w916 w918 w28 w72 hdX11_first ⟨rfl, rfl⟩ ⟨Nat.le_of_ble_eq_true rfl, Nat.le_of_ble_eq_true rfl⟩ rfl hl.1 (Nat.le_of_ble_eq_true rfl) dX11_isFirst_5 ⟨Nat.le_of_ble_eq_true rfl, Nat.le_of_ble_eq_true rfl⟩) hT hS hA [0, 2] [1] rfl rfl rfl (by decide) (by decide) (fun H locs hB J hS => ?_)
  have hT1 := hB
  have hT := J _ hT1
  have hT : TP D A [(h1, aJ (k 1) 9 anJ), (h0, ob 8 [.int h0f0, .int h0f1, .int h0f2, .int h0f3, .int h0f4, .int h0f5, .ref h2, .ref h3, .int h0f8, .int h0f9, .ref h4, .ref h5, .ref h1, .ref h6, .ref h7, .ref h8, .ref h9, .int h0f17, .int h0f18, .int h0f19, .ref h10, .ref h11, .ref h12, .ref h13, .int h0f24, .int h0f25, .ref h14, .ref h15, .ref h16, .ref h17, .int h0f30, .int h0f31, .ref h18, .ref h19, .ref h20, .ref h21]), (h6, aJ (k 1) 9 anJ)] _ := hT
  refine lv_iconst (v := 1) hx hb dX11_isFirst_8 (by decide) ?_
  refine lv_istore_n (lv' := [(2, .int 1), (0, .ref h0), (1, .ref h1)]) hx hb dX11_isFirst_9 rfl hl (by decide) rfl (fun ls hl => ?_)
  refine lv_iconst (v := 0) hx hb dX11_isFirst_10 (by decide) ?_
  refine lv_istore_n (lv' := [(3, .int 0), (2, .int 1), (0, .ref h0), (1, .ref h1)]) hx hb dX11_isFirst_11 rfl hl (by decide) rfl (fun ls hl => ?_)
  have lp12_16 : ∀ (n : Nat) (y14 : Int32) (y15 : Int32) (H : Heap) (locs : List Loc) (ls : Array Slot), (0 ≤ y14.toInt ∧ y14.toInt ≤ 9) → (0 ≤ y15.toInt ∧ y15.toInt ≤ 1) → ((-1) * y14.toInt + 9 + 1).toNat < n → TP D A [(h1, aJ (k 1) 9 anJ), (h0, ob 8 [.int h0f0, .int h0f1, .int h0f2, .int h0f3, .int h0f4, .int h0f5, .ref h2, .ref h3, .int h0f8, .int h0f9, .ref h4, .ref h5, .ref h1, .ref h6, .ref h7, .ref h8, .ref h9, .int h0f17, .int h0f18, .int h0f19, .ref h10, .ref h11, .ref h12, .ref h13, .int h0f24, .int h0f25, .ref h14, .ref h15, .ref h16, .ref h17, .int h0f30, .int h0f31, .ref h18, .ref h19, .ref h20, .ref h21]), (h6, aJ (k 1) 9 anJ)] H → va_S A s.heap H locs → lv_has ls 4 [(0, .ref h0), (1, .ref h1), (2, .int y15), (3, .int y14)] → W p l e Rm_cX11_isFirst_6a416 s m args below meth c H locs 0 0 Q (F0 m 12 ls []) := by
    intro n
    induction n with
    | zero => intro y14 y15 H locs ls b_y14 b_y15 hm hT hS hl; exact absurd hm (Nat.not_lt_zero _)
    | succ n ih =>
      intro y14 y15 H locs ls b_y14 b_y15 hm hT hS hl
      have ih12_16 := ih
      clear ih
      refine lv_iload_n hx hb dX11_isFirst_12 rfl (lv_at hl 3 rfl) ?_
      refine lv_bipush (v := 9) hx hb dX11_isFirst_13 (by decide) ?_
      refine lv_icmp_ge (tgt := 47) hx hb dX11_isFirst_15 (by decide) (fun c_17 => ?_) (fun c_17 => ?_)
      · skip
        have c_17 := ni_le c_17 li_9 rfl
        refine lv_iload_n hx hb dX11_isFirst_47 rfl (lv_at hl 2 rfl) ?_
        exact tz_retZ (B := B_cX11_isFirst_6a416 D k h0 h1 h6 h2 h3 h4 h5 h7 h8 h9 h10 h11 h12 h13 h14 h15 h16 h17 h18 h19 h20 h21 h0f0 h0f1 h0f2 h0f3 h0f4 h0f5 h0f8 h0f9 h0f17 h0f18 h0f19 h0f24 h0f25 h0f30 h0f31) (v := y15) hQ hx hb hr hlocks hS (Nat.le_of_ble_eq_true rfl) (Nat.le_of_ble_eq_true rfl) dX11_isFirst_48 (by omega) (⟨(by omega), (hT.sub [1, 0, 2] (by decide) rfl)⟩)
      · skip
        have c_17 := ni_nle c_17 li_9 rfl
        refine lv_iload_n hx hb dX11_isFirst_18 rfl (lv_at hl 2 rfl) ?_
        refine lv_if_eq (tgt := 39) hx hb dX11_isFirst_19 (by decide) (fun c_18 => ?_) (fun c_18 => ?_)
        · skip
          have c_18 := ni_eq c_18 rfl li_0
          refine lv_iconst (v := 0) hx hb dX11_isFirst_39 (by decide) ?_
          refine lv_istore_n (lv' := [(2, .int 0), (0, .ref h0), (1, .ref h1), (3, .int y14)]) hx hb dX11_isFirst_40 rfl hl (by decide) rfl (fun ls hl => ?_)
          obtain ⟨v19, e_v19⟩ : ∃ x : Int32, x = y14 + Int32.ofInt 1 := ⟨_, rfl⟩
          have f_v19 := e_v19.symm
          have e_v19 : v19.toInt = y14.toInt + 1 := ai_add e_v19 rfl (show (Int32.ofInt 1).toInt = 1 from (by decide +kernel)) (by omega)
          refine lv_iinc (v := v19) (lv' := [(3, .int v19), (2, .int 0), (0, .ref h0), (1, .ref h1)]) hx hb dX11_isFirst_41 hl (k := 3) rfl f_v19 (by decide) rfl (fun ls hl => ?_)
          refine lv_goto (tgt := 12) hx hb dX11_isFirst_44 (by decide) ?_
          exact ih12_16 v19 (0) _ _ _ (by have := li_0; omega) (by have := li_0; omega)  (by have := li_0; omega) hT hS (lv_sub hl [2, 3, 1, 0] rfl)
        · skip
          have c_18 := ni_ne c_18 rfl li_0
          refine lv_aload_n hx hb dX11_isFirst_22 rfl (lv_at hl 1 rfl) ?_
          refine lv_iload_n hx hb dX11_isFirst_23 rfl (lv_at hl 3 rfl) ?_
          refine tz_lald hx hb hK hT 0 rfl (by omega) dX11_isFirst_24 (fun v20 e_v20 => ?_)
          clear e_v20
          refine lv_aload_n hx hb dX11_isFirst_25 rfl (lv_at hl 0 rfl) ?_
          refine tz_get (ci := 8) (v := .ref h6) (C := RX11) (F := TX11) (N := 36) hx hb hU iX11 hown hK hT 1 rfl rfl 13 (by decide) w798 (fun _ h9 => h9) rfl dX11_isFirst_26 ?_
          refine lv_iload_n hx hb dX11_isFirst_29 rfl (lv_at hl 3 rfl) ?_
          refine tz_lald hx hb hK hT 2 rfl (by omega) dX11_isFirst_30 (fun v21 e_v21 => ?_)
          clear e_v21
          refine W.lcmp hx hb dX11_isFirst_31 ?_
          refine lv_if_ne (tgt := 39) hx hb dX11_isFirst_32 (by decide) (fun c_22 => ?_) (fun c_22 => ?_)
          · skip
            have c_22 := nl_ne c_22 rfl rfl
            refine lv_iconst (v := 0) hx hb dX11_isFirst_39 (by decide) ?_
            refine lv_istore_n (lv' := [(2, .int 0), (0, .ref h0), (1, .ref h1), (3, .int y14)]) hx hb dX11_isFirst_40 rfl hl (by decide) rfl (fun ls hl => ?_)
            obtain ⟨v23, e_v23⟩ : ∃ x : Int32, x = y14 + Int32.ofInt 1 := ⟨_, rfl⟩
            have f_v23 := e_v23.symm
            have e_v23 : v23.toInt = y14.toInt + 1 := ai_add e_v23 rfl (show (Int32.ofInt 1).toInt = 1 from (by decide +kernel)) (by omega)
            refine lv_iinc (v := v23) (lv' := [(3, .int v23), (2, .int 0), (0, .ref h0), (1, .ref h1)]) hx hb dX11_isFirst_41 hl (k := 3) rfl f_v23 (by decide) rfl (fun ls hl => ?_)
            refine lv_goto (tgt := 12) hx hb dX11_isFirst_44 (by decide) ?_
            exact ih12_16 v23 (0) _ _ _ (by have := li_0; omega) (by have := li_0; omega)  (by have := li_0; omega) hT hS (lv_sub hl [2, 3, 1, 0] rfl)
          · skip
            have c_22 := nl_eq c_22 rfl rfl
            refine lv_iconst (v := 1) hx hb dX11_isFirst_35 (by decide) ?_
            refine lv_goto (tgt := 40) hx hb dX11_isFirst_36 (by decide) ?_
            refine lv_istore_n (lv' := [(2, .int 1), (0, .ref h0), (1, .ref h1), (3, .int y14)]) hx hb dX11_isFirst_40 rfl hl (by decide) rfl (fun ls hl => ?_)
            obtain ⟨v24, e_v24⟩ : ∃ x : Int32, x = y14 + Int32.ofInt 1 := ⟨_, rfl⟩
            have f_v24 := e_v24.symm
            have e_v24 : v24.toInt = y14.toInt + 1 := ai_add e_v24 rfl (show (Int32.ofInt 1).toInt = 1 from (by decide +kernel)) (by omega)
            refine lv_iinc (v := v24) (lv' := [(3, .int v24), (2, .int 1), (0, .ref h0), (1, .ref h1)]) hx hb dX11_isFirst_41 hl (k := 3) rfl f_v24 (by decide) rfl (fun ls hl => ?_)
            refine lv_goto (tgt := 12) hx hb dX11_isFirst_44 (by decide) ?_
            exact ih12_16 v24 (1) _ _ _ (by have := li_1; omega) (by have := li_1; omega)  (by have := li_1; omega) hT hS (lv_sub hl [2, 3, 1, 0] rfl)
  exact lp12_16 (((-1) * (0 : Int32).toInt + 9 + 1).toNat + 1) (0) (1) _ _ _ (by have := li_0; have := li_1; omega) (by have := li_0; have := li_1; omega)  (Nat.lt_succ_self _) hT hS (lv_sub hl [2, 3, 1, 0] rfl)
abbrev Rm_cX11_isGreat_0e21c : Room := { frames := 1, cells := 0, slots := 0, locals := 25 }
abbrev B_cX11_isGreat_0e21c (D : va_G) (k : Nat → ClassId) (h0 h1 h2 h3 h4 h5 h6 h7 h8 h9 h10 h11 h12 h13 h14 h15 h16 h17 h18 h19 h20 h21 : Nat) (h0f0 : Int32) (h0f1 : Int32) (h0f2 : Int32) (h0f3 : Int32) (h0f4 : Int32) (h0f5 : Int32) (h0f8 : Int32) (h0f9 : Int32) (h0f17 : Int32) (h0f18 : Int32) (h0f19 : Int32) (h0f24 : Int32) (h0f25 : Int32) (h0f30 : Int32) (h0f31 : Int32) (A : Nat → Prop) (r : Int32) (H : Heap) : Prop := (0 ≤ r.toInt ∧ r.toInt ≤ 1) ∧ TP D A [(h0, ob 8 [.int h0f0, .int h0f1, .int h0f2, .int h0f3, .int h0f4, .int h0f5, .ref h2, .ref h3, .int h0f8, .int h0f9, .ref h4, .ref h5, .ref h1, .ref h6, .ref h7, .ref h8, .ref h9, .int h0f17, .int h0f18, .int h0f19, .ref h10, .ref h11, .ref h12, .ref h13, .int h0f24, .int h0f25, .ref h14, .ref h15, .ref h16, .ref h17, .int h0f30, .int h0f31, .ref h18, .ref h19, .ref h20, .ref h21]), (h1, aJ (k 1) 9 anJ)] H
set_option maxHeartbeats 4000000 in
set_option maxRecDepth 100000 in
theorem cX11_isGreat_0e21c (l : Launch) (D : va_G) (k : Nat → ClassId) (sz : Nat) (h0 h1 h2 h3 h4 h5 h6 h7 h8 h9 h10 h11 h12 h13 h14 h15 h16 h17 h18 h19 h20 h21 : Nat) (h0f0 : Int32) (h0f1 : Int32) (h0f2 : Int32) (h0f3 : Int32) (h0f4 : Int32) (h0f5 : Int32) (h0f8 : Int32) (h0f9 : Int32) (h0f17 : Int32) (h0f18 : Int32) (h0f19 : Int32) (h0f24 : Int32) (h0f25 : Int32) (h0f30 : Int32) (h0f31 : Int32) (b_h0f0 : 1 ≤ h0f0.toInt ∧ h0f0.toInt ≤ 3) (b_h0f1 : 0 ≤ h0f1.toInt ∧ h0f1.toInt ≤ 4) (b_h0f3 : 0 ≤ h0f3.toInt ∧ h0f3.toInt ≤ 3) (b_h0f4 : 0 ≤ h0f4.toInt ∧ h0f4.toInt ≤ 4) (b_h0f8 : 0 ≤ h0f8.toInt ∧ h0f8.toInt ≤ 1) (b_h0f9 : 0 ≤ h0f9.toInt ∧ h0f9.toInt ≤ 1) (b_h0f17 : 0 ≤ h0f17.toInt ∧ h0f17.toInt ≤ 120) (b_h0f18 : 0 ≤ h0f18.toInt ∧ h0f18.toInt ≤ 120) (b_h0f19 : 0 ≤ h0f19.toInt ∧ h0f19.toInt ≤ 4) (b_h0f24 : 0 ≤ h0f24.toInt ∧ h0f24.toInt ≤ 100) (b_h0f25 : 0 ≤ h0f25.toInt ∧ h0f25.toInt ≤ 1) (b_h0f30 : 0 ≤ h0f30.toInt ∧ h0f30.toInt ≤ 60) (b_h0f31 : 0 ≤ h0f31.toInt ∧ h0f31.toInt ≤ 1) (i_0 : h0f8.toInt ≤ h0f3.toInt) (i_1 : h0f9.toInt ≤ h0f24.toInt) : Met l yX11_isGreat (Cond.code yX11_isGreat cX11_isGreat 4 (some .boolean) :: uw) Rm_cX11_isGreat_0e21c (pT D k sz [.ref h0, .ref h1] [(h0, ob 8 [.int h0f0, .int h0f1, .int h0f2, .int h0f3, .int h0f4, .int h0f5, .ref h2, .ref h3, .int h0f8, .int h0f9, .ref h4, .ref h5, .ref h1, .ref h6, .ref h7, .ref h8, .ref h9, .int h0f17, .int h0f18, .int h0f19, .ref h10, .ref h11, .ref h12, .ref h13, .int h0f24, .int h0f25, .ref h14, .ref h15, .ref h16, .ref h17, .int h0f30, .int h0f31, .ref h18, .ref h19, .ref h20, .ref h21]), (h1, aJ (k 1) 9 anJ)]) (qI (B_cX11_isGreat_0e21c D k h0 h1 h2 h3 h4 h5 h6 h7 h8 h9 h10 h11 h12 h13 h14 h15 h16 h17 h18 h19 h20 h21 h0f0 h0f1 h0f2 h0f3 h0f4 h0f5 h0f8 h0f9 h0f17 h0f18 h0f19 h0f24 h0f25 h0f30 h0f31 (zA [h0, h1] sz)) (zA [h0, h1] sz)) 0 0 (zA [h0, h1] sz) := by
  refine tz_begin (as := [h0, h1]) (Qc := fun A => qI (B_cX11_isGreat_0e21c D k h0 h1 h2 h3 h4 h5 h6 h7 h8 h9 h10 h11 h12 h13 h14 h15 h16 h17 h18 h19 h20 h21 h0f0 h0f1 h0f2 h0f3 h0f4 h0f5 h0f8 h0f9 h0f17 h0f18 h0f19 h0f24 h0f25 h0f30 h0f31 A) A) (by decide +kernel) rfl (Nat.le_of_ble_eq_true rfl) ?_
  intro p e s m args below meth c ls A Q hx hb hr hml hown hlocks hin hU hK hT hS hA hl hQ
  have hl : lv_has ls 4 [(0, .ref h0), (1, .ref h1)] := hl
  have hT : TP D A [(h0, ob 8 [.int h0f0, .int h0f1, .int h0f2, .int h0f3, .int h0f4, .int h0f5, .ref h2, .ref h3, .int h0f8, .int h0f9, .ref h4, .ref h5, .ref h1, .ref h6, .ref h7, .ref h8, .ref h9, .int h0f17, .int h0f18, .int h0f19, .ref h10, .ref h11, .ref h12, .ref h13, .int h0f24, .int h0f25, .ref h14, .ref h15, .ref h16, .ref h17, .int h0f30, .int h0f31, .ref h18, .ref h19, .ref h20, .ref h21]), (h1, aJ (k 1) 9 anJ)] s.heap := hT
  refine lv_iconst (v := 0) hx hb dX11_isGreat_0 (by decide) ?_
  refine lv_istore_n (lv' := [(2, .int 0), (0, .ref h0), (1, .ref h1)]) hx hb dX11_isGreat_1 rfl hl (by decide) rfl (fun ls hl => ?_)
  refine lv_iconst (v := 0) hx hb dX11_isGreat_2 (by decide) ?_
  refine lv_istore_n (lv' := [(3, .int 0), (2, .int 0), (0, .ref h0), (1, .ref h1)]) hx hb dX11_isGreat_3 rfl hl (by decide) rfl (fun ls hl => ?_)
  have lp4_15 : ∀ (n : Nat) (y13 : Int32) (y14 : Int32) (H : Heap) (locs : List Loc) (ls : Array Slot), (0 ≤ y13.toInt ∧ y13.toInt ≤ 9) → (0 ≤ y14.toInt ∧ y14.toInt ≤ 1) → ((-1) * y13.toInt + 9 + 1).toNat < n → TP D A [(h0, ob 8 [.int h0f0, .int h0f1, .int h0f2, .int h0f3, .int h0f4, .int h0f5, .ref h2, .ref h3, .int h0f8, .int h0f9, .ref h4, .ref h5, .ref h1, .ref h6, .ref h7, .ref h8, .ref h9, .int h0f17, .int h0f18, .int h0f19, .ref h10, .ref h11, .ref h12, .ref h13, .int h0f24, .int h0f25, .ref h14, .ref h15, .ref h16, .ref h17, .int h0f30, .int h0f31, .ref h18, .ref h19, .ref h20, .ref h21]), (h1, aJ (k 1) 9 anJ)] H → va_S A s.heap H locs → lv_has ls 4 [(1, .ref h1), (2, .int y14), (3, .int y13)] → W p l e Rm_cX11_isGreat_0e21c s m args below meth c H locs 0 0 Q (F0 m 4 ls []) := by
    intro n
    induction n with
    | zero => intro y13 y14 H locs ls b_y13 b_y14 hm hT hS hl; exact absurd hm (Nat.not_lt_zero _)
    | succ n ih =>
      intro y13 y14 H locs ls b_y13 b_y14 hm hT hS hl
      have ih4_15 := ih
      clear ih
      refine lv_iload_n hx hb dX11_isGreat_4 rfl (lv_at hl 2 rfl) ?_
      refine lv_bipush (v := 9) hx hb dX11_isGreat_5 (by decide) ?_
      refine lv_icmp_ge (tgt := 41) hx hb dX11_isGreat_7 (by decide) (fun c_16 => ?_) (fun c_16 => ?_)
      · skip
        have c_16 := ni_le c_16 li_9 rfl
        refine lv_iload_n hx hb dX11_isGreat_41 rfl (lv_at hl 1 rfl) ?_
        exact tz_retZ (B := B_cX11_isGreat_0e21c D k h0 h1 h2 h3 h4 h5 h6 h7 h8 h9 h10 h11 h12 h13 h14 h15 h16 h17 h18 h19 h20 h21 h0f0 h0f1 h0f2 h0f3 h0f4 h0f5 h0f8 h0f9 h0f17 h0f18 h0f19 h0f24 h0f25 h0f30 h0f31) (v := y14) hQ hx hb hr hlocks hS (Nat.le_of_ble_eq_true rfl) (Nat.le_of_ble_eq_true rfl) dX11_isGreat_42 (by omega) (⟨(by omega), hT⟩)
      · skip
        have c_16 := ni_nle c_16 li_9 rfl
        refine lv_iload_n hx hb dX11_isGreat_10 rfl (lv_at hl 1 rfl) ?_
        refine lv_if_ne (tgt := 29) hx hb dX11_isGreat_11 (by decide) (fun c_17 => ?_) (fun c_17 => ?_)
        · skip
          have c_17 := ni_ne c_17 rfl li_0
          refine lv_iconst (v := 1) hx hb dX11_isGreat_29 (by decide) ?_
          refine lv_goto (tgt := 34) hx hb dX11_isGreat_30 (by decide) ?_
          refine lv_istore_n (lv' := [(2, .int 1), (1, .ref h1), (3, .int y13)]) hx hb dX11_isGreat_34 rfl hl (by decide) rfl (fun ls hl => ?_)
          obtain ⟨v18, e_v18⟩ : ∃ x : Int32, x = y13 + Int32.ofInt 1 := ⟨_, rfl⟩
          have f_v18 := e_v18.symm
          have e_v18 : v18.toInt = y13.toInt + 1 := ai_add e_v18 rfl (show (Int32.ofInt 1).toInt = 1 from (by decide +kernel)) (by omega)
          refine lv_iinc (v := v18) (lv' := [(3, .int v18), (2, .int 1), (1, .ref h1)]) hx hb dX11_isGreat_35 hl (k := 2) rfl f_v18 (by decide) rfl (fun ls hl => ?_)
          refine lv_goto (tgt := 4) hx hb dX11_isGreat_38 (by decide) ?_
          exact ih4_15 v18 (1) _ _ _ (by have := li_1; omega) (by have := li_1; omega)  (by have := li_1; omega) hT hS (lv_sub hl [2, 1, 0] rfl)
        · skip
          have c_17 := ni_eq c_17 rfl li_0
          refine lv_aload_n hx hb dX11_isGreat_14 rfl (lv_at hl 0 rfl) ?_
          refine lv_iload_n hx hb dX11_isGreat_15 rfl (lv_at hl 2 rfl) ?_
          refine tz_lald hx hb hK hT 1 rfl (by omega) dX11_isGreat_16 (fun v19 e_v19 => ?_)
          clear e_v19
          refine lv_ldc2 hx hb hown (hU _ w981) dX11_isGreat_17 ?_
          refine lv_ldc2 hx hb hown (hU _ w982) dX11_isGreat_20 ?_
          have q_q21 := ll_m1000000000
          have q_q22 := ll_1000000000
          refine tcI (Tc := []) (Tr := [(h0, ob 8 [.int h0f0, .int h0f1, .int h0f2, .int h0f3, .int h0f4, .int h0f5, .ref h2, .ref h3, .int h0f8, .int h0f9, .ref h4, .ref h5, .ref h1, .ref h6, .ref h7, .ref h8, .ref h9, .int h0f17, .int h0f18, .int h0f19, .ref h10, .ref h11, .ref h12, .ref h13, .int h0f24, .int h0f25, .ref h14, .ref h15, .ref h16, .ref h17, .int h0f30, .int h0f31, .ref h18, .ref h19, .ref h20, .ref h21]), (h1, aJ (k 1) 9 anJ)]) (as := []) (zcS (As := [.long v19, .long (-1000000000), .long 1000000000]) (rest := []) (Tc := []) hx hb hml hown hU hK hT [] rfl (by decide) (cX11_in_ca3b9 l D k _ v19 ((-1000000000)) (1000000000) (by have := ll_m1000000000; omega) (by have := ll_1000000000; omega)) w901 w899 w900 w72 hdX11_in ⟨rfl, rfl⟩ ⟨Nat.le_of_ble_eq_true rfl, Nat.le_of_ble_eq_true rfl⟩ rfl hl.1 (Nat.le_of_ble_eq_true rfl) dX11_isGreat_23 ⟨Nat.le_of_ble_eq_true rfl, Nat.le_of_ble_eq_true rfl⟩) hT hS hA [] [0, 1] rfl rfl rfl (by decide) (by decide) (fun r20 H locs hB J hS => ?_)
          rcases hB with ⟨rfl, hT1⟩ | ⟨c_23, c_24, rfl, hT1⟩
          · skip
            have hT := J _ hT1
            have hT : TP D A [(h0, ob 8 [.int h0f0, .int h0f1, .int h0f2, .int h0f3, .int h0f4, .int h0f5, .ref h2, .ref h3, .int h0f8, .int h0f9, .ref h4, .ref h5, .ref h1, .ref h6, .ref h7, .ref h8, .ref h9, .int h0f17, .int h0f18, .int h0f19, .ref h10, .ref h11, .ref h12, .ref h13, .int h0f24, .int h0f25, .ref h14, .ref h15, .ref h16, .ref h17, .int h0f30, .int h0f31, .ref h18, .ref h19, .ref h20, .ref h21]), (h1, aJ (k 1) 9 anJ)] _ := hT
            refine lv_if_ne (tgt := 33) hx hb dX11_isGreat_26 (by decide) (fun cc => absurd (by decide +kernel) cc) (fun _ => ?_)
            refine lv_iconst (v := 1) hx hb dX11_isGreat_29 (by decide) ?_
            refine lv_goto (tgt := 34) hx hb dX11_isGreat_30 (by decide) ?_
            refine lv_istore_n (lv' := [(2, .int 1), (1, .ref h1), (3, .int y13)]) hx hb dX11_isGreat_34 rfl hl (by decide) rfl (fun ls hl => ?_)
            obtain ⟨v25, e_v25⟩ : ∃ x : Int32, x = y13 + Int32.ofInt 1 := ⟨_, rfl⟩
            have f_v25 := e_v25.symm
            have e_v25 : v25.toInt = y13.toInt + 1 := ai_add e_v25 rfl (show (Int32.ofInt 1).toInt = 1 from (by decide +kernel)) (by omega)
            refine lv_iinc (v := v25) (lv' := [(3, .int v25), (2, .int 1), (1, .ref h1)]) hx hb dX11_isGreat_35 hl (k := 2) rfl f_v25 (by decide) rfl (fun ls hl => ?_)
            refine lv_goto (tgt := 4) hx hb dX11_isGreat_38 (by decide) ?_
            exact ih4_15 v25 (1) _ _ _ (by have := li_1; omega) (by have := li_1; omega)  (by have := li_1; omega) hT hS (lv_sub hl [2, 1, 0] rfl)
          · skip
            have hT := J _ hT1
            have hT : TP D A [(h0, ob 8 [.int h0f0, .int h0f1, .int h0f2, .int h0f3, .int h0f4, .int h0f5, .ref h2, .ref h3, .int h0f8, .int h0f9, .ref h4, .ref h5, .ref h1, .ref h6, .ref h7, .ref h8, .ref h9, .int h0f17, .int h0f18, .int h0f19, .ref h10, .ref h11, .ref h12, .ref h13, .int h0f24, .int h0f25, .ref h14, .ref h15, .ref h16, .ref h17, .int h0f30, .int h0f31, .ref h18, .ref h19, .ref h20, .ref h21]), (h1, aJ (k 1) 9 anJ)] _ := hT
            refine lv_if_ne (tgt := 33) hx hb dX11_isGreat_26 (by decide) (fun _ => ?_) (fun cc => absurd cc (by decide +kernel))
            refine lv_iconst (v := 0) hx hb dX11_isGreat_33 (by decide) ?_
            refine lv_istore_n (lv' := [(2, .int 0), (1, .ref h1), (3, .int y13)]) hx hb dX11_isGreat_34 rfl hl (by decide) rfl (fun ls hl => ?_)
            obtain ⟨v26, e_v26⟩ : ∃ x : Int32, x = y13 + Int32.ofInt 1 := ⟨_, rfl⟩
            have f_v26 := e_v26.symm
            have e_v26 : v26.toInt = y13.toInt + 1 := ai_add e_v26 rfl (show (Int32.ofInt 1).toInt = 1 from (by decide +kernel)) (by omega)
            refine lv_iinc (v := v26) (lv' := [(3, .int v26), (2, .int 0), (1, .ref h1)]) hx hb dX11_isGreat_35 hl (k := 2) rfl f_v26 (by decide) rfl (fun ls hl => ?_)
            refine lv_goto (tgt := 4) hx hb dX11_isGreat_38 (by decide) ?_
            exact ih4_15 v26 (0) _ _ _ (by have := li_0; omega) (by have := li_0; omega)  (by have := li_0; omega) hT hS (lv_sub hl [2, 1, 0] rfl)
  exact lp4_15 (((-1) * (0 : Int32).toInt + 9 + 1).toNat + 1) (0) (0) _ _ _ (by have := li_0; omega) (by have := li_0; omega)  (Nat.lt_succ_self _) hT hS (lv_sub hl [3, 1, 0] rfl)
abbrev Rm_cX11_order_1ed37 : Room := { frames := 3, cells := 0, slots := 0, locals := 67 }
abbrev B_cX11_order_1ed37 (D : va_G) (k : Nat → ClassId) (h0 h3 h4 h5 h6 h1 h2 h7 h8 h9 h10 h11 h12 h13 h14 h15 h16 h17 h18 h19 h20 h21 : Nat) (h0f0 : Int32) (h0f1 : Int32) (h0f2 : Int32) (h0f3 : Int32) (h0f4 : Int32) (h0f5 : Int32) (h0f8 : Int32) (h0f9 : Int32) (h0f17 : Int32) (h0f18 : Int32) (h0f19 : Int32) (h0f24 : Int32) (h0f25 : Int32) (h0f30 : Int32) (h0f31 : Int32) (A : Nat → Prop) (r : Int32) (H : Heap) : Prop := ((-3) ≤ r.toInt ∧ r.toInt ≤ 12) ∧ TP D A [(h0, ob 8 [.int h0f0, .int h0f1, .int h0f2, .int h0f3, .int h0f4, .int h0f5, .ref h1, .ref h2, .int h0f8, .int h0f9, .ref h3, .ref h4, .ref h5, .ref h6, .ref h7, .ref h8, .ref h9, .int h0f17, .int h0f18, .int h0f19, .ref h10, .ref h11, .ref h12, .ref h13, .int h0f24, .int h0f25, .ref h14, .ref h15, .ref h16, .ref h17, .int h0f30, .int h0f31, .ref h18, .ref h19, .ref h20, .ref h21]), (h3, aJ (k 1) 9 anJ), (h4, aJ (k 1) 9 anJ), (h5, aJ (k 1) 9 anJ), (h6, aJ (k 1) 9 anJ)] H
set_option maxHeartbeats 4000000 in
set_option maxRecDepth 100000 in
theorem cX11_order_1ed37 (l : Launch) (D : va_G) (k : Nat → ClassId) (sz : Nat) (h0 h3 h4 h5 h6 h1 h2 h7 h8 h9 h10 h11 h12 h13 h14 h15 h16 h17 h18 h19 h20 h21 : Nat) (h0f0 : Int32) (h0f1 : Int32) (h0f2 : Int32) (h0f3 : Int32) (h0f4 : Int32) (h0f5 : Int32) (h0f8 : Int32) (h0f9 : Int32) (h0f17 : Int32) (h0f18 : Int32) (h0f19 : Int32) (h0f24 : Int32) (h0f25 : Int32) (h0f30 : Int32) (h0f31 : Int32) (b_h0f0 : 1 ≤ h0f0.toInt ∧ h0f0.toInt ≤ 3) (b_h0f1 : 0 ≤ h0f1.toInt ∧ h0f1.toInt ≤ 4) (b_h0f3 : 0 ≤ h0f3.toInt ∧ h0f3.toInt ≤ 3) (b_h0f4 : 0 ≤ h0f4.toInt ∧ h0f4.toInt ≤ 4) (b_h0f8 : 0 ≤ h0f8.toInt ∧ h0f8.toInt ≤ 1) (b_h0f9 : 0 ≤ h0f9.toInt ∧ h0f9.toInt ≤ 1) (b_h0f17 : 0 ≤ h0f17.toInt ∧ h0f17.toInt ≤ 120) (b_h0f18 : 0 ≤ h0f18.toInt ∧ h0f18.toInt ≤ 120) (b_h0f19 : 0 ≤ h0f19.toInt ∧ h0f19.toInt ≤ 4) (b_h0f24 : 0 ≤ h0f24.toInt ∧ h0f24.toInt ≤ 100) (b_h0f25 : 0 ≤ h0f25.toInt ∧ h0f25.toInt ≤ 1) (b_h0f30 : 0 ≤ h0f30.toInt ∧ h0f30.toInt ≤ 60) (b_h0f31 : 0 ≤ h0f31.toInt ∧ h0f31.toInt ≤ 1) (i_0 : h0f8.toInt ≤ h0f3.toInt) (i_1 : h0f9.toInt ≤ h0f24.toInt) : Met l yX11_order (Cond.code yX11_order cX11_order 5 (some .int) :: uw) Rm_cX11_order_1ed37 (pT D k sz [.ref h0] [(h0, ob 8 [.int h0f0, .int h0f1, .int h0f2, .int h0f3, .int h0f4, .int h0f5, .ref h1, .ref h2, .int h0f8, .int h0f9, .ref h3, .ref h4, .ref h5, .ref h6, .ref h7, .ref h8, .ref h9, .int h0f17, .int h0f18, .int h0f19, .ref h10, .ref h11, .ref h12, .ref h13, .int h0f24, .int h0f25, .ref h14, .ref h15, .ref h16, .ref h17, .int h0f30, .int h0f31, .ref h18, .ref h19, .ref h20, .ref h21]), (h3, aJ (k 1) 9 anJ), (h4, aJ (k 1) 9 anJ), (h5, aJ (k 1) 9 anJ), (h6, aJ (k 1) 9 anJ)]) (qI (B_cX11_order_1ed37 D k h0 h3 h4 h5 h6 h1 h2 h7 h8 h9 h10 h11 h12 h13 h14 h15 h16 h17 h18 h19 h20 h21 h0f0 h0f1 h0f2 h0f3 h0f4 h0f5 h0f8 h0f9 h0f17 h0f18 h0f19 h0f24 h0f25 h0f30 h0f31 (zA [h0, h3, h4, h5, h6] sz)) (zA [h0, h3, h4, h5, h6] sz)) 0 0 (zA [h0, h3, h4, h5, h6] sz) := by
  refine tz_begin (as := [h0, h3, h4, h5, h6]) (Qc := fun A => qI (B_cX11_order_1ed37 D k h0 h3 h4 h5 h6 h1 h2 h7 h8 h9 h10 h11 h12 h13 h14 h15 h16 h17 h18 h19 h20 h21 h0f0 h0f1 h0f2 h0f3 h0f4 h0f5 h0f8 h0f9 h0f17 h0f18 h0f19 h0f24 h0f25 h0f30 h0f31 A) A) (by decide +kernel) rfl (Nat.le_of_ble_eq_true rfl) ?_
  intro p e s m args below meth c ls A Q hx hb hr hml hown hlocks hin hU hK hT hS hA hl hQ
  have hl : lv_has ls 5 [(0, .ref h0)] := hl
  have hT : TP D A [(h0, ob 8 [.int h0f0, .int h0f1, .int h0f2, .int h0f3, .int h0f4, .int h0f5, .ref h1, .ref h2, .int h0f8, .int h0f9, .ref h3, .ref h4, .ref h5, .ref h6, .ref h7, .ref h8, .ref h9, .int h0f17, .int h0f18, .int h0f19, .ref h10, .ref h11, .ref h12, .ref h13, .int h0f24, .int h0f25, .ref h14, .ref h15, .ref h16, .ref h17, .int h0f30, .int h0f31, .ref h18, .ref h19, .ref h20, .ref h21]), (h3, aJ (k 1) 9 anJ), (h4, aJ (k 1) 9 anJ), (h5, aJ (k 1) 9 anJ), (h6, aJ (k 1) 9 anJ)] s.heap := hT
  refine lv_aload_n hx hb dX11_order_0 rfl (lv_at hl 0 rfl) ?_
  refine tz_get (ci := 8) (v := .ref h5) (C := RX11) (F := TX11) (N := 36) hx hb hU iX11 hown hK hT 0 rfl rfl 12 (by decide) w797 (fun _ h9 => h9) rfl dX11_order_1 ?_
  refine lv_astore_n (lv' := [(1, .ref h5), (0, .ref h0)]) hx hb dX11_order_4 rfl hl (by decide) rfl (fun ls hl => ?_)
  refine lv_aload_n hx hb dX11_order_5 rfl (lv_at hl 1 rfl) ?_
  refine tz_get (ci := 8) (v := .ref h3) (C := RX11) (F := TX11) (N := 36) hx hb hU iX11 hown hK hT 0 rfl rfl 10 (by decide) w795 (fun _ h9 => h9) rfl dX11_order_6 ?_
  refine lv_astore_n (lv' := [(2, .ref h3), (1, .ref h5), (0, .ref h0)]) hx hb dX11_order_9 rfl hl (by decide) rfl (fun ls hl => ?_)
  refine lv_aload_n hx hb dX11_order_10 rfl (lv_at hl 2 rfl) ?_
  refine lv_aload_n hx hb dX11_order_11 rfl (lv_at hl 1 rfl) ?_
  refine tcV (Tc := [(h0, ob 8 [.int h0f0, .int h0f1, .int h0f2, .int h0f3, .int h0f4, .int h0f5, .ref h1, .ref h2, .int h0f8, .int h0f9, .ref h3, .ref h4, .ref h5, .ref h6, .ref h7, .ref h8, .ref h9, .int h0f17, .int h0f18, .int h0f19, .ref h10, .ref h11, .ref h12, .ref h13, .int h0f24, .int h0f25, .ref h14, .ref h15, .ref h16, .ref h17, .int h0f30, .int h0f31, .ref h18, .ref h19, .ref h20, .ref h21]), (h5, aJ (k 1) 9 anJ)]) (Tr := [(h3, aJ (k 1) 9 anJ), (h4, aJ (k 1) 9 anJ), (h6, aJ (k 1) 9 anJ)]) (as := [h0, h5]) (zcV (q0 := 0) (ci := 8) (As := [.ref h5]) (rest := []) (Tc := [(h0, ob 8 [.int h0f0, .int h0f1, .int h0f2, .int h0f3, .int h0f4, .int h0f5, .ref h1, .ref h2, .int h0f8, .int h0f9, .ref h3, .ref h4, .ref h5, .ref h6, .ref h7, .ref h8, .ref h9, .int h0f17, .int h0f18, .int h0f19, .ref h10, .ref h11, .ref h12, .ref h13, .int h0f24, .int h0f25, .ref h14, .ref h15, .ref h16, .ref h17, .int h0f30, .int h0f31, .ref h18, .ref h19, .ref h20, .ref h21]), (h5, aJ (k 1) 9 anJ)]) hx hb hml hown hU hK hT rfl rfl [0, 3] rfl (by decide) (cX11_first_2048a l D k _ h0 h5 h1 h2 h3 h4 h6 h7 h8 h9 h10 h11 h12 h13 h14 h15 h16 h17 h18 h19 h20 h21 h0f0 h0f1 h0f2 h0f3 h0f4 h0f5 h0f8 h0f9 h0f17 h0f18 h0f19 h0f24 h0f25 h0f30 h0f31 (by omega) (by omega) (by omega) (by omega) (by omega) (by omega) (by omega) (by omega) (by omega) (by omega) (by omega) (by omega) (by omega) (by omega) (by omega)) w919 w916 w918 w28 w72 hdX11_first ⟨rfl, rfl⟩ ⟨Nat.le_of_ble_eq_true rfl, Nat.le_of_ble_eq_true rfl⟩ rfl hl.1 (Nat.le_of_ble_eq_true rfl) dX11_order_12 ⟨Nat.le_of_ble_eq_true rfl, Nat.le_of_ble_eq_true rfl⟩) hT hS hA [0, 3] [1, 2, 4] rfl rfl rfl (by decide) (by decide) (fun H locs hB J hS => ?_)
  have hT1 := hB
  have hT := J _ hT1
  have hT : TP D A [(h3, aJ (k 1) 9 anJ), (h4, aJ (k 1) 9 anJ), (h6, aJ (k 1) 9 anJ), (h0, ob 8 [.int h0f0, .int h0f1, .int h0f2, .int h0f3, .int h0f4, .int h0f5, .ref h1, .ref h2, .int h0f8, .int h0f9, .ref h3, .ref h4, .ref h5, .ref h6, .ref h7, .ref h8, .ref h9, .int h0f17, .int h0f18, .int h0f19, .ref h10, .ref h11, .ref h12, .ref h13, .int h0f24, .int h0f25, .ref h14, .ref h15, .ref h16, .ref h17, .int h0f30, .int h0f31, .ref h18, .ref h19, .ref h20, .ref h21]), (h5, aJ (k 1) 9 anJ)] _ := hT
  refine lv_iconst (v := 1) hx hb dX11_order_15 (by decide) ?_
  refine lv_istore_n (lv' := [(3, .int 1), (2, .ref h3), (1, .ref h5), (0, .ref h0)]) hx hb dX11_order_16 rfl hl (by decide) rfl (fun ls hl => ?_)
  have lp17_12 : ∀ (n : Nat) (y11 : Int32) (H : Heap) (locs : List Loc) (ls : Array Slot), (1 ≤ y11.toInt ∧ y11.toInt ≤ 13) → ((-1) * y11.toInt + 12 + 1).toNat < n → TP D A [(h3, aJ (k 1) 9 anJ), (h4, aJ (k 1) 9 anJ), (h6, aJ (k 1) 9 anJ), (h0, ob 8 [.int h0f0, .int h0f1, .int h0f2, .int h0f3, .int h0f4, .int h0f5, .ref h1, .ref h2, .int h0f8, .int h0f9, .ref h3, .ref h4, .ref h5, .ref h6, .ref h7, .ref h8, .ref h9, .int h0f17, .int h0f18, .int h0f19, .ref h10, .ref h11, .ref h12, .ref h13, .int h0f24, .int h0f25, .ref h14, .ref h15, .ref h16, .ref h17, .int h0f30, .int h0f31, .ref h18, .ref h19, .ref h20, .ref h21]), (h5, aJ (k 1) 9 anJ)] H → va_S A s.heap H locs → lv_has ls 5 [(0, .ref h0), (1, .ref h5), (2, .ref h3), (3, .int y11)] → W p l e Rm_cX11_order_1ed37 s m args below meth c H locs 0 0 Q (F0 m 17 ls []) := by
    intro n
    induction n with
    | zero => intro y11 H locs ls b_y11 hm hT hS hl; exact absurd hm (Nat.not_lt_zero _)
    | succ n ih =>
      intro y11 H locs ls b_y11 hm hT hS hl
      have ih17_12 := ih
      clear ih
      refine lv_iload_n hx hb dX11_order_17 rfl (lv_at hl 3 rfl) ?_
      refine lv_bipush (v := 12) hx hb dX11_order_18 (by decide) ?_
      refine lv_icmp_gt (tgt := 84) hx hb dX11_order_20 (by decide) (fun c_13 => ?_) (fun c_13 => ?_)
      · skip
        have c_13 := ni_lt c_13 li_12 rfl
        refine lv_bipush (v := (-3)) hx hb dX11_order_84 (by decide) ?_
        exact tz_retI (B := B_cX11_order_1ed37 D k h0 h3 h4 h5 h6 h1 h2 h7 h8 h9 h10 h11 h12 h13 h14 h15 h16 h17 h18 h19 h20 h21 h0f0 h0f1 h0f2 h0f3 h0f4 h0f5 h0f8 h0f9 h0f17 h0f18 h0f19 h0f24 h0f25 h0f30 h0f31) (v := (-3)) hQ hx hb hr hlocks hS (Nat.le_of_ble_eq_true rfl) (Nat.le_of_ble_eq_true rfl) dX11_order_86 (⟨(by have := li_m3; omega), (hT.sub [3, 0, 1, 4, 2] (by decide) rfl)⟩)
      · skip
        have c_13 := ni_nlt c_13 li_12 rfl
        refine lv_aload_n hx hb dX11_order_23 rfl (lv_at hl 0 rfl) ?_
        refine lv_aload_n hx hb dX11_order_24 rfl (lv_at hl 1 rfl) ?_
        refine lv_aload_n hx hb dX11_order_25 rfl (lv_at hl 0 rfl) ?_
        refine tz_get (ci := 8) (v := .ref h4) (C := RX11) (F := TX11) (N := 36) hx hb hU iX11 hown hK hT 3 rfl rfl 11 (by decide) w796 (fun _ h9 => h9) rfl dX11_order_26 ?_
        refine lv_aload_n hx hb dX11_order_29 rfl (lv_at hl 2 rfl) ?_
        refine tcV (Tc := [(h0, ob 8 [.int h0f0, .int h0f1, .int h0f2, .int h0f3, .int h0f4, .int h0f5, .ref h1, .ref h2, .int h0f8, .int h0f9, .ref h3, .ref h4, .ref h5, .ref h6, .ref h7, .ref h8, .ref h9, .int h0f17, .int h0f18, .int h0f19, .ref h10, .ref h11, .ref h12, .ref h13, .int h0f24, .int h0f25, .ref h14, .ref h15, .ref h16, .ref h17, .int h0f30, .int h0f31, .ref h18, .ref h19, .ref h20, .ref h21]), (h5, aJ (k 1) 9 anJ), (h4, aJ (k 1) 9 anJ), (h3, aJ (k 1) 9 anJ)]) (Tr := [(h6, aJ (k 1) 9 anJ)]) (as := [h0, h5, h4, h3]) (zcV (q0 := 3) (ci := 8) (As := [.ref h5, .ref h4, .ref h3]) (rest := []) (Tc := [(h0, ob 8 [.int h0f0, .int h0f1, .int h0f2, .int h0f3, .int h0f4, .int h0f5, .ref h1, .ref h2, .int h0f8, .int h0f9, .ref h3, .ref h4, .ref h5, .ref h6, .ref h7, .ref h8, .ref h9, .int h0f17, .int h0f18, .int h0f19, .ref h10, .ref h11, .ref h12, .ref h13, .int h0f24, .int h0f25, .ref h14, .ref h15, .ref h16, .ref h17, .int h0f30, .int h0f31, .ref h18, .ref h19, .ref h20, .ref h21]), (h5, aJ (k 1) 9 anJ), (h4, aJ (k 1) 9 anJ), (h3, aJ (k 1) 9 anJ)]) hx hb hml hown hU hK hT rfl rfl [3, 4, 1, 0] rfl (by decide) (cX11_times_2393c l D k _ h0 h5 h4 h3 h1 h2 h6 h7 h8 h9 h10 h11 h12 h13 h14 h15 h16 h17 h18 h19 h20 h21 h0f0 h0f1 h0f2 h0f3 h0f4 h0f5 h0f8 h0f9 h0f17 h0f18 h0f19 h0f24 h0f25 h0f30 h0f31 (by omega) (by omega) (by omega) (by omega) (by omega) (by omega) (by omega) (by omega) (by omega) (by omega) (by omega) (by omega) (by omega) (by omega) (by omega)) w943 w940 w942 w33 w72 hdX11_times ⟨rfl, rfl⟩ ⟨Nat.le_of_ble_eq_true rfl, Nat.le_of_ble_eq_true rfl⟩ rfl hl.1 (Nat.le_of_ble_eq_true rfl) dX11_order_30 ⟨Nat.le_of_ble_eq_true rfl, Nat.le_of_ble_eq_true rfl⟩) hT hS hA [3, 4, 1, 0] [2] rfl rfl rfl (by decide) (by decide) (fun H locs hB J hS => ?_)
        have hT1 := hB
        have hT := J _ hT1
        have hT : TP D A [(h6, aJ (k 1) 9 anJ), (h0, ob 8 [.int h0f0, .int h0f1, .int h0f2, .int h0f3, .int h0f4, .int h0f5, .ref h1, .ref h2, .int h0f8, .int h0f9, .ref h3, .ref h4, .ref h5, .ref h6, .ref h7, .ref h8, .ref h9, .int h0f17, .int h0f18, .int h0f19, .ref h10, .ref h11, .ref h12, .ref h13, .int h0f24, .int h0f25, .ref h14, .ref h15, .ref h16, .ref h17, .int h0f30, .int h0f31, .ref h18, .ref h19, .ref h20, .ref h21]), (h5, aJ (k 1) 9 anJ), (h4, aJ (k 1) 9 anJ), (h3, aJ (k 1) 9 anJ)] _ := hT
        refine lv_iconst (v := 0) hx hb dX11_order_33 (by decide) ?_
        refine lv_istore (lv' := [(4, .int 0), (0, .ref h0), (1, .ref h5), (2, .ref h3), (3, .int y11)]) hx hb dX11_order_34 hl (by decide) rfl (fun ls hl => ?_)
        have lp36_22 : ∀ (n : Nat) (y21 : Int32) (H : Heap) (locs : List Loc) (ls : Array Slot), (0 ≤ y21.toInt ∧ y21.toInt ≤ 9) → ((-1) * y21.toInt + 9 + 1).toNat < n → TP D A [(h6, aJ (k 1) 9 anJ), (h0, ob 8 [.int h0f0, .int h0f1, .int h0f2, .int h0f3, .int h0f4, .int h0f5, .ref h1, .ref h2, .int h0f8, .int h0f9, .ref h3, .ref h4, .ref h5, .ref h6, .ref h7, .ref h8, .ref h9, .int h0f17, .int h0f18, .int h0f19, .ref h10, .ref h11, .ref h12, .ref h13, .int h0f24, .int h0f25, .ref h14, .ref h15, .ref h16, .ref h17, .int h0f30, .int h0f31, .ref h18, .ref h19, .ref h20, .ref h21]), (h5, aJ (k 1) 9 anJ), (h4, aJ (k 1) 9 anJ), (h3, aJ (k 1) 9 anJ)] H → va_S A s.heap H locs → lv_has ls 5 [(0, .ref h0), (1, .ref h5), (2, .ref h3), (3, .int y11), (4, .int y21)] → W p l e Rm_cX11_order_1ed37 s m args below meth c H locs 0 0 Q (F0 m 36 ls []) := by
          intro n
          induction n with
          | zero => intro y21 H locs ls b_y21 hm hT hS hl; exact absurd hm (Nat.not_lt_zero _)
          | succ n ih =>
            intro y21 H locs ls b_y21 hm hT hS hl
            have ih36_22 := ih
            clear ih
            refine lv_iload hx hb dX11_order_36 (lv_at hl 4 rfl) ?_
            refine lv_bipush (v := 9) hx hb dX11_order_38 (by decide) ?_
            refine lv_icmp_ge (tgt := 57) hx hb dX11_order_40 (by decide) (fun c_23 => ?_) (fun c_23 => ?_)
            · skip
              have c_23 := ni_le c_23 li_9 rfl
              refine lv_aload_n hx hb dX11_order_57 rfl (lv_at hl 0 rfl) ?_
              refine lv_aload_n hx hb dX11_order_58 rfl (lv_at hl 1 rfl) ?_
              refine tcI (Tc := [(h0, ob 8 [.int h0f0, .int h0f1, .int h0f2, .int h0f3, .int h0f4, .int h0f5, .ref h1, .ref h2, .int h0f8, .int h0f9, .ref h3, .ref h4, .ref h5, .ref h6, .ref h7, .ref h8, .ref h9, .int h0f17, .int h0f18, .int h0f19, .ref h10, .ref h11, .ref h12, .ref h13, .int h0f24, .int h0f25, .ref h14, .ref h15, .ref h16, .ref h17, .int h0f30, .int h0f31, .ref h18, .ref h19, .ref h20, .ref h21]), (h5, aJ (k 1) 9 anJ), (h6, aJ (k 1) 9 anJ)]) (Tr := [(h4, aJ (k 1) 9 anJ), (h3, aJ (k 1) 9 anJ)]) (as := [h0, h5, h6]) (zcV (q0 := 1) (ci := 8) (As := [.ref h5]) (rest := []) (Tc := [(h0, ob 8 [.int h0f0, .int h0f1, .int h0f2, .int h0f3, .int h0f4, .int h0f5, .ref h1, .ref h2, .int h0f8, .int h0f9, .ref h3, .ref h4, .ref h5, .ref h6, .ref h7, .ref h8, .ref h9, .int h0f17, .int h0f18, .int h0f19, .ref h10, .ref h11, .ref h12, .ref h13, .int h0f24, .int h0f25, .ref h14, .ref h15, .ref h16, .ref h17, .int h0f30, .int h0f31, .ref h18, .ref h19, .ref h20, .ref h21]), (h5, aJ (k 1) 9 anJ), (h6, aJ (k 1) 9 anJ)]) hx hb hml hown hU hK hT rfl rfl [1, 2, 0] rfl (by decide) (cX11_isFirst_6a416 l D k _ h0 h5 h6 h1 h2 h3 h4 h7 h8 h9 h10 h11 h12 h13 h14 h15 h16 h17 h18 h19 h20 h21 h0f0 h0f1 h0f2 h0f3 h0f4 h0f5 h0f8 h0f9 h0f17 h0f18 h0f19 h0f24 h0f25 h0f30 h0f31 (by omega) (by omega) (by omega) (by omega) (by omega) (by omega) (by omega) (by omega) (by omega) (by omega) (by omega) (by omega) (by omega) (by omega) (by omega)) w976 w973 w975 w38 w72 hdX11_isFirst ⟨rfl, rfl⟩ ⟨Nat.le_of_ble_eq_true rfl, Nat.le_of_ble_eq_true rfl⟩ rfl hl.1 (Nat.le_of_ble_eq_true rfl) dX11_order_59 ⟨Nat.le_of_ble_eq_true rfl, Nat.le_of_ble_eq_true rfl⟩) hT hS hA [1, 2, 0] [3, 4] rfl rfl rfl (by decide) (by decide) (fun r24 H locs hB J hS => ?_)
              obtain ⟨b_r24, hT1⟩ := hB
              have hT := J _ hT1
              have hT : TP D A [(h4, aJ (k 1) 9 anJ), (h3, aJ (k 1) 9 anJ), (h0, ob 8 [.int h0f0, .int h0f1, .int h0f2, .int h0f3, .int h0f4, .int h0f5, .ref h1, .ref h2, .int h0f8, .int h0f9, .ref h3, .ref h4, .ref h5, .ref h6, .ref h7, .ref h8, .ref h9, .int h0f17, .int h0f18, .int h0f19, .ref h10, .ref h11, .ref h12, .ref h13, .int h0f24, .int h0f25, .ref h14, .ref h15, .ref h16, .ref h17, .int h0f30, .int h0f31, .ref h18, .ref h19, .ref h20, .ref h21]), (h5, aJ (k 1) 9 anJ), (h6, aJ (k 1) 9 anJ)] _ := hT
              refine lv_if_eq (tgt := 67) hx hb dX11_order_62 (by decide) (fun c_25 => ?_) (fun c_25 => ?_)
              · skip
                have c_25 := ni_eq c_25 rfl li_0
                refine lv_aload_n hx hb dX11_order_67 rfl (lv_at hl 0 rfl) ?_
                refine lv_aload_n hx hb dX11_order_68 rfl (lv_at hl 1 rfl) ?_
                refine tcI (Tc := [(h0, ob 8 [.int h0f0, .int h0f1, .int h0f2, .int h0f3, .int h0f4, .int h0f5, .ref h1, .ref h2, .int h0f8, .int h0f9, .ref h3, .ref h4, .ref h5, .ref h6, .ref h7, .ref h8, .ref h9, .int h0f17, .int h0f18, .int h0f19, .ref h10, .ref h11, .ref h12, .ref h13, .int h0f24, .int h0f25, .ref h14, .ref h15, .ref h16, .ref h17, .int h0f30, .int h0f31, .ref h18, .ref h19, .ref h20, .ref h21]), (h5, aJ (k 1) 9 anJ)]) (Tr := [(h4, aJ (k 1) 9 anJ), (h3, aJ (k 1) 9 anJ), (h6, aJ (k 1) 9 anJ)]) (as := [h0, h5]) (zcV (q0 := 2) (ci := 8) (As := [.ref h5]) (rest := []) (Tc := [(h0, ob 8 [.int h0f0, .int h0f1, .int h0f2, .int h0f3, .int h0f4, .int h0f5, .ref h1, .ref h2, .int h0f8, .int h0f9, .ref h3, .ref h4, .ref h5, .ref h6, .ref h7, .ref h8, .ref h9, .int h0f17, .int h0f18, .int h0f19, .ref h10, .ref h11, .ref h12, .ref h13, .int h0f24, .int h0f25, .ref h14, .ref h15, .ref h16, .ref h17, .int h0f30, .int h0f31, .ref h18, .ref h19, .ref h20, .ref h21]), (h5, aJ (k 1) 9 anJ)]) hx hb hml hown hU hK hT rfl rfl [2, 3] rfl (by decide) (cX11_isGreat_0e21c l D k _ h0 h5 h1 h2 h3 h4 h6 h7 h8 h9 h10 h11 h12 h13 h14 h15 h16 h17 h18 h19 h20 h21 h0f0 h0f1 h0f2 h0f3 h0f4 h0f5 h0f8 h0f9 h0f17 h0f18 h0f19 h0f24 h0f25 h0f30 h0f31 (by omega) (by omega) (by omega) (by omega) (by omega) (by omega) (by omega) (by omega) (by omega) (by omega) (by omega) (by omega) (by omega) (by omega) (by omega)) w980 w977 w979 w39 w72 hdX11_isGreat ⟨rfl, rfl⟩ ⟨Nat.le_of_ble_eq_true rfl, Nat.le_of_ble_eq_true rfl⟩ rfl hl.1 (Nat.le_of_ble_eq_true rfl) dX11_order_69 ⟨Nat.le_of_ble_eq_true rfl, Nat.le_of_ble_eq_true rfl⟩) hT hS hA [2, 3] [0, 1, 4] rfl rfl rfl (by decide) (by decide) (fun r26 H locs hB J hS => ?_)
                obtain ⟨b_r26, hT1⟩ := hB
                have hT := J _ hT1
                have hT : TP D A [(h4, aJ (k 1) 9 anJ), (h3, aJ (k 1) 9 anJ), (h6, aJ (k 1) 9 anJ), (h0, ob 8 [.int h0f0, .int h0f1, .int h0f2, .int h0f3, .int h0f4, .int h0f5, .ref h1, .ref h2, .int h0f8, .int h0f9, .ref h3, .ref h4, .ref h5, .ref h6, .ref h7, .ref h8, .ref h9, .int h0f17, .int h0f18, .int h0f19, .ref h10, .ref h11, .ref h12, .ref h13, .int h0f24, .int h0f25, .ref h14, .ref h15, .ref h16, .ref h17, .int h0f30, .int h0f31, .ref h18, .ref h19, .ref h20, .ref h21]), (h5, aJ (k 1) 9 anJ)] _ := hT
                refine lv_if_eq (tgt := 78) hx hb dX11_order_72 (by decide) (fun c_27 => ?_) (fun c_27 => ?_)
                · skip
                  have c_27 := ni_eq c_27 rfl li_0
                  obtain ⟨v28, e_v28⟩ : ∃ x : Int32, x = y11 + Int32.ofInt 1 := ⟨_, rfl⟩
                  have f_v28 := e_v28.symm
                  have e_v28 : v28.toInt = y11.toInt + 1 := ai_add e_v28 rfl (show (Int32.ofInt 1).toInt = 1 from (by decide +kernel)) (by omega)
                  refine lv_iinc (v := v28) (lv' := [(3, .int v28), (0, .ref h0), (1, .ref h5), (2, .ref h3), (4, .int y21)]) hx hb dX11_order_78 hl (k := 3) rfl f_v28 (by decide) rfl (fun ls hl => ?_)
                  refine lv_goto (tgt := 17) hx hb dX11_order_81 (by decide) ?_
                  exact ih17_12 v28 _ _ _ (by omega)  (by omega) (hT.sub [1, 0, 2, 3, 4] (by decide) rfl) hS (lv_sub hl [1, 2, 3, 0] rfl)
                · skip
                  have c_27 := ni_ne c_27 rfl li_0
                  refine lv_bipush (v := (-3)) hx hb dX11_order_75 (by decide) ?_
                  exact tz_retI (B := B_cX11_order_1ed37 D k h0 h3 h4 h5 h6 h1 h2 h7 h8 h9 h10 h11 h12 h13 h14 h15 h16 h17 h18 h19 h20 h21 h0f0 h0f1 h0f2 h0f3 h0f4 h0f5 h0f8 h0f9 h0f17 h0f18 h0f19 h0f24 h0f25 h0f30 h0f31) (v := (-3)) hQ hx hb hr hlocks hS (Nat.le_of_ble_eq_true rfl) (Nat.le_of_ble_eq_true rfl) dX11_order_77 (⟨(by have := li_m3; omega), (hT.sub [3, 1, 0, 4, 2] (by decide) rfl)⟩)
              · skip
                have c_25 := ni_ne c_25 rfl li_0
                refine lv_iload_n hx hb dX11_order_65 rfl (lv_at hl 3 rfl) ?_
                exact tz_retI (B := B_cX11_order_1ed37 D k h0 h3 h4 h5 h6 h1 h2 h7 h8 h9 h10 h11 h12 h13 h14 h15 h16 h17 h18 h19 h20 h21 h0f0 h0f1 h0f2 h0f3 h0f4 h0f5 h0f8 h0f9 h0f17 h0f18 h0f19 h0f24 h0f25 h0f30 h0f31) (v := y11) hQ hx hb hr hlocks hS (Nat.le_of_ble_eq_true rfl) (Nat.le_of_ble_eq_true rfl) dX11_order_66 (⟨(by omega), (hT.sub [2, 1, 0, 3, 4] (by decide) rfl)⟩)
            · skip
              have c_23 := ni_nle c_23 li_9 rfl
              refine lv_aload_n hx hb dX11_order_43 rfl (lv_at hl 1 rfl) ?_
              refine lv_iload hx hb dX11_order_44 (lv_at hl 4 rfl) ?_
              refine lv_aload_n hx hb dX11_order_46 rfl (lv_at hl 2 rfl) ?_
              refine lv_iload hx hb dX11_order_47 (lv_at hl 4 rfl) ?_
              refine tz_lald hx hb hK hT 4 rfl (by omega) dX11_order_49 (fun v29 e_v29 => ?_)
              clear e_v29
              refine tz_last hx hb hK hT hS 2 rfl (by omega) (fun _ _ => trivial) dX11_order_50 (fun H locs hT hS => ?_)
              obtain ⟨v30, e_v30⟩ : ∃ x : Int32, x = y21 + Int32.ofInt 1 := ⟨_, rfl⟩
              have f_v30 := e_v30.symm
              have e_v30 : v30.toInt = y21.toInt + 1 := ai_add e_v30 rfl (show (Int32.ofInt 1).toInt = 1 from (by decide +kernel)) (by omega)
              refine lv_iinc (v := v30) (lv' := [(4, .int v30), (0, .ref h0), (1, .ref h5), (2, .ref h3), (3, .int y11)]) hx hb dX11_order_51 hl (k := 4) rfl f_v30 (by decide) rfl (fun ls hl => ?_)
              refine lv_goto (tgt := 36) hx hb dX11_order_54 (by decide) ?_
              exact ih36_22 v30 _ _ _ (by omega)  (by omega) hT hS (lv_sub hl [1, 2, 3, 4, 0] rfl)
        exact lp36_22 (((-1) * (0 : Int32).toInt + 9 + 1).toNat + 1) (0) _ _ _ (by have := li_0; omega)  (Nat.lt_succ_self _) hT hS (lv_sub hl [1, 2, 3, 4, 0] rfl)
  exact lp17_12 (((-1) * (1 : Int32).toInt + 12 + 1).toNat + 1) (1) _ _ _ (by have := li_1; omega)  (Nat.lt_succ_self _) hT hS (lv_sub hl [3, 2, 1, 0] rfl)
abbrev Rm_cX11_of_46b67 : Room := { frames := 4, cells := 0, slots := 0, locals := 91 }
abbrev B_cX11_of_46b67 (D : va_G) (k : Nat → ClassId) (h0 h1 h3 h4 h5 h6 h2 h7 h8 h9 h10 h11 h12 h13 h14 h15 h16 h17 h18 h19 h20 h21 : Nat) (x1 : Int32) (x2 : Int32) (h0f0 : Int32) (h0f1 : Int32) (h0f2 : Int32) (h0f3 : Int32) (h0f4 : Int32) (h0f5 : Int32) (h0f8 : Int32) (h0f9 : Int32) (h0f17 : Int32) (h0f18 : Int32) (h0f19 : Int32) (h0f24 : Int32) (h0f25 : Int32) (h0f30 : Int32) (h0f31 : Int32) (A : Nat → Prop) (r : Int32) (H : Heap) : Prop := TP D A [(h0, ob 8 [.int h0f0, .int h0f1, .int h0f2, .int h0f3, .int h0f4, .int h0f5, .ref h1, .ref h2, .int h0f8, .int h0f9, .ref h3, .ref h4, .ref h5, .ref h6, .ref h7, .ref h8, .ref h9, .int h0f17, .int h0f18, .int h0f19, .ref h10, .ref h11, .ref h12, .ref h13, .int h0f24, .int h0f25, .ref h14, .ref h15, .ref h16, .ref h17, .int h0f30, .int h0f31, .ref h18, .ref h19, .ref h20, .ref h21]), (h1, aI (k 0) 36 anI), (h3, aJ (k 1) 9 anJ), (h4, aJ (k 1) 9 anJ), (h5, aJ (k 1) 9 anJ), (h6, aJ (k 1) 9 anJ)] H
set_option maxHeartbeats 4000000 in
set_option maxRecDepth 100000 in
theorem cX11_of_46b67 (l : Launch) (D : va_G) (k : Nat → ClassId) (sz : Nat) (h0 h1 h3 h4 h5 h6 h2 h7 h8 h9 h10 h11 h12 h13 h14 h15 h16 h17 h18 h19 h20 h21 : Nat) (x1 : Int32) (x2 : Int32) (h0f0 : Int32) (h0f1 : Int32) (h0f2 : Int32) (h0f3 : Int32) (h0f4 : Int32) (h0f5 : Int32) (h0f8 : Int32) (h0f9 : Int32) (h0f17 : Int32) (h0f18 : Int32) (h0f19 : Int32) (h0f24 : Int32) (h0f25 : Int32) (h0f30 : Int32) (h0f31 : Int32) (b_h0f0 : 1 ≤ h0f0.toInt ∧ h0f0.toInt ≤ 3) (b_h0f1 : 0 ≤ h0f1.toInt ∧ h0f1.toInt ≤ 4) (b_h0f3 : 0 ≤ h0f3.toInt ∧ h0f3.toInt ≤ 3) (b_h0f4 : 0 ≤ h0f4.toInt ∧ h0f4.toInt ≤ 4) (b_h0f8 : 0 ≤ h0f8.toInt ∧ h0f8.toInt ≤ 1) (b_h0f9 : 0 ≤ h0f9.toInt ∧ h0f9.toInt ≤ 1) (b_h0f17 : 0 ≤ h0f17.toInt ∧ h0f17.toInt ≤ 120) (b_h0f18 : 0 ≤ h0f18.toInt ∧ h0f18.toInt ≤ 120) (b_h0f19 : 0 ≤ h0f19.toInt ∧ h0f19.toInt ≤ 4) (b_h0f24 : 0 ≤ h0f24.toInt ∧ h0f24.toInt ≤ 100) (b_h0f25 : 0 ≤ h0f25.toInt ∧ h0f25.toInt ≤ 1) (b_h0f30 : 0 ≤ h0f30.toInt ∧ h0f30.toInt ≤ 60) (b_h0f31 : 0 ≤ h0f31.toInt ∧ h0f31.toInt ≤ 1) (i_0 : h0f8.toInt ≤ h0f3.toInt) (i_1 : h0f9.toInt ≤ h0f24.toInt) : Met l yX11_of (Cond.code yX11_of cX11_of 3 (some .int) :: uw) Rm_cX11_of_46b67 (pT D k sz [.ref h0, .int x1, .int x2] [(h0, ob 8 [.int h0f0, .int h0f1, .int h0f2, .int h0f3, .int h0f4, .int h0f5, .ref h1, .ref h2, .int h0f8, .int h0f9, .ref h3, .ref h4, .ref h5, .ref h6, .ref h7, .ref h8, .ref h9, .int h0f17, .int h0f18, .int h0f19, .ref h10, .ref h11, .ref h12, .ref h13, .int h0f24, .int h0f25, .ref h14, .ref h15, .ref h16, .ref h17, .int h0f30, .int h0f31, .ref h18, .ref h19, .ref h20, .ref h21]), (h1, aI (k 0) 36 anI), (h3, aJ (k 1) 9 anJ), (h4, aJ (k 1) 9 anJ), (h5, aJ (k 1) 9 anJ), (h6, aJ (k 1) 9 anJ)]) (qI (B_cX11_of_46b67 D k h0 h1 h3 h4 h5 h6 h2 h7 h8 h9 h10 h11 h12 h13 h14 h15 h16 h17 h18 h19 h20 h21 x1 x2 h0f0 h0f1 h0f2 h0f3 h0f4 h0f5 h0f8 h0f9 h0f17 h0f18 h0f19 h0f24 h0f25 h0f30 h0f31 (zA [h0, h1, h3, h4, h5, h6] sz)) (zA [h0, h1, h3, h4, h5, h6] sz)) 0 0 (zA [h0, h1, h3, h4, h5, h6] sz) := by
  refine tz_begin (as := [h0, h1, h3, h4, h5, h6]) (Qc := fun A => qI (B_cX11_of_46b67 D k h0 h1 h3 h4 h5 h6 h2 h7 h8 h9 h10 h11 h12 h13 h14 h15 h16 h17 h18 h19 h20 h21 x1 x2 h0f0 h0f1 h0f2 h0f3 h0f4 h0f5 h0f8 h0f9 h0f17 h0f18 h0f19 h0f24 h0f25 h0f30 h0f31 A) A) (by decide +kernel) rfl (Nat.le_of_ble_eq_true rfl) ?_
  intro p e s m args below meth c ls A Q hx hb hr hml hown hlocks hin hU hK hT hS hA hl hQ
  have hl : lv_has ls 3 [(0, .ref h0), (1, .int x1), (2, .int x2)] := hl
  have hT : TP D A [(h0, ob 8 [.int h0f0, .int h0f1, .int h0f2, .int h0f3, .int h0f4, .int h0f5, .ref h1, .ref h2, .int h0f8, .int h0f9, .ref h3, .ref h4, .ref h5, .ref h6, .ref h7, .ref h8, .ref h9, .int h0f17, .int h0f18, .int h0f19, .ref h10, .ref h11, .ref h12, .ref h13, .int h0f24, .int h0f25, .ref h14, .ref h15, .ref h16, .ref h17, .int h0f30, .int h0f31, .ref h18, .ref h19, .ref h20, .ref h21]), (h1, aI (k 0) 36 anI), (h3, aJ (k 1) 9 anJ), (h4, aJ (k 1) 9 anJ), (h5, aJ (k 1) 9 anJ), (h6, aJ (k 1) 9 anJ)] s.heap := hT
  refine lv_aload_n hx hb dX11_of_0 rfl (lv_at hl 0 rfl) ?_
  refine lv_iload_n hx hb dX11_of_1 rfl (lv_at hl 1 rfl) ?_
  refine tcI (Tc := [(h0, ob 8 [.int h0f0, .int h0f1, .int h0f2, .int h0f3, .int h0f4, .int h0f5, .ref h1, .ref h2, .int h0f8, .int h0f9, .ref h3, .ref h4, .ref h5, .ref h6, .ref h7, .ref h8, .ref h9, .int h0f17, .int h0f18, .int h0f19, .ref h10, .ref h11, .ref h12, .ref h13, .int h0f24, .int h0f25, .ref h14, .ref h15, .ref h16, .ref h17, .int h0f30, .int h0f31, .ref h18, .ref h19, .ref h20, .ref h21])]) (Tr := [(h1, aI (k 0) 36 anI), (h3, aJ (k 1) 9 anJ), (h4, aJ (k 1) 9 anJ), (h5, aJ (k 1) 9 anJ), (h6, aJ (k 1) 9 anJ)]) (as := [h0]) (zcV (q0 := 0) (ci := 8) (As := [.int x1]) (rest := []) (Tc := [(h0, ob 8 [.int h0f0, .int h0f1, .int h0f2, .int h0f3, .int h0f4, .int h0f5, .ref h1, .ref h2, .int h0f8, .int h0f9, .ref h3, .ref h4, .ref h5, .ref h6, .ref h7, .ref h8, .ref h9, .int h0f17, .int h0f18, .int h0f19, .ref h10, .ref h11, .ref h12, .ref h13, .int h0f24, .int h0f25, .ref h14, .ref h15, .ref h16, .ref h17, .int h0f30, .int h0f31, .ref h18, .ref h19, .ref h20, .ref h21])]) hx hb hml hown hU hK hT rfl rfl [0] rfl (by decide) (cX11_isGen_669e6 l D k _ h0 h1 h2 h3 h4 h5 h6 h7 h8 h9 h10 h11 h12 h13 h14 h15 h16 h17 h18 h19 h20 h21 x1 h0f0 h0f1 h0f2 h0f3 h0f4 h0f5 h0f8 h0f9 h0f17 h0f18 h0f19 h0f24 h0f25 h0f30 h0f31 (by omega) (by omega) (by omega) (by omega) (by omega) (by omega) (by omega) (by omega) (by omega) (by omega) (by omega) (by omega) (by omega) (by omega) (by omega)) w935 w932 w934 w31 w72 hdX11_isGen ⟨rfl, rfl⟩ ⟨Nat.le_of_ble_eq_true rfl, Nat.le_of_ble_eq_true rfl⟩ rfl hl.1 (Nat.le_of_ble_eq_true rfl) dX11_of_2 ⟨Nat.le_of_ble_eq_true rfl, Nat.le_of_ble_eq_true rfl⟩) hT hS hA [0] [1, 2, 3, 4, 5] rfl rfl rfl (by decide) (by decide) (fun r1 H locs hB J hS => ?_)
  rcases hB with ⟨rfl, hT1⟩ | ⟨c_2, c_3, c_4, c_5, rfl, hT1⟩
  · skip
    have hT := J _ hT1
    have hT : TP D A [(h1, aI (k 0) 36 anI), (h3, aJ (k 1) 9 anJ), (h4, aJ (k 1) 9 anJ), (h5, aJ (k 1) 9 anJ), (h6, aJ (k 1) 9 anJ), (h0, ob 8 [.int h0f0, .int h0f1, .int h0f2, .int h0f3, .int h0f4, .int h0f5, .ref h1, .ref h2, .int h0f8, .int h0f9, .ref h3, .ref h4, .ref h5, .ref h6, .ref h7, .ref h8, .ref h9, .int h0f17, .int h0f18, .int h0f19, .ref h10, .ref h11, .ref h12, .ref h13, .int h0f24, .int h0f25, .ref h14, .ref h15, .ref h16, .ref h17, .int h0f30, .int h0f31, .ref h18, .ref h19, .ref h20, .ref h21])] _ := hT
    refine lv_if_ne (tgt := 10) hx hb dX11_of_5 (by decide) (fun cc => absurd (by decide +kernel) cc) (fun _ => ?_)
    refine lv_iconst (v := (-1)) hx hb dX11_of_8 (by decide) ?_
    exact tz_retI (B := B_cX11_of_46b67 D k h0 h1 h3 h4 h5 h6 h2 h7 h8 h9 h10 h11 h12 h13 h14 h15 h16 h17 h18 h19 h20 h21 x1 x2 h0f0 h0f1 h0f2 h0f3 h0f4 h0f5 h0f8 h0f9 h0f17 h0f18 h0f19 h0f24 h0f25 h0f30 h0f31) (v := (-1)) hQ hx hb hr hlocks hS (Nat.le_of_ble_eq_true rfl) (Nat.le_of_ble_eq_true rfl) dX11_of_9 ((hT.sub [5, 0, 1, 2, 3, 4] (by decide) rfl))
  · skip
    have hT := J _ hT1
    have hT : TP D A [(h1, aI (k 0) 36 anI), (h3, aJ (k 1) 9 anJ), (h4, aJ (k 1) 9 anJ), (h5, aJ (k 1) 9 anJ), (h6, aJ (k 1) 9 anJ), (h0, ob 8 [.int h0f0, .int h0f1, .int h0f2, .int h0f3, .int h0f4, .int h0f5, .ref h1, .ref h2, .int h0f8, .int h0f9, .ref h3, .ref h4, .ref h5, .ref h6, .ref h7, .ref h8, .ref h9, .int h0f17, .int h0f18, .int h0f19, .ref h10, .ref h11, .ref h12, .ref h13, .int h0f24, .int h0f25, .ref h14, .ref h15, .ref h16, .ref h17, .int h0f30, .int h0f31, .ref h18, .ref h19, .ref h20, .ref h21])] _ := hT
    refine lv_if_ne (tgt := 10) hx hb dX11_of_5 (by decide) (fun _ => ?_) (fun cc => absurd cc (by decide +kernel))
    refine lv_aload_n hx hb dX11_of_10 rfl (lv_at hl 0 rfl) ?_
    refine lv_iload_n hx hb dX11_of_11 rfl (lv_at hl 1 rfl) ?_
    refine lv_aload_n hx hb dX11_of_12 rfl (lv_at hl 0 rfl) ?_
    refine tz_get (ci := 8) (v := .ref h4) (C := RX11) (F := TX11) (N := 36) hx hb hU iX11 hown hK hT 5 rfl rfl 11 (by decide) w796 (fun _ h9 => h9) rfl dX11_of_13 ?_
    refine tcV (Tc := [(h0, ob 8 [.int h0f0, .int h0f1, .int h0f2, .int h0f3, .int h0f4, .int h0f5, .ref h1, .ref h2, .int h0f8, .int h0f9, .ref h3, .ref h4, .ref h5, .ref h6, .ref h7, .ref h8, .ref h9, .int h0f17, .int h0f18, .int h0f19, .ref h10, .ref h11, .ref h12, .ref h13, .int h0f24, .int h0f25, .ref h14, .ref h15, .ref h16, .ref h17, .int h0f30, .int h0f31, .ref h18, .ref h19, .ref h20, .ref h21]), (h4, aJ (k 1) 9 anJ), (h1, aI (k 0) 36 anI)]) (Tr := [(h3, aJ (k 1) 9 anJ), (h5, aJ (k 1) 9 anJ), (h6, aJ (k 1) 9 anJ)]) (as := [h0, h4, h1]) (zcV (q0 := 5) (ci := 8) (As := [.int x1, .ref h4]) (rest := []) (Tc := [(h0, ob 8 [.int h0f0, .int h0f1, .int h0f2, .int h0f3, .int h0f4, .int h0f5, .ref h1, .ref h2, .int h0f8, .int h0f9, .ref h3, .ref h4, .ref h5, .ref h6, .ref h7, .ref h8, .ref h9, .int h0f17, .int h0f18, .int h0f19, .ref h10, .ref h11, .ref h12, .ref h13, .int h0f24, .int h0f25, .ref h14, .ref h15, .ref h16, .ref h17, .int h0f30, .int h0f31, .ref h18, .ref h19, .ref h20, .ref h21]), (h4, aJ (k 1) 9 anJ), (h1, aI (k 0) 36 anI)]) hx hb hml hown hU hK hT rfl rfl [5, 2, 0] rfl (by decide) (cX11_takes_35579 l D k _ h0 h4 h1 h2 h3 h5 h6 h7 h8 h9 h10 h11 h12 h13 h14 h15 h16 h17 h18 h19 h20 h21 x1 h0f0 h0f1 h0f2 h0f3 h0f4 h0f5 h0f8 h0f9 h0f17 h0f18 h0f19 h0f24 h0f25 h0f30 h0f31 (by omega) (by omega) (by omega) (by omega) (by omega) (by omega) (by omega) (by omega) (by omega) (by omega) (by omega) (by omega) (by omega) (by omega) (by omega) (by omega)) w939 w936 w938 w32 w72 hdX11_takes ⟨rfl, rfl⟩ ⟨Nat.le_of_ble_eq_true rfl, Nat.le_of_ble_eq_true rfl⟩ rfl hl.1 (Nat.le_of_ble_eq_true rfl) dX11_of_16 ⟨Nat.le_of_ble_eq_true rfl, Nat.le_of_ble_eq_true rfl⟩) hT hS hA [5, 2, 0] [1, 3, 4] rfl rfl rfl (by decide) (by decide) (fun H locs hB J hS => ?_)
    have hT1 := hB
    have hT := J _ hT1
    have hT : TP D A [(h3, aJ (k 1) 9 anJ), (h5, aJ (k 1) 9 anJ), (h6, aJ (k 1) 9 anJ), (h0, ob 8 [.int h0f0, .int h0f1, .int h0f2, .int h0f3, .int h0f4, .int h0f5, .ref h1, .ref h2, .int h0f8, .int h0f9, .ref h3, .ref h4, .ref h5, .ref h6, .ref h7, .ref h8, .ref h9, .int h0f17, .int h0f18, .int h0f19, .ref h10, .ref h11, .ref h12, .ref h13, .int h0f24, .int h0f25, .ref h14, .ref h15, .ref h16, .ref h17, .int h0f30, .int h0f31, .ref h18, .ref h19, .ref h20, .ref h21]), (h4, aJ (k 1) 9 anJ), (h1, aI (k 0) 36 anI)] _ := hT
    refine lv_iload_n hx hb dX11_of_19 rfl (lv_at hl 2 rfl) ?_
    rcases (show (x2.toInt < 0 ∨ 2 < x2.toInt) ∨ x2.toInt = 0 ∨ x2.toInt = 1 ∨ x2.toInt = 2 by omega) with c_7 | c_7 | c_7 | c_7
    · skip
      refine lv_tableOut (tgt := 94) hx hb dX11_of_20 c_7 (by decide) ?_
      refine lv_iconst (v := (-1)) hx hb dX11_of_94 (by decide) ?_
      exact tz_retI (B := B_cX11_of_46b67 D k h0 h1 h3 h4 h5 h6 h2 h7 h8 h9 h10 h11 h12 h13 h14 h15 h16 h17 h18 h19 h20 h21 x1 x2 h0f0 h0f1 h0f2 h0f3 h0f4 h0f5 h0f8 h0f9 h0f17 h0f18 h0f19 h0f24 h0f25 h0f30 h0f31) (v := (-1)) hQ hx hb hr hlocks hS (Nat.le_of_ble_eq_true rfl) (Nat.le_of_ble_eq_true rfl) dX11_of_95 ((hT.sub [3, 5, 0, 4, 1, 2] (by decide) rfl))
    · skip
      refine lv_tableIn (tgt := 48) (off := 28) hx hb dX11_of_20 (by omega) (by omega) (by rw [c_7]; decide +kernel) (by decide) ?_
      refine lv_sipush (v := 1000) hx hb dX11_of_48 (by decide) ?_
      refine lv_aload_n hx hb dX11_of_51 rfl (lv_at hl 0 rfl) ?_
      refine lv_aload_n hx hb dX11_of_52 rfl (lv_at hl 0 rfl) ?_
      refine tz_get (ci := 8) (v := .ref h4) (C := RX11) (F := TX11) (N := 36) hx hb hU iX11 hown hK hT 3 rfl rfl 11 (by decide) w796 (fun _ h9 => h9) rfl dX11_of_53 ?_
      refine tcL (Tc := [(h0, ob 8 [.int h0f0, .int h0f1, .int h0f2, .int h0f3, .int h0f4, .int h0f5, .ref h1, .ref h2, .int h0f8, .int h0f9, .ref h3, .ref h4, .ref h5, .ref h6, .ref h7, .ref h8, .ref h9, .int h0f17, .int h0f18, .int h0f19, .ref h10, .ref h11, .ref h12, .ref h13, .int h0f24, .int h0f25, .ref h14, .ref h15, .ref h16, .ref h17, .int h0f30, .int h0f31, .ref h18, .ref h19, .ref h20, .ref h21]), (h4, aJ (k 1) 9 anJ)]) (Tr := [(h3, aJ (k 1) 9 anJ), (h5, aJ (k 1) 9 anJ), (h6, aJ (k 1) 9 anJ), (h1, aI (k 0) 36 anI)]) (as := [h0, h4]) (zcV (q0 := 3) (ci := 8) (As := [.ref h4]) (rest := [.int 1000]) (Tc := [(h0, ob 8 [.int h0f0, .int h0f1, .int h0f2, .int h0f3, .int h0f4, .int h0f5, .ref h1, .ref h2, .int h0f8, .int h0f9, .ref h3, .ref h4, .ref h5, .ref h6, .ref h7, .ref h8, .ref h9, .int h0f17, .int h0f18, .int h0f19, .ref h10, .ref h11, .ref h12, .ref h13, .int h0f24, .int h0f25, .ref h14, .ref h15, .ref h16, .ref h17, .int h0f30, .int h0f31, .ref h18, .ref h19, .ref h20, .ref h21]), (h4, aJ (k 1) 9 anJ)]) hx hb hml hown hU hK hT rfl rfl [3, 4] rfl (by decide) (cX11_det_9ae4b l D k _ h0 h4 h1 h2 h3 h5 h6 h7 h8 h9 h10 h11 h12 h13 h14 h15 h16 h17 h18 h19 h20 h21 h0f0 h0f1 h0f2 h0f3 h0f4 h0f5 h0f8 h0f9 h0f17 h0f18 h0f19 h0f24 h0f25 h0f30 h0f31 (by omega) (by omega) (by omega) (by omega) (by omega) (by omega) (by omega) (by omega) (by omega) (by omega) (by omega) (by omega) (by omega) (by omega) (by omega)) w952 w949 w951 w35 w72 hdX11_det ⟨rfl, rfl⟩ ⟨Nat.le_of_ble_eq_true rfl, Nat.le_of_ble_eq_true rfl⟩ rfl hl.1 (Nat.le_of_ble_eq_true rfl) dX11_of_56 ⟨Nat.le_of_ble_eq_true rfl, Nat.le_of_ble_eq_true rfl⟩) hT hS hA [3, 4] [0, 1, 2, 5] rfl rfl rfl (by decide) (by decide) (fun r8 H locs hB J hS => ?_)
      have hT1 := hB
      have hT := J _ hT1
      have hT : TP D A [(h3, aJ (k 1) 9 anJ), (h5, aJ (k 1) 9 anJ), (h6, aJ (k 1) 9 anJ), (h1, aI (k 0) 36 anI), (h0, ob 8 [.int h0f0, .int h0f1, .int h0f2, .int h0f3, .int h0f4, .int h0f5, .ref h1, .ref h2, .int h0f8, .int h0f9, .ref h3, .ref h4, .ref h5, .ref h6, .ref h7, .ref h8, .ref h9, .int h0f17, .int h0f18, .int h0f19, .ref h10, .ref h11, .ref h12, .ref h13, .int h0f24, .int h0f25, .ref h14, .ref h15, .ref h16, .ref h17, .int h0f30, .int h0f31, .ref h18, .ref h19, .ref h20, .ref h21]), (h4, aJ (k 1) 9 anJ)] _ := hT
      refine lv_l2i hx hb dX11_of_59 rfl (lv_topi (fun v9 _ => ?_))
      refine lv_iadd hx hb dX11_of_60 (lv_topi (fun v10 e_v10 => ?_))
      exact tz_retI (B := B_cX11_of_46b67 D k h0 h1 h3 h4 h5 h6 h2 h7 h8 h9 h10 h11 h12 h13 h14 h15 h16 h17 h18 h19 h20 h21 x1 x2 h0f0 h0f1 h0f2 h0f3 h0f4 h0f5 h0f8 h0f9 h0f17 h0f18 h0f19 h0f24 h0f25 h0f30 h0f31) (v := v10) hQ hx hb hr hlocks hS (Nat.le_of_ble_eq_true rfl) (Nat.le_of_ble_eq_true rfl) dX11_of_61 ((hT.sub [4, 3, 0, 5, 1, 2] (by decide) rfl))
    · skip
      refine lv_tableIn (tgt := 62) (off := 42) hx hb dX11_of_20 (by omega) (by omega) (by rw [c_7]; decide +kernel) (by decide) ?_
      refine lv_sipush (v := 1000) hx hb dX11_of_62 (by decide) ?_
      refine lv_aload_n hx hb dX11_of_65 rfl (lv_at hl 0 rfl) ?_
      refine tz_get (ci := 8) (v := .ref h4) (C := RX11) (F := TX11) (N := 36) hx hb hU iX11 hown hK hT 3 rfl rfl 11 (by decide) w796 (fun _ h9 => h9) rfl dX11_of_66 ?_
      refine lv_iconst (v := 0) hx hb dX11_of_69 (by decide) ?_
      refine tz_lald hx hb hK hT 4 rfl (by have := li_0; omega) dX11_of_70 (fun v11 e_v11 => ?_)
      clear e_v11
      refine lv_aload_n hx hb dX11_of_71 rfl (lv_at hl 0 rfl) ?_
      refine tz_get (ci := 8) (v := .ref h4) (C := RX11) (F := TX11) (N := 36) hx hb hU iX11 hown hK hT 3 rfl rfl 11 (by decide) w796 (fun _ h9 => h9) rfl dX11_of_72 ?_
      refine lv_iconst (v := 4) hx hb dX11_of_75 (by decide) ?_
      refine tz_lald hx hb hK hT 4 rfl (by have := li_4; omega) dX11_of_76 (fun v12 e_v12 => ?_)
      clear e_v12
      refine lv_ladd hx hb dX11_of_77 (lv_topl (fun v13 e_v13 => ?_))
      refine lv_aload_n hx hb dX11_of_78 rfl (lv_at hl 0 rfl) ?_
      refine tz_get (ci := 8) (v := .ref h4) (C := RX11) (F := TX11) (N := 36) hx hb hU iX11 hown hK hT 3 rfl rfl 11 (by decide) w796 (fun _ h9 => h9) rfl dX11_of_79 ?_
      refine lv_bipush (v := 8) hx hb dX11_of_82 (by decide) ?_
      refine tz_lald hx hb hK hT 4 rfl (by have := li_8; omega) dX11_of_84 (fun v14 e_v14 => ?_)
      clear e_v14
      refine lv_ladd hx hb dX11_of_85 (lv_topl (fun v15 e_v15 => ?_))
      refine lv_l2i hx hb dX11_of_86 rfl (lv_topi (fun v16 _ => ?_))
      refine lv_iadd hx hb dX11_of_87 (lv_topi (fun v17 e_v17 => ?_))
      exact tz_retI (B := B_cX11_of_46b67 D k h0 h1 h3 h4 h5 h6 h2 h7 h8 h9 h10 h11 h12 h13 h14 h15 h16 h17 h18 h19 h20 h21 x1 x2 h0f0 h0f1 h0f2 h0f3 h0f4 h0f5 h0f8 h0f9 h0f17 h0f18 h0f19 h0f24 h0f25 h0f30 h0f31) (v := v17) hQ hx hb hr hlocks hS (Nat.le_of_ble_eq_true rfl) (Nat.le_of_ble_eq_true rfl) dX11_of_88 ((hT.sub [3, 5, 0, 4, 1, 2] (by decide) rfl))
    · skip
      refine lv_tableIn (tgt := 89) (off := 69) hx hb dX11_of_20 (by omega) (by omega) (by rw [c_7]; decide +kernel) (by decide) ?_
      refine lv_aload_n hx hb dX11_of_89 rfl (lv_at hl 0 rfl) ?_
      refine tcI (Tc := [(h0, ob 8 [.int h0f0, .int h0f1, .int h0f2, .int h0f3, .int h0f4, .int h0f5, .ref h1, .ref h2, .int h0f8, .int h0f9, .ref h3, .ref h4, .ref h5, .ref h6, .ref h7, .ref h8, .ref h9, .int h0f17, .int h0f18, .int h0f19, .ref h10, .ref h11, .ref h12, .ref h13, .int h0f24, .int h0f25, .ref h14, .ref h15, .ref h16, .ref h17, .int h0f30, .int h0f31, .ref h18, .ref h19, .ref h20, .ref h21]), (h3, aJ (k 1) 9 anJ), (h4, aJ (k 1) 9 anJ), (h5, aJ (k 1) 9 anJ), (h6, aJ (k 1) 9 anJ)]) (Tr := [(h1, aI (k 0) 36 anI)]) (as := [h0, h3, h4, h5, h6]) (zcV (q0 := 3) (ci := 8) (As := []) (rest := []) (Tc := [(h0, ob 8 [.int h0f0, .int h0f1, .int h0f2, .int h0f3, .int h0f4, .int h0f5, .ref h1, .ref h2, .int h0f8, .int h0f9, .ref h3, .ref h4, .ref h5, .ref h6, .ref h7, .ref h8, .ref h9, .int h0f17, .int h0f18, .int h0f19, .ref h10, .ref h11, .ref h12, .ref h13, .int h0f24, .int h0f25, .ref h14, .ref h15, .ref h16, .ref h17, .int h0f30, .int h0f31, .ref h18, .ref h19, .ref h20, .ref h21]), (h3, aJ (k 1) 9 anJ), (h4, aJ (k 1) 9 anJ), (h5, aJ (k 1) 9 anJ), (h6, aJ (k 1) 9 anJ)]) hx hb hml hown hU hK hT rfl rfl [3, 0, 4, 1, 2] rfl (by decide) (cX11_order_1ed37 l D k _ h0 h3 h4 h5 h6 h1 h2 h7 h8 h9 h10 h11 h12 h13 h14 h15 h16 h17 h18 h19 h20 h21 h0f0 h0f1 h0f2 h0f3 h0f4 h0f5 h0f8 h0f9 h0f17 h0f18 h0f19 h0f24 h0f25 h0f30 h0f31 (by omega) (by omega) (by omega) (by omega) (by omega) (by omega) (by omega) (by omega) (by omega) (by omega) (by omega) (by omega) (by omega) (by omega) (by omega)) w972 w969 w971 w37 w72 hdX11_order ⟨rfl, rfl⟩ ⟨Nat.le_of_ble_eq_true rfl, Nat.le_of_ble_eq_true rfl⟩ rfl hl.1 (Nat.le_of_ble_eq_true rfl) dX11_of_90 ⟨Nat.le_of_ble_eq_true rfl, Nat.le_of_ble_eq_true rfl⟩) hT hS hA [3, 0, 4, 1, 2] [5] rfl rfl rfl (by decide) (by decide) (fun r18 H locs hB J hS => ?_)
      obtain ⟨b_r18, hT1⟩ := hB
      have hT := J _ hT1
      have hT : TP D A [(h1, aI (k 0) 36 anI), (h0, ob 8 [.int h0f0, .int h0f1, .int h0f2, .int h0f3, .int h0f4, .int h0f5, .ref h1, .ref h2, .int h0f8, .int h0f9, .ref h3, .ref h4, .ref h5, .ref h6, .ref h7, .ref h8, .ref h9, .int h0f17, .int h0f18, .int h0f19, .ref h10, .ref h11, .ref h12, .ref h13, .int h0f24, .int h0f25, .ref h14, .ref h15, .ref h16, .ref h17, .int h0f30, .int h0f31, .ref h18, .ref h19, .ref h20, .ref h21]), (h3, aJ (k 1) 9 anJ), (h4, aJ (k 1) 9 anJ), (h5, aJ (k 1) 9 anJ), (h6, aJ (k 1) 9 anJ)] _ := hT
      exact tz_retI (B := B_cX11_of_46b67 D k h0 h1 h3 h4 h5 h6 h2 h7 h8 h9 h10 h11 h12 h13 h14 h15 h16 h17 h18 h19 h20 h21 x1 x2 h0f0 h0f1 h0f2 h0f3 h0f4 h0f5 h0f8 h0f9 h0f17 h0f18 h0f19 h0f24 h0f25 h0f30 h0f31) (v := r18) hQ hx hb hr hlocks hS (Nat.le_of_ble_eq_true rfl) (Nat.le_of_ble_eq_true rfl) dX11_of_93 ((hT.sub [1, 0, 2, 3, 4, 5] (by decide) rfl))
abbrev Rm_cX7_cofactor_42523 : Room := { frames := 0, cells := 0, slots := 0, locals := 0 }
abbrev B_cX7_cofactor_42523 (D : va_G) (k : Nat → ClassId) (h0 : Nat) (x1 : Int32) (x3 : Int32) (x4 : Int32) (A : Nat → Prop) (r : Int64) (H : Heap) : Prop := TP D A [(h0, aJ (k 1) 36 anJ)] H
set_option maxHeartbeats 4000000 in
set_option maxRecDepth 100000 in
theorem cX7_cofactor_42523 (l : Launch) (D : va_G) (k : Nat → ClassId) (sz : Nat) (h0 : Nat) (x1 : Int32) (x3 : Int32) (x4 : Int32) (b_x1 : 0 ≤ x1.toInt ∧ x1.toInt ≤ 27) (b_x3 : 0 ≤ x3.toInt ∧ x3.toInt ≤ 2) (b_x4 : 0 ≤ x4.toInt ∧ x4.toInt ≤ 2) : Met l yX7_cofactor (Cond.code yX7_cofactor cX7_cofactor 9 (some .long) :: uw) Rm_cX7_cofactor_42523 (pT D k sz [.ref h0, .int x1, .int 3, .int x3, .int x4] [(h0, aJ (k 1) 36 anJ)]) (qL (B_cX7_cofactor_42523 D k h0 x1 x3 x4 (zA [h0] sz)) (zA [h0] sz)) 0 0 (zA [h0] sz) := by
  refine tz_begin (as := [h0]) (Qc := fun A => qL (B_cX7_cofactor_42523 D k h0 x1 x3 x4 A) A) (by decide +kernel) rfl (Nat.le_of_ble_eq_true rfl) ?_
  intro p e s m args below meth c ls A Q hx hb hr hml hown hlocks hin hU hK hT hS hA hl hQ
  have hl : lv_has ls 9 [(0, .ref h0), (1, .int x1), (2, .int 3), (3, .int x3), (4, .int x4)] := hl
  have hT : TP D A [(h0, aJ (k 1) 36 anJ)] s.heap := hT
  refine lv_iload_n hx hb dX7_cofactor_0 rfl (lv_at hl 2 rfl) ?_
  refine lv_iconst (v := 1) hx hb dX7_cofactor_1 (by decide) ?_
  refine lv_icmp_ne (tgt := 7) hx hb dX7_cofactor_2 (by decide) (fun _ => ?_) (fun cc => absurd cc (by decide +kernel))
  refine lv_iload_n hx hb dX7_cofactor_7 rfl (lv_at hl 2 rfl) ?_
  refine lv_iconst (v := 2) hx hb dX7_cofactor_8 (by decide) ?_
  refine lv_icmp_ne (tgt := 43) hx hb dX7_cofactor_9 (by decide) (fun _ => ?_) (fun cc => absurd cc (by decide +kernel))
  refine lv_iload_n hx hb dX7_cofactor_43 rfl (lv_at hl 1 rfl) ?_
  refine lv_iload_n hx hb dX7_cofactor_44 rfl (lv_at hl 3 rfl) ?_
  refine lv_iconst (v := 1) hx hb dX7_cofactor_45 (by decide) ?_
  refine lv_iadd hx hb dX7_cofactor_46 (lv_topi (fun v1 e_v1 => ?_))
  have e_v1 := ai_add e_v1 rfl li_1 (by omega)
  refine lv_iconst (v := 3) hx hb dX7_cofactor_47 (by decide) ?_
  refine lv_irem hx hb dX7_cofactor_48 (by decide +kernel) (lv_topi (fun v2 e_v2 => ?_))
  have e_v2 := ai_rem e_v2 rfl li_3 (by omega)
  refine lv_iconst (v := 3) hx hb dX7_cofactor_49 (by decide) ?_
  refine lv_imul hx hb dX7_cofactor_50 (lv_topi (fun v3 e_v3 => ?_))
  have e_v3 := ai_mul e_v3 rfl li_3 (by omega)
  refine lv_iadd hx hb dX7_cofactor_51 (lv_topi (fun v4 e_v4 => ?_))
  have e_v4 := ai_add e_v4 rfl rfl (by omega)
  refine lv_istore (lv' := [(5, .int v4), (0, .ref h0), (1, .int x1), (2, .int 3), (3, .int x3), (4, .int x4)]) hx hb dX7_cofactor_52 hl (by decide) rfl (fun ls hl => ?_)
  refine lv_iload_n hx hb dX7_cofactor_54 rfl (lv_at hl 2 rfl) ?_
  refine lv_iload_n hx hb dX7_cofactor_55 rfl (lv_at hl 4 rfl) ?_
  refine lv_iconst (v := 2) hx hb dX7_cofactor_56 (by decide) ?_
  refine lv_iadd hx hb dX7_cofactor_57 (lv_topi (fun v5 e_v5 => ?_))
  have e_v5 := ai_add e_v5 rfl li_2 (by omega)
  refine lv_iconst (v := 3) hx hb dX7_cofactor_58 (by decide) ?_
  refine lv_irem hx hb dX7_cofactor_59 (by decide +kernel) (lv_topi (fun v6 e_v6 => ?_))
  have e_v6 := ai_rem e_v6 rfl li_3 (by omega)
  refine lv_iconst (v := 3) hx hb dX7_cofactor_60 (by decide) ?_
  refine lv_imul hx hb dX7_cofactor_61 (lv_topi (fun v7 e_v7 => ?_))
  have e_v7 := ai_mul e_v7 rfl li_3 (by omega)
  refine lv_iadd hx hb dX7_cofactor_62 (lv_topi (fun v8 e_v8 => ?_))
  have e_v8 := ai_add e_v8 rfl rfl (by omega)
  refine lv_istore (lv' := [(6, .int v8), (5, .int v4), (0, .ref h0), (1, .int x1), (2, .int 3), (3, .int x3), (4, .int x4)]) hx hb dX7_cofactor_63 hl (by decide) rfl (fun ls hl => ?_)
  refine lv_iload hx hb dX7_cofactor_65 (lv_at hl 6 rfl) ?_
  refine lv_iconst (v := 1) hx hb dX7_cofactor_67 (by decide) ?_
  refine lv_iadd hx hb dX7_cofactor_68 (lv_topi (fun v9 e_v9 => ?_))
  have e_v9 := ai_add e_v9 rfl li_1 (by omega)
  refine lv_iconst (v := 3) hx hb dX7_cofactor_69 (by decide) ?_
  refine lv_irem hx hb dX7_cofactor_70 (by decide +kernel) (lv_topi (fun v10 e_v10 => ?_))
  have e_v10 := ai_rem e_v10 rfl li_3 (by omega)
  refine lv_istore (lv' := [(7, .int v10), (6, .int v8), (5, .int v4), (0, .ref h0), (1, .int x1), (2, .int 3), (3, .int x3), (4, .int x4)]) hx hb dX7_cofactor_71 hl (by decide) rfl (fun ls hl => ?_)
  refine lv_iload hx hb dX7_cofactor_73 (lv_at hl 7 rfl) ?_
  refine lv_iconst (v := 2) hx hb dX7_cofactor_75 (by decide) ?_
  refine lv_iadd hx hb dX7_cofactor_76 (lv_topi (fun v11 e_v11 => ?_))
  have e_v11 := ai_add e_v11 rfl li_2 (by omega)
  refine lv_iconst (v := 3) hx hb dX7_cofactor_77 (by decide) ?_
  refine lv_irem hx hb dX7_cofactor_78 (by decide +kernel) (lv_topi (fun v12 e_v12 => ?_))
  have e_v12 := ai_rem e_v12 rfl li_3 (by omega)
  refine lv_istore (lv' := [(8, .int v12), (7, .int v10), (6, .int v8), (5, .int v4), (0, .ref h0), (1, .int x1), (2, .int 3), (3, .int x3), (4, .int x4)]) hx hb dX7_cofactor_79 hl (by decide) rfl (fun ls hl => ?_)
  refine lv_aload_n hx hb dX7_cofactor_81 rfl (lv_at hl 4 rfl) ?_
  refine lv_iload hx hb dX7_cofactor_82 (lv_at hl 3 rfl) ?_
  refine lv_iload hx hb dX7_cofactor_84 (lv_at hl 1 rfl) ?_
  refine lv_iadd hx hb dX7_cofactor_86 (lv_topi (fun v13 e_v13 => ?_))
  have e_v13 := ai_add e_v13 rfl rfl (by omega)
  refine tz_lald hx hb hK hT 0 rfl (by omega) dX7_cofactor_87 (fun v14 e_v14 => ?_)
  clear e_v14
  refine lv_aload_n hx hb dX7_cofactor_88 rfl (lv_at hl 4 rfl) ?_
  refine lv_iload hx hb dX7_cofactor_89 (lv_at hl 2 rfl) ?_
  refine lv_iload hx hb dX7_cofactor_91 (lv_at hl 0 rfl) ?_
  refine lv_iadd hx hb dX7_cofactor_93 (lv_topi (fun v15 e_v15 => ?_))
  have e_v15 := ai_add e_v15 rfl rfl (by omega)
  refine tz_lald hx hb hK hT 0 rfl (by omega) dX7_cofactor_94 (fun v16 e_v16 => ?_)
  clear e_v16
  refine lv_lmul hx hb dX7_cofactor_95 (lv_topl (fun v17 e_v17 => ?_))
  refine lv_aload_n hx hb dX7_cofactor_96 rfl (lv_at hl 4 rfl) ?_
  refine lv_iload hx hb dX7_cofactor_97 (lv_at hl 3 rfl) ?_
  refine lv_iload hx hb dX7_cofactor_99 (lv_at hl 0 rfl) ?_
  refine lv_iadd hx hb dX7_cofactor_101 (lv_topi (fun v18 e_v18 => ?_))
  have e_v18 := ai_add e_v18 rfl rfl (by omega)
  refine tz_lald hx hb hK hT 0 rfl (by omega) dX7_cofactor_102 (fun v19 e_v19 => ?_)
  clear e_v19
  refine lv_aload_n hx hb dX7_cofactor_103 rfl (lv_at hl 4 rfl) ?_
  refine lv_iload hx hb dX7_cofactor_104 (lv_at hl 2 rfl) ?_
  refine lv_iload hx hb dX7_cofactor_106 (lv_at hl 1 rfl) ?_
  refine lv_iadd hx hb dX7_cofactor_108 (lv_topi (fun v20 e_v20 => ?_))
  have e_v20 := ai_add e_v20 rfl rfl (by omega)
  refine tz_lald hx hb hK hT 0 rfl (by omega) dX7_cofactor_109 (fun v21 e_v21 => ?_)
  clear e_v21
  refine lv_lmul hx hb dX7_cofactor_110 (lv_topl (fun v22 e_v22 => ?_))
  refine lv_lsub hx hb dX7_cofactor_111 (lv_topl (fun v23 e_v23 => ?_))
  exact tz_retL (B := B_cX7_cofactor_42523 D k h0 x1 x3 x4) (v := v23) hQ hx hb hr hlocks hS (Nat.le_of_ble_eq_true rfl) (Nat.le_of_ble_eq_true rfl) dX7_cofactor_112 (hT)
abbrev Rm_cX3_characterOf_18d92 : Room := { frames := 2, cells := 1, slots := 4, locals := 54 }
abbrev B_cX3_characterOf_18d92 (D : va_G) (k : Nat → ClassId) (h0 : Nat) (x1 : Int32) (x2 : Int32) (A : Nat → Prop) (r : Nat) (H : Heap) : Prop := ∃ n0 : Nat, n0 = r ∧ TP D A [(h0, aJ (k 1) 36 anJ), (n0, aJ (k 1) 4 anJ)] H
set_option maxHeartbeats 4000000 in
set_option maxRecDepth 100000 in
theorem cX3_characterOf_18d92 (l : Launch) (D : va_G) (k : Nat → ClassId) (sz : Nat) (h0 : Nat) (x1 : Int32) (x2 : Int32) (b_x1 : 0 ≤ x1.toInt ∧ x1.toInt ≤ 27) (b_x2 : 1 ≤ x2.toInt ∧ x2.toInt ≤ 3) : Met l yX3_characterOf (Cond.code yX3_characterOf cX3_characterOf 7 (some (.array .long)) :: uw) Rm_cX3_characterOf_18d92 (pT D k sz [.ref h0, .int x1, .int x2] [(h0, aJ (k 1) 36 anJ)]) (qR (B_cX3_characterOf_18d92 D k h0 x1 x2 (zA [h0] sz)) (zA [h0] sz)) 1 4 (zA [h0] sz) := by
  refine tz_begin (as := [h0]) (Qc := fun A => qR (B_cX3_characterOf_18d92 D k h0 x1 x2 A) A) (by decide +kernel) rfl (Nat.le_of_ble_eq_true rfl) ?_
  intro p e s m args below meth c ls A Q hx hb hr hml hown hlocks hin hU hK hT hS hA hl hQ
  have hl : lv_has ls 7 [(0, .ref h0), (1, .int x1), (2, .int x2)] := hl
  have hT : TP D A [(h0, aJ (k 1) 36 anJ)] s.heap := hT
  refine lv_iconst (v := 4) hx hb dX3_characterOf_0 (by decide) ?_
  refine tz_nal (N := 4) hx hb hU w113 hK hT hS hA (by decide +kernel) (by decide +kernel) (Nat.le_of_ble_eq_true rfl) (Nat.le_of_ble_eq_true rfl) (Nat.le_of_ble_eq_true rfl) dX3_characterOf_1 (fun q1 H hT hS => ?_)
  have hT : TP D A [(h0, aJ (k 1) 36 anJ), (q1, aJ (k 1) 4 anJ)] _ := hT
  refine lv_astore_n (lv' := [(3, .ref q1), (0, .ref h0), (1, .int x1), (2, .int x2)]) hx hb dX3_characterOf_3 rfl hl (by decide) rfl (fun ls hl => ?_)
  refine lv_aload_n hx hb dX3_characterOf_4 rfl (lv_at hl 1 rfl) ?_
  refine lv_iload_n hx hb dX3_characterOf_5 rfl (lv_at hl 2 rfl) ?_
  refine lv_iload_n hx hb dX3_characterOf_6 rfl (lv_at hl 3 rfl) ?_
  refine lv_iload_n hx hb dX3_characterOf_7 rfl (lv_at hl 3 rfl) ?_
  refine tcL (Tc := [(h0, aJ (k 1) 36 anJ)]) (Tr := [(q1, aJ (k 1) 4 anJ)]) (as := [h0]) (zcS (As := [.ref h0, .int x1, .int x2, .int x2]) (rest := []) (Tc := [(h0, aJ (k 1) 36 anJ)]) hx hb hml hown hU hK hT [0] rfl (by decide) (cX7_determinant_05929 l D k _ h0 x1 x2 x2 (by omega) (by omega) (by omega)) w372 w423 w371 w74 hdX7_determinant ⟨rfl, rfl⟩ ⟨Nat.le_of_ble_eq_true rfl, Nat.le_of_ble_eq_true rfl⟩ rfl hl.1 (Nat.le_of_ble_eq_true rfl) dX3_characterOf_8 ⟨Nat.le_of_ble_eq_true rfl, Nat.le_of_ble_eq_true rfl⟩) hT hS hA [0] [1] rfl rfl rfl (by decide) (by decide) (fun r2 H locs hB J hS => ?_)
  have hT1 := hB
  have hT := J _ hT1
  have hT : TP D A [(q1, aJ (k 1) 4 anJ), (h0, aJ (k 1) 36 anJ)] _ := hT
  refine lv_lstore (lv' := [(4, .long r2), (3, .ref q1), (0, .ref h0), (1, .int x1), (2, .int x2)]) hx hb dX3_characterOf_11 hl (by decide) rfl (fun ls hl => ?_)
  refine lv_aload_n hx hb dX3_characterOf_13 rfl (lv_at hl 1 rfl) ?_
  refine lv_iconst (v := 0) hx hb dX3_characterOf_14 (by decide) ?_
  refine lv_iload_n hx hb dX3_characterOf_15 rfl (lv_at hl 4 rfl) ?_
  refine lv_iconst (v := 2) hx hb dX3_characterOf_16 (by decide) ?_
  refine lv_icmp_ne (tgt := 25) hx hb dX3_characterOf_17 (by decide) (fun c_3 => ?_) (fun c_3 => ?_)
  · skip
    have c_3 := ni_ne c_3 rfl li_2
    refine lv_lload hx hb dX3_characterOf_25 (lv_at hl 0 rfl) ?_
    refine lv_lneg hx hb dX3_characterOf_27 (lv_topl (fun v4 e_v4 => ?_))
    have e_v4 := al_negz e_v4
    refine tz_last hx hb hK hT hS 0 rfl (by have := li_0; omega) (fun _ _ => trivial) dX3_characterOf_28 (fun H locs hT hS => ?_)
    refine lv_iload_n hx hb dX3_characterOf_29 rfl (lv_at hl 4 rfl) ?_
    refine lv_iconst (v := 3) hx hb dX3_characterOf_30 (by decide) ?_
    refine lv_icmp_ne (tgt := 65) hx hb dX3_characterOf_31 (by decide) (fun c_5 => ?_) (fun c_5 => ?_)
    · skip
      have c_5 := ni_ne c_5 rfl li_3
      refine lv_iload_n hx hb dX3_characterOf_65 rfl (lv_at hl 4 rfl) ?_
      refine lv_iconst (v := 1) hx hb dX3_characterOf_66 (by decide) ?_
      refine lv_icmp_le (tgt := 82) hx hb dX3_characterOf_67 (by decide) (fun c_6 => ?_) (fun c_6 => ?_)
      · skip
        have c_6 := ni_le c_6 rfl li_1
        refine lv_aload_n hx hb dX3_characterOf_82 rfl (lv_at hl 1 rfl) ?_
        refine lv_iload_n hx hb dX3_characterOf_83 rfl (lv_at hl 4 rfl) ?_
        refine lv_lconst (v := 1) hx hb dX3_characterOf_84 (by decide) ?_
        refine tz_last hx hb hK hT hS 0 rfl (by omega) (fun _ _ => trivial) dX3_characterOf_85 (fun H locs hT hS => ?_)
        refine lv_aload_n hx hb dX3_characterOf_86 rfl (lv_at hl 1 rfl) ?_
        exact tz_retA (B := B_cX3_characterOf_18d92 D k h0 x1 x2) (v := q1) hQ hx hb hr hlocks hS (Nat.le_of_ble_eq_true rfl) (Nat.le_of_ble_eq_true rfl) dX3_characterOf_87 (⟨q1, rfl, (hT.sub [1, 0] (by decide) rfl)⟩)
      · skip
        have c_6 := ni_nle c_6 rfl li_1
        exfalso; omega
    · skip
      have c_5 := ni_eq c_5 rfl li_3
      refine lv_iconst (v := 0) hx hb dX3_characterOf_34 (by decide) ?_
      refine lv_istore (lv' := [(6, .int 0), (4, .long r2), (3, .ref q1), (0, .ref h0), (1, .int x1), (2, .int x2)]) hx hb dX3_characterOf_35 hl (by decide) rfl (fun ls hl => ?_)
      have lp37_10 : ∀ (n : Nat) (y9 : Int32) (H : Heap) (locs : List Loc) (ls : Array Slot), (0 ≤ y9.toInt ∧ y9.toInt ≤ 3) → ((-1) * y9.toInt + 3 + 1).toNat < n → TP D A [(q1, aJ (k 1) 4 anJ), (h0, aJ (k 1) 36 anJ)] H → va_S A s.heap H locs → lv_has ls 7 [(0, .ref h0), (1, .int x1), (2, .int x2), (3, .ref q1), (6, .int y9)] → W p l e Rm_cX3_characterOf_18d92 s m args below meth c H locs 1 4 Q (F0 m 37 ls []) := by
        intro n
        induction n with
        | zero => intro y9 H locs ls b_y9 hm hT hS hl; exact absurd hm (Nat.not_lt_zero _)
        | succ n ih =>
          intro y9 H locs ls b_y9 hm hT hS hl
          have ih37_10 := ih
          clear ih
          refine lv_iload hx hb dX3_characterOf_37 (lv_at hl 4 rfl) ?_
          refine lv_iconst (v := 3) hx hb dX3_characterOf_39 (by decide) ?_
          refine lv_icmp_ge (tgt := 65) hx hb dX3_characterOf_40 (by decide) (fun c_11 => ?_) (fun c_11 => ?_)
          · skip
            have c_11 := ni_le c_11 li_3 rfl
            refine lv_iload_n hx hb dX3_characterOf_65 rfl (lv_at hl 2 rfl) ?_
            refine lv_iconst (v := 1) hx hb dX3_characterOf_66 (by decide) ?_
            refine lv_icmp_le (tgt := 82) hx hb dX3_characterOf_67 (by decide) (fun c_12 => ?_) (fun c_12 => ?_)
            · skip
              have c_12 := ni_le c_12 rfl li_1
              exfalso; omega
            · skip
              have c_12 := ni_nle c_12 rfl li_1
              refine lv_aload_n hx hb dX3_characterOf_70 rfl (lv_at hl 3 rfl) ?_
              refine lv_iload_n hx hb dX3_characterOf_71 rfl (lv_at hl 2 rfl) ?_
              refine lv_iconst (v := 1) hx hb dX3_characterOf_72 (by decide) ?_
              have hq13 : x2.toInt = 3 := by omega
              refine lv_isub hx hb dX3_characterOf_73 (lv_topi (fun v14 e_v14 => ?_))
              have e_v14 := ai_sub e_v14 hq13 li_1 (by omega)
              refine lv_aload_n hx hb dX3_characterOf_74 rfl (lv_at hl 0 rfl) ?_
              refine lv_iload_n hx hb dX3_characterOf_75 rfl (lv_at hl 1 rfl) ?_
              refine lv_iload_n hx hb dX3_characterOf_76 rfl (lv_at hl 2 rfl) ?_
              refine tcL (Tc := [(h0, aJ (k 1) 36 anJ)]) (Tr := [(q1, aJ (k 1) 4 anJ)]) (as := [h0]) (zcS (As := [.ref h0, .int x1, .int x2]) (rest := [.int v14, .ref q1]) (Tc := [(h0, aJ (k 1) 36 anJ)]) hx hb hml hown hU hK hT [1] rfl (by decide) (cX7_trace_e2d54 l D k _ h0 x1 x2 (by omega) (by omega)) w405 w425 w404 w74 hdX7_trace ⟨rfl, rfl⟩ ⟨Nat.le_of_ble_eq_true rfl, Nat.le_of_ble_eq_true rfl⟩ rfl hl.1 (Nat.le_of_ble_eq_true rfl) dX3_characterOf_77 ⟨Nat.le_of_ble_eq_true rfl, Nat.le_of_ble_eq_true rfl⟩) hT hS hA [1] [0] rfl rfl rfl (by decide) (by decide) (fun r15 H locs hB J hS => ?_)
              have hT1 := hB
              have hT := J _ hT1
              have hT : TP D A [(q1, aJ (k 1) 4 anJ), (h0, aJ (k 1) 36 anJ)] _ := hT
              refine lv_lneg hx hb dX3_characterOf_80 (lv_topl (fun v16 e_v16 => ?_))
              have e_v16 := al_negz e_v16
              refine tz_last hx hb hK hT hS 0 rfl (by omega) (fun _ _ => trivial) dX3_characterOf_81 (fun H locs hT hS => ?_)
              refine lv_aload_n hx hb dX3_characterOf_82 rfl (lv_at hl 3 rfl) ?_
              refine lv_iload_n hx hb dX3_characterOf_83 rfl (lv_at hl 2 rfl) ?_
              refine lv_lconst (v := 1) hx hb dX3_characterOf_84 (by decide) ?_
              refine tz_last hx hb hK hT hS 0 rfl (by omega) (fun _ _ => trivial) dX3_characterOf_85 (fun H locs hT hS => ?_)
              refine lv_aload_n hx hb dX3_characterOf_86 rfl (lv_at hl 3 rfl) ?_
              exact tz_retA (B := B_cX3_characterOf_18d92 D k h0 x1 x2) (v := q1) hQ hx hb hr hlocks hS (Nat.le_of_ble_eq_true rfl) (Nat.le_of_ble_eq_true rfl) dX3_characterOf_87 (⟨q1, rfl, (hT.sub [1, 0] (by decide) rfl)⟩)
          · skip
            have c_11 := ni_nle c_11 li_3 rfl
            refine lv_aload_n hx hb dX3_characterOf_43 rfl (lv_at hl 3 rfl) ?_
            refine lv_iconst (v := 1) hx hb dX3_characterOf_44 (by decide) ?_
            refine lv_dup2_11 hx hb dX3_characterOf_45 rfl rfl ?_
            refine tz_lald hx hb hK hT 0 rfl (by have := li_1; omega) dX3_characterOf_46 (fun v17 e_v17 => ?_)
            clear e_v17
            refine lv_aload_n hx hb dX3_characterOf_47 rfl (lv_at hl 0 rfl) ?_
            refine lv_iload_n hx hb dX3_characterOf_48 rfl (lv_at hl 1 rfl) ?_
            refine lv_iconst (v := 3) hx hb dX3_characterOf_49 (by decide) ?_
            refine lv_iload hx hb dX3_characterOf_50 (lv_at hl 4 rfl) ?_
            refine lv_iload hx hb dX3_characterOf_52 (lv_at hl 4 rfl) ?_
            refine tcL (Tc := [(h0, aJ (k 1) 36 anJ)]) (Tr := [(q1, aJ (k 1) 4 anJ)]) (as := [h0]) (zcS (As := [.ref h0, .int x1, .int 3, .int y9, .int y9]) (rest := [.long v17, .int 1, .ref q1]) (Tc := [(h0, aJ (k 1) 36 anJ)]) hx hb hml hown hU hK hT [1] rfl (by decide) (cX7_cofactor_42523 l D k _ h0 x1 y9 y9 (by omega) (by omega) (by omega)) w375 w424 w374 w74 hdX7_cofactor ⟨rfl, rfl⟩ ⟨Nat.le_of_ble_eq_true rfl, Nat.le_of_ble_eq_true rfl⟩ rfl hl.1 (Nat.le_of_ble_eq_true rfl) dX3_characterOf_54 ⟨Nat.le_of_ble_eq_true rfl, Nat.le_of_ble_eq_true rfl⟩) hT hS hA [1] [0] rfl rfl rfl (by decide) (by decide) (fun r18 H locs hB J hS => ?_)
            have hT1 := hB
            have hT := J _ hT1
            have hT : TP D A [(q1, aJ (k 1) 4 anJ), (h0, aJ (k 1) 36 anJ)] _ := hT
            refine lv_ladd hx hb dX3_characterOf_57 (lv_topl (fun v19 e_v19 => ?_))
            refine tz_last hx hb hK hT hS 0 rfl (by have := li_1; omega) (fun _ _ => trivial) dX3_characterOf_58 (fun H locs hT hS => ?_)
            obtain ⟨v20, e_v20⟩ : ∃ x : Int32, x = y9 + Int32.ofInt 1 := ⟨_, rfl⟩
            have f_v20 := e_v20.symm
            have e_v20 : v20.toInt = y9.toInt + 1 := ai_add e_v20 rfl (show (Int32.ofInt 1).toInt = 1 from (by decide +kernel)) (by omega)
            refine lv_iinc (v := v20) (lv' := [(6, .int v20), (0, .ref h0), (1, .int x1), (2, .int x2), (3, .ref q1)]) hx hb dX3_characterOf_59 hl (k := 4) rfl f_v20 (by decide) rfl (fun ls hl => ?_)
            refine lv_goto (tgt := 37) hx hb dX3_characterOf_62 (by decide) ?_
            exact ih37_10 v20 _ _ _ (by omega)  (by omega) hT hS (lv_sub hl [1, 2, 3, 4, 0] rfl)
      exact lp37_10 (((-1) * (0 : Int32).toInt + 3 + 1).toNat + 1) (0) _ _ _ (by have := li_0; omega)  (Nat.lt_succ_self _) hT hS (lv_sub hl [3, 4, 5, 2, 0] rfl)
  · skip
    have c_3 := ni_eq c_3 rfl li_2
    refine lv_lload hx hb dX3_characterOf_20 (lv_at hl 0 rfl) ?_
    refine lv_goto (tgt := 28) hx hb dX3_characterOf_22 (by decide) ?_
    refine tz_last hx hb hK hT hS 0 rfl (by have := li_0; omega) (fun _ _ => trivial) dX3_characterOf_28 (fun H locs hT hS => ?_)
    refine lv_iload_n hx hb dX3_characterOf_29 rfl (lv_at hl 4 rfl) ?_
    refine lv_iconst (v := 3) hx hb dX3_characterOf_30 (by decide) ?_
    refine lv_icmp_ne (tgt := 65) hx hb dX3_characterOf_31 (by decide) (fun c_21 => ?_) (fun c_21 => ?_)
    · skip
      have c_21 := ni_ne c_21 rfl li_3
      refine lv_iload_n hx hb dX3_characterOf_65 rfl (lv_at hl 4 rfl) ?_
      refine lv_iconst (v := 1) hx hb dX3_characterOf_66 (by decide) ?_
      refine lv_icmp_le (tgt := 82) hx hb dX3_characterOf_67 (by decide) (fun c_22 => ?_) (fun c_22 => ?_)
      · skip
        have c_22 := ni_le c_22 rfl li_1
        exfalso; omega
      · skip
        have c_22 := ni_nle c_22 rfl li_1
        refine lv_aload_n hx hb dX3_characterOf_70 rfl (lv_at hl 1 rfl) ?_
        refine lv_iload_n hx hb dX3_characterOf_71 rfl (lv_at hl 4 rfl) ?_
        refine lv_iconst (v := 1) hx hb dX3_characterOf_72 (by decide) ?_
        have hq23 : x2.toInt = 2 := by omega
        refine lv_isub hx hb dX3_characterOf_73 (lv_topi (fun v24 e_v24 => ?_))
        have e_v24 := ai_sub e_v24 hq23 li_1 (by omega)
        refine lv_aload_n hx hb dX3_characterOf_74 rfl (lv_at hl 2 rfl) ?_
        refine lv_iload_n hx hb dX3_characterOf_75 rfl (lv_at hl 3 rfl) ?_
        refine lv_iload_n hx hb dX3_characterOf_76 rfl (lv_at hl 4 rfl) ?_
        refine tcL (Tc := [(h0, aJ (k 1) 36 anJ)]) (Tr := [(q1, aJ (k 1) 4 anJ)]) (as := [h0]) (zcS (As := [.ref h0, .int x1, .int x2]) (rest := [.int v24, .ref q1]) (Tc := [(h0, aJ (k 1) 36 anJ)]) hx hb hml hown hU hK hT [1] rfl (by decide) (cX7_trace_e2d54 l D k _ h0 x1 x2 (by omega) (by omega)) w405 w425 w404 w74 hdX7_trace ⟨rfl, rfl⟩ ⟨Nat.le_of_ble_eq_true rfl, Nat.le_of_ble_eq_true rfl⟩ rfl hl.1 (Nat.le_of_ble_eq_true rfl) dX3_characterOf_77 ⟨Nat.le_of_ble_eq_true rfl, Nat.le_of_ble_eq_true rfl⟩) hT hS hA [1] [0] rfl rfl rfl (by decide) (by decide) (fun r25 H locs hB J hS => ?_)
        have hT1 := hB
        have hT := J _ hT1
        have hT : TP D A [(q1, aJ (k 1) 4 anJ), (h0, aJ (k 1) 36 anJ)] _ := hT
        refine lv_lneg hx hb dX3_characterOf_80 (lv_topl (fun v26 e_v26 => ?_))
        have e_v26 := al_negz e_v26
        refine tz_last hx hb hK hT hS 0 rfl (by omega) (fun _ _ => trivial) dX3_characterOf_81 (fun H locs hT hS => ?_)
        refine lv_aload_n hx hb dX3_characterOf_82 rfl (lv_at hl 1 rfl) ?_
        refine lv_iload_n hx hb dX3_characterOf_83 rfl (lv_at hl 4 rfl) ?_
        refine lv_lconst (v := 1) hx hb dX3_characterOf_84 (by decide) ?_
        refine tz_last hx hb hK hT hS 0 rfl (by omega) (fun _ _ => trivial) dX3_characterOf_85 (fun H locs hT hS => ?_)
        refine lv_aload_n hx hb dX3_characterOf_86 rfl (lv_at hl 1 rfl) ?_
        exact tz_retA (B := B_cX3_characterOf_18d92 D k h0 x1 x2) (v := q1) hQ hx hb hr hlocks hS (Nat.le_of_ble_eq_true rfl) (Nat.le_of_ble_eq_true rfl) dX3_characterOf_87 (⟨q1, rfl, (hT.sub [1, 0] (by decide) rfl)⟩)
    · skip
      have c_21 := ni_eq c_21 rfl li_3
      exfalso; omega
abbrev Rm_cX10_character_b8220 : Room := { frames := 3, cells := 1, slots := 4, locals := 80 }
abbrev B_cX10_character_b8220 (D : va_G) (k : Nat → ClassId) (h0 h1 h13 h2 h3 h4 h5 h6 h7 h8 h9 h10 h11 h12 : Nat) (x1 : Int32) (x2 : Int32) (h0f2 : Int32) (h0f6 : Int32) (h0f8 : Int32) (h0f11 : Int32) (h1f0 : Int32) (h1f1 : Int32) (h1f2 : Int32) (A : Nat → Prop) (r : Int32) (H : Heap) : Prop := TP D A [(h0, ob 7 [.ref h1, .ref h2, .int h0f2, .ref h3, .ref h4, .ref h5, .int h0f6, .ref h6, .int h0f8, .null, .ref h7, .int h0f11, .ref h8, .ref h9, .ref h10, .ref h11, .ref h12]), (h1, ob 4 [.int h1f0, .int h1f1, .int h1f2, .ref h13]), (h13, aJ (k 1) 36 anJ)] H
set_option maxHeartbeats 4000000 in
set_option maxRecDepth 100000 in
theorem cX10_character_b8220 (l : Launch) (D : va_G) (k : Nat → ClassId) (sz : Nat) (h0 h1 h13 h2 h3 h4 h5 h6 h7 h8 h9 h10 h11 h12 : Nat) (x1 : Int32) (x2 : Int32) (h0f2 : Int32) (h0f6 : Int32) (h0f8 : Int32) (h0f11 : Int32) (h1f0 : Int32) (h1f1 : Int32) (h1f2 : Int32) (b_h0f2 : 0 ≤ h0f2.toInt ∧ h0f2.toInt ≤ 1) (b_h0f6 : 0 ≤ h0f6.toInt ∧ h0f6.toInt ≤ 1) (b_h0f8 : 0 ≤ h0f8.toInt ∧ h0f8.toInt ≤ 1) (b_h0f11 : 0 ≤ h0f11.toInt ∧ h0f11.toInt ≤ 200) (b_h1f0 : 1 ≤ h1f0.toInt ∧ h1f0.toInt ≤ 3) (b_h1f1 : 0 ≤ h1f1.toInt ∧ h1f1.toInt ≤ 4) : Met l yX10_character (Cond.code yX10_character cX10_character 3 (some .int) :: uw) Rm_cX10_character_b8220 (pT D k sz [.ref h0, .int x1, .int x2] [(h0, ob 7 [.ref h1, .ref h2, .int h0f2, .ref h3, .ref h4, .ref h5, .int h0f6, .ref h6, .int h0f8, .null, .ref h7, .int h0f11, .ref h8, .ref h9, .ref h10, .ref h11, .ref h12]), (h1, ob 4 [.int h1f0, .int h1f1, .int h1f2, .ref h13]), (h13, aJ (k 1) 36 anJ)]) (qI (B_cX10_character_b8220 D k h0 h1 h13 h2 h3 h4 h5 h6 h7 h8 h9 h10 h11 h12 x1 x2 h0f2 h0f6 h0f8 h0f11 h1f0 h1f1 h1f2 (zA [h0, h1, h13] sz)) (zA [h0, h1, h13] sz)) 1 4 (zA [h0, h1, h13] sz) := by
  refine tz_begin (as := [h0, h1, h13]) (Qc := fun A => qI (B_cX10_character_b8220 D k h0 h1 h13 h2 h3 h4 h5 h6 h7 h8 h9 h10 h11 h12 x1 x2 h0f2 h0f6 h0f8 h0f11 h1f0 h1f1 h1f2 A) A) (by decide +kernel) rfl (Nat.le_of_ble_eq_true rfl) ?_
  intro p e s m args below meth c ls A Q hx hb hr hml hown hlocks hin hU hK hT hS hA hl hQ
  have hl : lv_has ls 3 [(0, .ref h0), (1, .int x1), (2, .int x2)] := hl
  have hT : TP D A [(h0, ob 7 [.ref h1, .ref h2, .int h0f2, .ref h3, .ref h4, .ref h5, .int h0f6, .ref h6, .int h0f8, .null, .ref h7, .int h0f11, .ref h8, .ref h9, .ref h10, .ref h11, .ref h12]), (h1, ob 4 [.int h1f0, .int h1f1, .int h1f2, .ref h13]), (h13, aJ (k 1) 36 anJ)] s.heap := hT
  refine lv_aload_n hx hb dX10_character_0 rfl (lv_at hl 0 rfl) ?_
  refine tz_get (ci := 7) (v := .ref h1) (C := RX10) (F := TX10) (N := 17) hx hb hU iX10 hown hK hT 0 rfl rfl 0 (by decide) w249 (fun _ h9 => h9) rfl dX10_character_1 ?_
  refine lv_iload_n hx hb dX10_character_4 rfl (lv_at hl 1 rfl) ?_
  refine tcI (Tc := [(h1, ob 4 [.int h1f0, .int h1f1, .int h1f2, .ref h13])]) (Tr := [(h0, ob 7 [.ref h1, .ref h2, .int h0f2, .ref h3, .ref h4, .ref h5, .int h0f6, .ref h6, .int h0f8, .null, .ref h7, .int h0f11, .ref h8, .ref h9, .ref h10, .ref h11, .ref h12]), (h13, aJ (k 1) 36 anJ)]) (as := [h1]) (zcV (q0 := 1) (ci := 4) (As := [.int x1]) (rest := []) (Tc := [(h1, ob 4 [.int h1f0, .int h1f1, .int h1f2, .ref h13])]) hx hb hml hown hU hK hT rfl rfl [1] rfl (by decide) (cX5_has_64567 l D k _ h1 h13 x1 h1f0 h1f1 h1f2 (by omega) (by omega)) w356 w353 w354 w355 w64 hdX5_has ⟨rfl, rfl⟩ ⟨Nat.le_of_ble_eq_true rfl, Nat.le_of_ble_eq_true rfl⟩ rfl hl.1 (Nat.le_of_ble_eq_true rfl) dX10_character_5 ⟨Nat.le_of_ble_eq_true rfl, Nat.le_of_ble_eq_true rfl⟩) hT hS hA [1] [0, 2] rfl rfl rfl (by decide) (by decide) (fun r1 H locs hB J hS => ?_)
  rcases hB with ⟨rfl, hT1⟩ | ⟨c_2, c_3, rfl, hT1⟩
  · skip
    have hT := J _ hT1
    have hT : TP D A [(h0, ob 7 [.ref h1, .ref h2, .int h0f2, .ref h3, .ref h4, .ref h5, .int h0f6, .ref h6, .int h0f8, .null, .ref h7, .int h0f11, .ref h8, .ref h9, .ref h10, .ref h11, .ref h12]), (h13, aJ (k 1) 36 anJ), (h1, ob 4 [.int h1f0, .int h1f1, .int h1f2, .ref h13])] _ := hT
    refine lv_if_eq (tgt := 26) hx hb dX10_character_8 (by decide) (fun _ => ?_) (fun cc => absurd (by decide +kernel) cc)
    refine lv_iconst (v := (-1)) hx hb dX10_character_26 (by decide) ?_
    exact tz_retI (B := B_cX10_character_b8220 D k h0 h1 h13 h2 h3 h4 h5 h6 h7 h8 h9 h10 h11 h12 x1 x2 h0f2 h0f6 h0f8 h0f11 h1f0 h1f1 h1f2) (v := (-1)) hQ hx hb hr hlocks hS (Nat.le_of_ble_eq_true rfl) (Nat.le_of_ble_eq_true rfl) dX10_character_27 ((hT.sub [0, 2, 1] (by decide) rfl))
  · skip
    have hT := J _ hT1
    have hT : TP D A [(h0, ob 7 [.ref h1, .ref h2, .int h0f2, .ref h3, .ref h4, .ref h5, .int h0f6, .ref h6, .int h0f8, .null, .ref h7, .int h0f11, .ref h8, .ref h9, .ref h10, .ref h11, .ref h12]), (h13, aJ (k 1) 36 anJ), (h1, ob 4 [.int h1f0, .int h1f1, .int h1f2, .ref h13])] _ := hT
    refine lv_if_eq (tgt := 26) hx hb dX10_character_8 (by decide) (fun cc => absurd cc (by decide +kernel)) (fun _ => ?_)
    refine lv_iload_n hx hb dX10_character_11 rfl (lv_at hl 2 rfl) ?_
    refine lv_if_lt (tgt := 26) hx hb dX10_character_12 (by decide) (fun c_4 => ?_) (fun c_4 => ?_)
    · skip
      have c_4 := ni_lt c_4 rfl li_0
      refine lv_iconst (v := (-1)) hx hb dX10_character_26 (by decide) ?_
      exact tz_retI (B := B_cX10_character_b8220 D k h0 h1 h13 h2 h3 h4 h5 h6 h7 h8 h9 h10 h11 h12 x1 x2 h0f2 h0f6 h0f8 h0f11 h1f0 h1f1 h1f2) (v := (-1)) hQ hx hb hr hlocks hS (Nat.le_of_ble_eq_true rfl) (Nat.le_of_ble_eq_true rfl) dX10_character_27 ((hT.sub [0, 2, 1] (by decide) rfl))
    · skip
      have c_4 := ni_nlt c_4 rfl li_0
      refine lv_iload_n hx hb dX10_character_15 rfl (lv_at hl 2 rfl) ?_
      refine lv_aload_n hx hb dX10_character_16 rfl (lv_at hl 0 rfl) ?_
      refine tz_get (ci := 7) (v := .ref h1) (C := RX10) (F := TX10) (N := 17) hx hb hU iX10 hown hK hT 0 rfl rfl 0 (by decide) w249 (fun _ h9 => h9) rfl dX10_character_17 ?_
      refine tz_get (ci := 4) (v := .int h1f0) (C := RX5) (F := TX5) (N := 4) hx hb hU iX5 hown hK hT 2 rfl rfl 0 (by decide) w93 (fun _ h9 => h9) rfl dX10_character_20 ?_
      refine lv_icmp_le (tgt := 28) hx hb dX10_character_23 (by decide) (fun c_5 => ?_) (fun c_5 => ?_)
      · skip
        have c_5 := ni_le c_5 rfl rfl
        refine lv_ldc hx hb hown (hU _ w419) dX10_character_28 ?_
        refine lv_aload_n hx hb dX10_character_30 rfl (lv_at hl 0 rfl) ?_
        refine tz_get (ci := 7) (v := .ref h1) (C := RX10) (F := TX10) (N := 17) hx hb hU iX10 hown hK hT 0 rfl rfl 0 (by decide) w249 (fun _ h9 => h9) rfl dX10_character_31 ?_
        refine tz_get (ci := 4) (v := .ref h13) (C := RX5) (F := TX5) (N := 4) hx hb hU iX5 hown hK hT 2 rfl rfl 3 (by decide) w103 (fun _ h9 => h9) rfl dX10_character_34 ?_
        refine lv_iload_n hx hb dX10_character_37 rfl (lv_at hl 1 rfl) ?_
        refine lv_bipush (v := 9) hx hb dX10_character_38 (by decide) ?_
        refine lv_imul hx hb dX10_character_40 (lv_topi (fun v6 e_v6 => ?_))
        have e_v6 := ai_mul e_v6 rfl li_9 (by omega)
        refine lv_aload_n hx hb dX10_character_41 rfl (lv_at hl 0 rfl) ?_
        refine tz_get (ci := 7) (v := .ref h1) (C := RX10) (F := TX10) (N := 17) hx hb hU iX10 hown hK hT 0 rfl rfl 0 (by decide) w249 (fun _ h9 => h9) rfl dX10_character_42 ?_
        refine tz_get (ci := 4) (v := .int h1f0) (C := RX5) (F := TX5) (N := 4) hx hb hU iX5 hown hK hT 2 rfl rfl 0 (by decide) w93 (fun _ h9 => h9) rfl dX10_character_45 ?_
        refine tcR (Tc := [(h13, aJ (k 1) 36 anJ)]) (Tr := [(h0, ob 7 [.ref h1, .ref h2, .int h0f2, .ref h3, .ref h4, .ref h5, .int h0f6, .ref h6, .int h0f8, .null, .ref h7, .int h0f11, .ref h8, .ref h9, .ref h10, .ref h11, .ref h12]), (h1, ob 4 [.int h1f0, .int h1f1, .int h1f2, .ref h13])]) (as := [h13]) (zcS (As := [.ref h13, .int v6, .int h1f0]) (rest := [.int 1000000]) (Tc := [(h13, aJ (k 1) 36 anJ)]) hx hb hml hown hU hK hT [1] rfl (by decide) (cX3_characterOf_18d92 l D k _ h13 v6 h1f0 (by omega) (by omega)) w422 w420 w421 w76 hdX3_characterOf ⟨rfl, rfl⟩ ⟨Nat.le_of_ble_eq_true rfl, Nat.le_of_ble_eq_true rfl⟩ rfl hl.1 (Nat.le_of_ble_eq_true rfl) dX10_character_48 ⟨Nat.le_of_ble_eq_true rfl, Nat.le_of_ble_eq_true rfl⟩) hT hS hA [1] [0, 2] rfl rfl rfl (by decide) (by decide) (fun r7 H locs hB J hS => ?_)
        obtain ⟨q8, rfl, hT1⟩ := hB
        have hT := J _ hT1
        have hT : TP D A [(h0, ob 7 [.ref h1, .ref h2, .int h0f2, .ref h3, .ref h4, .ref h5, .int h0f6, .ref h6, .int h0f8, .null, .ref h7, .int h0f11, .ref h8, .ref h9, .ref h10, .ref h11, .ref h12]), (h1, ob 4 [.int h1f0, .int h1f1, .int h1f2, .ref h13]), (h13, aJ (k 1) 36 anJ), (q8, aJ (k 1) 4 anJ)] _ := hT
        refine lv_iload_n hx hb dX10_character_51 rfl (lv_at hl 2 rfl) ?_
        refine tz_lald hx hb hK hT 3 rfl (by omega) dX10_character_52 (fun v9 e_v9 => ?_)
        clear e_v9
        refine lv_l2i hx hb dX10_character_53 rfl (lv_topi (fun v10 _ => ?_))
        refine lv_iadd hx hb dX10_character_54 (lv_topi (fun v11 e_v11 => ?_))
        exact tz_retI (B := B_cX10_character_b8220 D k h0 h1 h13 h2 h3 h4 h5 h6 h7 h8 h9 h10 h11 h12 x1 x2 h0f2 h0f6 h0f8 h0f11 h1f0 h1f1 h1f2) (v := v11) hQ hx hb hr hlocks hS (Nat.le_of_ble_eq_true rfl) (Nat.le_of_ble_eq_true rfl) dX10_character_55 ((hT.sub [0, 1, 2] (by decide) rfl))
      · skip
        have c_5 := ni_nle c_5 rfl rfl
        refine lv_iconst (v := (-1)) hx hb dX10_character_26 (by decide) ?_
        exact tz_retI (B := B_cX10_character_b8220 D k h0 h1 h13 h2 h3 h4 h5 h6 h7 h8 h9 h10 h11 h12 x1 x2 h0f2 h0f6 h0f8 h0f11 h1f0 h1f1 h1f2) (v := (-1)) hQ hx hb hr hlocks hS (Nat.le_of_ble_eq_true rfl) (Nat.le_of_ble_eq_true rfl) dX10_character_27 ((hT.sub [0, 2, 1] (by decide) rfl))
abbrev Rm_cX10_character_854fd : Room := { frames := 3, cells := 1, slots := 4, locals := 80 }
abbrev B_cX10_character_854fd (D : va_G) (k : Nat → ClassId) (h0 h1 h14 h2 h3 h4 h5 h6 h7 h8 h9 h10 h11 h12 h13 : Nat) (x1 : Int32) (x2 : Int32) (h0f2 : Int32) (h0f6 : Int32) (h0f8 : Int32) (h0f11 : Int32) (h1f0 : Int32) (h1f1 : Int32) (h1f2 : Int32) (A : Nat → Prop) (r : Int32) (H : Heap) : Prop := TP D A [(h0, ob 7 [.ref h1, .ref h2, .int h0f2, .ref h3, .ref h4, .ref h5, .int h0f6, .ref h6, .int h0f8, .ref h7, .ref h8, .int h0f11, .ref h9, .ref h10, .ref h11, .ref h12, .ref h13]), (h1, ob 4 [.int h1f0, .int h1f1, .int h1f2, .ref h14]), (h14, aJ (k 1) 36 anJ)] H
set_option maxHeartbeats 4000000 in
set_option maxRecDepth 100000 in
theorem cX10_character_854fd (l : Launch) (D : va_G) (k : Nat → ClassId) (sz : Nat) (h0 h1 h14 h2 h3 h4 h5 h6 h7 h8 h9 h10 h11 h12 h13 : Nat) (x1 : Int32) (x2 : Int32) (h0f2 : Int32) (h0f6 : Int32) (h0f8 : Int32) (h0f11 : Int32) (h1f0 : Int32) (h1f1 : Int32) (h1f2 : Int32) (b_h0f2 : 0 ≤ h0f2.toInt ∧ h0f2.toInt ≤ 1) (b_h0f6 : 0 ≤ h0f6.toInt ∧ h0f6.toInt ≤ 1) (b_h0f8 : 0 ≤ h0f8.toInt ∧ h0f8.toInt ≤ 1) (b_h0f11 : 0 ≤ h0f11.toInt ∧ h0f11.toInt ≤ 200) (b_h1f0 : 1 ≤ h1f0.toInt ∧ h1f0.toInt ≤ 3) (b_h1f1 : 0 ≤ h1f1.toInt ∧ h1f1.toInt ≤ 4) : Met l yX10_character (Cond.code yX10_character cX10_character 3 (some .int) :: uw) Rm_cX10_character_854fd (pT D k sz [.ref h0, .int x1, .int x2] [(h0, ob 7 [.ref h1, .ref h2, .int h0f2, .ref h3, .ref h4, .ref h5, .int h0f6, .ref h6, .int h0f8, .ref h7, .ref h8, .int h0f11, .ref h9, .ref h10, .ref h11, .ref h12, .ref h13]), (h1, ob 4 [.int h1f0, .int h1f1, .int h1f2, .ref h14]), (h14, aJ (k 1) 36 anJ)]) (qI (B_cX10_character_854fd D k h0 h1 h14 h2 h3 h4 h5 h6 h7 h8 h9 h10 h11 h12 h13 x1 x2 h0f2 h0f6 h0f8 h0f11 h1f0 h1f1 h1f2 (zA [h0, h1, h14] sz)) (zA [h0, h1, h14] sz)) 1 4 (zA [h0, h1, h14] sz) := by
  refine tz_begin (as := [h0, h1, h14]) (Qc := fun A => qI (B_cX10_character_854fd D k h0 h1 h14 h2 h3 h4 h5 h6 h7 h8 h9 h10 h11 h12 h13 x1 x2 h0f2 h0f6 h0f8 h0f11 h1f0 h1f1 h1f2 A) A) (by decide +kernel) rfl (Nat.le_of_ble_eq_true rfl) ?_
  intro p e s m args below meth c ls A Q hx hb hr hml hown hlocks hin hU hK hT hS hA hl hQ
  have hl : lv_has ls 3 [(0, .ref h0), (1, .int x1), (2, .int x2)] := hl
  have hT : TP D A [(h0, ob 7 [.ref h1, .ref h2, .int h0f2, .ref h3, .ref h4, .ref h5, .int h0f6, .ref h6, .int h0f8, .ref h7, .ref h8, .int h0f11, .ref h9, .ref h10, .ref h11, .ref h12, .ref h13]), (h1, ob 4 [.int h1f0, .int h1f1, .int h1f2, .ref h14]), (h14, aJ (k 1) 36 anJ)] s.heap := hT
  refine lv_aload_n hx hb dX10_character_0 rfl (lv_at hl 0 rfl) ?_
  refine tz_get (ci := 7) (v := .ref h1) (C := RX10) (F := TX10) (N := 17) hx hb hU iX10 hown hK hT 0 rfl rfl 0 (by decide) w249 (fun _ h9 => h9) rfl dX10_character_1 ?_
  refine lv_iload_n hx hb dX10_character_4 rfl (lv_at hl 1 rfl) ?_
  refine tcI (Tc := [(h1, ob 4 [.int h1f0, .int h1f1, .int h1f2, .ref h14])]) (Tr := [(h0, ob 7 [.ref h1, .ref h2, .int h0f2, .ref h3, .ref h4, .ref h5, .int h0f6, .ref h6, .int h0f8, .ref h7, .ref h8, .int h0f11, .ref h9, .ref h10, .ref h11, .ref h12, .ref h13]), (h14, aJ (k 1) 36 anJ)]) (as := [h1]) (zcV (q0 := 1) (ci := 4) (As := [.int x1]) (rest := []) (Tc := [(h1, ob 4 [.int h1f0, .int h1f1, .int h1f2, .ref h14])]) hx hb hml hown hU hK hT rfl rfl [1] rfl (by decide) (cX5_has_64567 l D k _ h1 h14 x1 h1f0 h1f1 h1f2 (by omega) (by omega)) w356 w353 w354 w355 w64 hdX5_has ⟨rfl, rfl⟩ ⟨Nat.le_of_ble_eq_true rfl, Nat.le_of_ble_eq_true rfl⟩ rfl hl.1 (Nat.le_of_ble_eq_true rfl) dX10_character_5 ⟨Nat.le_of_ble_eq_true rfl, Nat.le_of_ble_eq_true rfl⟩) hT hS hA [1] [0, 2] rfl rfl rfl (by decide) (by decide) (fun r1 H locs hB J hS => ?_)
  rcases hB with ⟨rfl, hT1⟩ | ⟨c_2, c_3, rfl, hT1⟩
  · skip
    have hT := J _ hT1
    have hT : TP D A [(h0, ob 7 [.ref h1, .ref h2, .int h0f2, .ref h3, .ref h4, .ref h5, .int h0f6, .ref h6, .int h0f8, .ref h7, .ref h8, .int h0f11, .ref h9, .ref h10, .ref h11, .ref h12, .ref h13]), (h14, aJ (k 1) 36 anJ), (h1, ob 4 [.int h1f0, .int h1f1, .int h1f2, .ref h14])] _ := hT
    refine lv_if_eq (tgt := 26) hx hb dX10_character_8 (by decide) (fun _ => ?_) (fun cc => absurd (by decide +kernel) cc)
    refine lv_iconst (v := (-1)) hx hb dX10_character_26 (by decide) ?_
    exact tz_retI (B := B_cX10_character_854fd D k h0 h1 h14 h2 h3 h4 h5 h6 h7 h8 h9 h10 h11 h12 h13 x1 x2 h0f2 h0f6 h0f8 h0f11 h1f0 h1f1 h1f2) (v := (-1)) hQ hx hb hr hlocks hS (Nat.le_of_ble_eq_true rfl) (Nat.le_of_ble_eq_true rfl) dX10_character_27 ((hT.sub [0, 2, 1] (by decide) rfl))
  · skip
    have hT := J _ hT1
    have hT : TP D A [(h0, ob 7 [.ref h1, .ref h2, .int h0f2, .ref h3, .ref h4, .ref h5, .int h0f6, .ref h6, .int h0f8, .ref h7, .ref h8, .int h0f11, .ref h9, .ref h10, .ref h11, .ref h12, .ref h13]), (h14, aJ (k 1) 36 anJ), (h1, ob 4 [.int h1f0, .int h1f1, .int h1f2, .ref h14])] _ := hT
    refine lv_if_eq (tgt := 26) hx hb dX10_character_8 (by decide) (fun cc => absurd cc (by decide +kernel)) (fun _ => ?_)
    refine lv_iload_n hx hb dX10_character_11 rfl (lv_at hl 2 rfl) ?_
    refine lv_if_lt (tgt := 26) hx hb dX10_character_12 (by decide) (fun c_4 => ?_) (fun c_4 => ?_)
    · skip
      have c_4 := ni_lt c_4 rfl li_0
      refine lv_iconst (v := (-1)) hx hb dX10_character_26 (by decide) ?_
      exact tz_retI (B := B_cX10_character_854fd D k h0 h1 h14 h2 h3 h4 h5 h6 h7 h8 h9 h10 h11 h12 h13 x1 x2 h0f2 h0f6 h0f8 h0f11 h1f0 h1f1 h1f2) (v := (-1)) hQ hx hb hr hlocks hS (Nat.le_of_ble_eq_true rfl) (Nat.le_of_ble_eq_true rfl) dX10_character_27 ((hT.sub [0, 2, 1] (by decide) rfl))
    · skip
      have c_4 := ni_nlt c_4 rfl li_0
      refine lv_iload_n hx hb dX10_character_15 rfl (lv_at hl 2 rfl) ?_
      refine lv_aload_n hx hb dX10_character_16 rfl (lv_at hl 0 rfl) ?_
      refine tz_get (ci := 7) (v := .ref h1) (C := RX10) (F := TX10) (N := 17) hx hb hU iX10 hown hK hT 0 rfl rfl 0 (by decide) w249 (fun _ h9 => h9) rfl dX10_character_17 ?_
      refine tz_get (ci := 4) (v := .int h1f0) (C := RX5) (F := TX5) (N := 4) hx hb hU iX5 hown hK hT 2 rfl rfl 0 (by decide) w93 (fun _ h9 => h9) rfl dX10_character_20 ?_
      refine lv_icmp_le (tgt := 28) hx hb dX10_character_23 (by decide) (fun c_5 => ?_) (fun c_5 => ?_)
      · skip
        have c_5 := ni_le c_5 rfl rfl
        refine lv_ldc hx hb hown (hU _ w419) dX10_character_28 ?_
        refine lv_aload_n hx hb dX10_character_30 rfl (lv_at hl 0 rfl) ?_
        refine tz_get (ci := 7) (v := .ref h1) (C := RX10) (F := TX10) (N := 17) hx hb hU iX10 hown hK hT 0 rfl rfl 0 (by decide) w249 (fun _ h9 => h9) rfl dX10_character_31 ?_
        refine tz_get (ci := 4) (v := .ref h14) (C := RX5) (F := TX5) (N := 4) hx hb hU iX5 hown hK hT 2 rfl rfl 3 (by decide) w103 (fun _ h9 => h9) rfl dX10_character_34 ?_
        refine lv_iload_n hx hb dX10_character_37 rfl (lv_at hl 1 rfl) ?_
        refine lv_bipush (v := 9) hx hb dX10_character_38 (by decide) ?_
        refine lv_imul hx hb dX10_character_40 (lv_topi (fun v6 e_v6 => ?_))
        have e_v6 := ai_mul e_v6 rfl li_9 (by omega)
        refine lv_aload_n hx hb dX10_character_41 rfl (lv_at hl 0 rfl) ?_
        refine tz_get (ci := 7) (v := .ref h1) (C := RX10) (F := TX10) (N := 17) hx hb hU iX10 hown hK hT 0 rfl rfl 0 (by decide) w249 (fun _ h9 => h9) rfl dX10_character_42 ?_
        refine tz_get (ci := 4) (v := .int h1f0) (C := RX5) (F := TX5) (N := 4) hx hb hU iX5 hown hK hT 2 rfl rfl 0 (by decide) w93 (fun _ h9 => h9) rfl dX10_character_45 ?_
        refine tcR (Tc := [(h14, aJ (k 1) 36 anJ)]) (Tr := [(h0, ob 7 [.ref h1, .ref h2, .int h0f2, .ref h3, .ref h4, .ref h5, .int h0f6, .ref h6, .int h0f8, .ref h7, .ref h8, .int h0f11, .ref h9, .ref h10, .ref h11, .ref h12, .ref h13]), (h1, ob 4 [.int h1f0, .int h1f1, .int h1f2, .ref h14])]) (as := [h14]) (zcS (As := [.ref h14, .int v6, .int h1f0]) (rest := [.int 1000000]) (Tc := [(h14, aJ (k 1) 36 anJ)]) hx hb hml hown hU hK hT [1] rfl (by decide) (cX3_characterOf_18d92 l D k _ h14 v6 h1f0 (by omega) (by omega)) w422 w420 w421 w76 hdX3_characterOf ⟨rfl, rfl⟩ ⟨Nat.le_of_ble_eq_true rfl, Nat.le_of_ble_eq_true rfl⟩ rfl hl.1 (Nat.le_of_ble_eq_true rfl) dX10_character_48 ⟨Nat.le_of_ble_eq_true rfl, Nat.le_of_ble_eq_true rfl⟩) hT hS hA [1] [0, 2] rfl rfl rfl (by decide) (by decide) (fun r7 H locs hB J hS => ?_)
        obtain ⟨q8, rfl, hT1⟩ := hB
        have hT := J _ hT1
        have hT : TP D A [(h0, ob 7 [.ref h1, .ref h2, .int h0f2, .ref h3, .ref h4, .ref h5, .int h0f6, .ref h6, .int h0f8, .ref h7, .ref h8, .int h0f11, .ref h9, .ref h10, .ref h11, .ref h12, .ref h13]), (h1, ob 4 [.int h1f0, .int h1f1, .int h1f2, .ref h14]), (h14, aJ (k 1) 36 anJ), (q8, aJ (k 1) 4 anJ)] _ := hT
        refine lv_iload_n hx hb dX10_character_51 rfl (lv_at hl 2 rfl) ?_
        refine tz_lald hx hb hK hT 3 rfl (by omega) dX10_character_52 (fun v9 e_v9 => ?_)
        clear e_v9
        refine lv_l2i hx hb dX10_character_53 rfl (lv_topi (fun v10 _ => ?_))
        refine lv_iadd hx hb dX10_character_54 (lv_topi (fun v11 e_v11 => ?_))
        exact tz_retI (B := B_cX10_character_854fd D k h0 h1 h14 h2 h3 h4 h5 h6 h7 h8 h9 h10 h11 h12 h13 x1 x2 h0f2 h0f6 h0f8 h0f11 h1f0 h1f1 h1f2) (v := v11) hQ hx hb hr hlocks hS (Nat.le_of_ble_eq_true rfl) (Nat.le_of_ble_eq_true rfl) dX10_character_55 ((hT.sub [0, 1, 2] (by decide) rfl))
      · skip
        have c_5 := ni_nle c_5 rfl rfl
        refine lv_iconst (v := (-1)) hx hb dX10_character_26 (by decide) ?_
        exact tz_retI (B := B_cX10_character_854fd D k h0 h1 h14 h2 h3 h4 h5 h6 h7 h8 h9 h10 h11 h12 h13 x1 x2 h0f2 h0f6 h0f8 h0f11 h1f0 h1f1 h1f2) (v := (-1)) hQ hx hb hr hlocks hS (Nat.le_of_ble_eq_true rfl) (Nat.le_of_ble_eq_true rfl) dX10_character_27 ((hT.sub [0, 2, 1] (by decide) rfl))
abbrev Rm_cX11_finds_682f6 : Room := { frames := 1, cells := 0, slots := 0, locals := 27 }
abbrev B_cX11_finds_682f6 (D : va_G) (k : Nat → ClassId) (h0 h1 h4 h7 h2 h3 h5 h6 h8 h9 h10 h11 h12 h13 h14 h15 h16 h17 h18 h19 h20 h21 : Nat) (x1 : Int32) (h0f0 : Int32) (h0f1 : Int32) (h0f2 : Int32) (h0f3 : Int32) (h0f4 : Int32) (h0f5 : Int32) (h0f8 : Int32) (h0f9 : Int32) (h0f17 : Int32) (h0f18 : Int32) (h0f19 : Int32) (h0f24 : Int32) (h0f25 : Int32) (h0f30 : Int32) (h0f31 : Int32) (A : Nat → Prop) (H : Heap) : Prop := TP D A [(h0, ob 8 [.int h0f0, .int h0f1, .int h0f2, .int h0f3, .int h0f4, .int h0f5, .ref h1, .ref h2, .int h0f8, .int h0f9, .ref h3, .ref h4, .ref h5, .ref h6, .ref h7, .ref h8, .ref h9, .int h0f17, .int h0f18, .int h0f19, .ref h10, .ref h11, .ref h12, .ref h13, .int h0f24, .int h0f25, .ref h14, .ref h15, .ref h16, .ref h17, .int h0f30, .int h0f31, .ref h18, .ref h19, .ref h20, .ref h21]), (h1, aI (k 0) 36 anI), (h4, aJ (k 1) 9 anJ), (h7, aJ (k 1) 4 anJ)] H
set_option maxHeartbeats 4000000 in
set_option maxRecDepth 100000 in
theorem cX11_finds_682f6 (l : Launch) (D : va_G) (k : Nat → ClassId) (sz : Nat) (h0 h1 h4 h7 h2 h3 h5 h6 h8 h9 h10 h11 h12 h13 h14 h15 h16 h17 h18 h19 h20 h21 : Nat) (x1 : Int32) (h0f0 : Int32) (h0f1 : Int32) (h0f2 : Int32) (h0f3 : Int32) (h0f4 : Int32) (h0f5 : Int32) (h0f8 : Int32) (h0f9 : Int32) (h0f17 : Int32) (h0f18 : Int32) (h0f19 : Int32) (h0f24 : Int32) (h0f25 : Int32) (h0f30 : Int32) (h0f31 : Int32) (b_x1 : 0 ≤ x1.toInt ∧ x1.toInt ≤ 3) (b_h0f0 : 1 ≤ h0f0.toInt ∧ h0f0.toInt ≤ 3) (b_h0f1 : 1 ≤ h0f1.toInt ∧ h0f1.toInt ≤ 4) (b_h0f3 : 0 ≤ h0f3.toInt ∧ h0f3.toInt ≤ 3) (b_h0f4 : 0 ≤ h0f4.toInt ∧ h0f4.toInt ≤ 4) (b_h0f8 : 0 ≤ h0f8.toInt ∧ h0f8.toInt ≤ 1) (b_h0f9 : 0 ≤ h0f9.toInt ∧ h0f9.toInt ≤ 1) (b_h0f17 : 0 ≤ h0f17.toInt ∧ h0f17.toInt ≤ 120) (b_h0f18 : 0 ≤ h0f18.toInt ∧ h0f18.toInt ≤ 120) (b_h0f19 : 0 ≤ h0f19.toInt ∧ h0f19.toInt ≤ 4) (b_h0f24 : 0 ≤ h0f24.toInt ∧ h0f24.toInt ≤ 100) (b_h0f25 : 0 ≤ h0f25.toInt ∧ h0f25.toInt ≤ 1) (b_h0f30 : 0 ≤ h0f30.toInt ∧ h0f30.toInt ≤ 60) (b_h0f31 : 0 ≤ h0f31.toInt ∧ h0f31.toInt ≤ 1) (i_0 : h0f8.toInt ≤ h0f3.toInt) (i_1 : h0f9.toInt ≤ h0f24.toInt) : Met l yX11_finds (Cond.code yX11_finds cX11_finds 4 none :: uw) Rm_cX11_finds_682f6 (pT D k sz [.ref h0, .int x1] [(h0, ob 8 [.int h0f0, .int h0f1, .int h0f2, .int h0f3, .int h0f4, .int h0f5, .ref h1, .ref h2, .int h0f8, .int h0f9, .ref h3, .ref h4, .ref h5, .ref h6, .ref h7, .ref h8, .ref h9, .int h0f17, .int h0f18, .int h0f19, .ref h10, .ref h11, .ref h12, .ref h13, .int h0f24, .int h0f25, .ref h14, .ref h15, .ref h16, .ref h17, .int h0f30, .int h0f31, .ref h18, .ref h19, .ref h20, .ref h21]), (h1, aI (k 0) 36 anI), (h4, aJ (k 1) 9 anJ), (h7, aJ (k 1) 4 anJ)]) (qV (B_cX11_finds_682f6 D k h0 h1 h4 h7 h2 h3 h5 h6 h8 h9 h10 h11 h12 h13 h14 h15 h16 h17 h18 h19 h20 h21 x1 h0f0 h0f1 h0f2 h0f3 h0f4 h0f5 h0f8 h0f9 h0f17 h0f18 h0f19 h0f24 h0f25 h0f30 h0f31 (zA [h0, h1, h4, h7] sz)) (zA [h0, h1, h4, h7] sz)) 0 0 (zA [h0, h1, h4, h7] sz) := by
  refine tz_begin (as := [h0, h1, h4, h7]) (Qc := fun A => qV (B_cX11_finds_682f6 D k h0 h1 h4 h7 h2 h3 h5 h6 h8 h9 h10 h11 h12 h13 h14 h15 h16 h17 h18 h19 h20 h21 x1 h0f0 h0f1 h0f2 h0f3 h0f4 h0f5 h0f8 h0f9 h0f17 h0f18 h0f19 h0f24 h0f25 h0f30 h0f31 A) A) (by decide +kernel) rfl (Nat.le_of_ble_eq_true rfl) ?_
  intro p e s m args below meth c ls A Q hx hb hr hml hown hlocks hin hU hK hT hS hA hl hQ
  have hl : lv_has ls 4 [(0, .ref h0), (1, .int x1)] := hl
  have hT : TP D A [(h0, ob 8 [.int h0f0, .int h0f1, .int h0f2, .int h0f3, .int h0f4, .int h0f5, .ref h1, .ref h2, .int h0f8, .int h0f9, .ref h3, .ref h4, .ref h5, .ref h6, .ref h7, .ref h8, .ref h9, .int h0f17, .int h0f18, .int h0f19, .ref h10, .ref h11, .ref h12, .ref h13, .int h0f24, .int h0f25, .ref h14, .ref h15, .ref h16, .ref h17, .int h0f30, .int h0f31, .ref h18, .ref h19, .ref h20, .ref h21]), (h1, aI (k 0) 36 anI), (h4, aJ (k 1) 9 anJ), (h7, aJ (k 1) 4 anJ)] s.heap := hT
  refine lv_aload_n hx hb dX11_finds_0 rfl (lv_at hl 0 rfl) ?_
  refine lv_iload_n hx hb dX11_finds_1 rfl (lv_at hl 1 rfl) ?_
  refine lv_aload_n hx hb dX11_finds_2 rfl (lv_at hl 0 rfl) ?_
  refine tz_get (ci := 8) (v := .ref h4) (C := RX11) (F := TX11) (N := 36) hx hb hU iX11 hown hK hT 0 rfl rfl 11 (by decide) w796 (fun _ h9 => h9) rfl dX11_finds_3 ?_
  refine tcV (Tc := [(h0, ob 8 [.int h0f0, .int h0f1, .int h0f2, .int h0f3, .int h0f4, .int h0f5, .ref h1, .ref h2, .int h0f8, .int h0f9, .ref h3, .ref h4, .ref h5, .ref h6, .ref h7, .ref h8, .ref h9, .int h0f17, .int h0f18, .int h0f19, .ref h10, .ref h11, .ref h12, .ref h13, .int h0f24, .int h0f25, .ref h14, .ref h15, .ref h16, .ref h17, .int h0f30, .int h0f31, .ref h18, .ref h19, .ref h20, .ref h21]), (h4, aJ (k 1) 9 anJ), (h1, aI (k 0) 36 anI)]) (Tr := [(h7, aJ (k 1) 4 anJ)]) (as := [h0, h4, h1]) (zcV (q0 := 0) (ci := 8) (As := [.int x1, .ref h4]) (rest := []) (Tc := [(h0, ob 8 [.int h0f0, .int h0f1, .int h0f2, .int h0f3, .int h0f4, .int h0f5, .ref h1, .ref h2, .int h0f8, .int h0f9, .ref h3, .ref h4, .ref h5, .ref h6, .ref h7, .ref h8, .ref h9, .int h0f17, .int h0f18, .int h0f19, .ref h10, .ref h11, .ref h12, .ref h13, .int h0f24, .int h0f25, .ref h14, .ref h15, .ref h16, .ref h17, .int h0f30, .int h0f31, .ref h18, .ref h19, .ref h20, .ref h21]), (h4, aJ (k 1) 9 anJ), (h1, aI (k 0) 36 anI)]) hx hb hml hown hU hK hT rfl rfl [0, 2, 1] rfl (by decide) (cX11_takes_35579 l D k _ h0 h4 h1 h2 h3 h5 h6 h7 h8 h9 h10 h11 h12 h13 h14 h15 h16 h17 h18 h19 h20 h21 x1 h0f0 h0f1 h0f2 h0f3 h0f4 h0f5 h0f8 h0f9 h0f17 h0f18 h0f19 h0f24 h0f25 h0f30 h0f31 (by omega) (by omega) (by omega) (by omega) (by omega) (by omega) (by omega) (by omega) (by omega) (by omega) (by omega) (by omega) (by omega) (by omega) (by omega) (by omega)) w939 w936 w938 w32 w72 hdX11_takes ⟨rfl, rfl⟩ ⟨Nat.le_of_ble_eq_true rfl, Nat.le_of_ble_eq_true rfl⟩ rfl hl.1 (Nat.le_of_ble_eq_true rfl) dX11_finds_6 ⟨Nat.le_of_ble_eq_true rfl, Nat.le_of_ble_eq_true rfl⟩) hT hS hA [0, 2, 1] [3] rfl rfl rfl (by decide) (by decide) (fun H locs hB J hS => ?_)
  have hT1 := hB
  have hT := J _ hT1
  have hT : TP D A [(h7, aJ (k 1) 4 anJ), (h0, ob 8 [.int h0f0, .int h0f1, .int h0f2, .int h0f3, .int h0f4, .int h0f5, .ref h1, .ref h2, .int h0f8, .int h0f9, .ref h3, .ref h4, .ref h5, .ref h6, .ref h7, .ref h8, .ref h9, .int h0f17, .int h0f18, .int h0f19, .ref h10, .ref h11, .ref h12, .ref h13, .int h0f24, .int h0f25, .ref h14, .ref h15, .ref h16, .ref h17, .int h0f30, .int h0f31, .ref h18, .ref h19, .ref h20, .ref h21]), (h4, aJ (k 1) 9 anJ), (h1, aI (k 0) 36 anI)] _ := hT
  refine lv_aload_n hx hb dX11_finds_9 rfl (lv_at hl 0 rfl) ?_
  refine tz_get (ci := 8) (v := .ref h4) (C := RX11) (F := TX11) (N := 36) hx hb hU iX11 hown hK hT 1 rfl rfl 11 (by decide) w796 (fun _ h9 => h9) rfl dX11_finds_10 ?_
  refine lv_iconst (v := 0) hx hb dX11_finds_13 (by decide) ?_
  refine tz_lald hx hb hK hT 2 rfl (by have := li_0; omega) dX11_finds_14 (fun v2 e_v2 => ?_)
  clear e_v2
  refine lv_aload_n hx hb dX11_finds_15 rfl (lv_at hl 0 rfl) ?_
  refine tz_get (ci := 8) (v := .ref h4) (C := RX11) (F := TX11) (N := 36) hx hb hU iX11 hown hK hT 1 rfl rfl 11 (by decide) w796 (fun _ h9 => h9) rfl dX11_finds_16 ?_
  refine lv_iconst (v := 4) hx hb dX11_finds_19 (by decide) ?_
  refine tz_lald hx hb hK hT 2 rfl (by have := li_4; omega) dX11_finds_20 (fun v3 e_v3 => ?_)
  clear e_v3
  refine lv_ladd hx hb dX11_finds_21 (lv_topl (fun v4 e_v4 => ?_))
  refine lv_aload_n hx hb dX11_finds_22 rfl (lv_at hl 0 rfl) ?_
  refine tz_get (ci := 8) (v := .ref h4) (C := RX11) (F := TX11) (N := 36) hx hb hU iX11 hown hK hT 1 rfl rfl 11 (by decide) w796 (fun _ h9 => h9) rfl dX11_finds_23 ?_
  refine lv_bipush (v := 8) hx hb dX11_finds_26 (by decide) ?_
  refine tz_lald hx hb hK hT 2 rfl (by have := li_8; omega) dX11_finds_28 (fun v5 e_v5 => ?_)
  clear e_v5
  refine lv_ladd hx hb dX11_finds_29 (lv_topl (fun v6 e_v6 => ?_))
  refine lv_lstore_n (lv' := [(2, .long v6), (0, .ref h0), (1, .int x1)]) hx hb dX11_finds_30 rfl hl (by decide) rfl (fun ls hl => ?_)
  refine lv_aload_n hx hb dX11_finds_31 rfl (lv_at hl 1 rfl) ?_
  refine tz_get (ci := 8) (v := .ref h7) (C := RX11) (F := TX11) (N := 36) hx hb hU iX11 hown hK hT 1 rfl rfl 14 (by decide) w799 (fun _ h9 => h9) rfl dX11_finds_32 ?_
  refine lv_iconst (v := 0) hx hb dX11_finds_35 (by decide) ?_
  refine lv_aload_n hx hb dX11_finds_36 rfl (lv_at hl 1 rfl) ?_
  refine tz_get (ci := 8) (v := .int h0f0) (C := RX11) (F := TX11) (N := 36) hx hb hU iX11 hown hK hT 1 rfl rfl 0 (by decide) w785 (fun _ h9 => h9) rfl dX11_finds_37 ?_
  refine lv_iconst (v := 2) hx hb dX11_finds_40 (by decide) ?_
  refine lv_irem hx hb dX11_finds_41 (by decide +kernel) (lv_topi (fun v7 e_v7 => ?_))
  have e_v7 := ai_rem e_v7 rfl li_2 (by omega)
  refine lv_if_ne (tgt := 56) hx hb dX11_finds_42 (by decide) (fun c_8 => ?_) (fun c_8 => ?_)
  · skip
    have c_8 := ni_ne c_8 rfl li_0
    refine lv_aload_n hx hb dX11_finds_56 rfl (lv_at hl 1 rfl) ?_
    refine lv_aload_n hx hb dX11_finds_57 rfl (lv_at hl 1 rfl) ?_
    refine tz_get (ci := 8) (v := .ref h4) (C := RX11) (F := TX11) (N := 36) hx hb hU iX11 hown hK hT 1 rfl rfl 11 (by decide) w796 (fun _ h9 => h9) rfl dX11_finds_58 ?_
    refine tcL (Tc := [(h0, ob 8 [.int h0f0, .int h0f1, .int h0f2, .int h0f3, .int h0f4, .int h0f5, .ref h1, .ref h2, .int h0f8, .int h0f9, .ref h3, .ref h4, .ref h5, .ref h6, .ref h7, .ref h8, .ref h9, .int h0f17, .int h0f18, .int h0f19, .ref h10, .ref h11, .ref h12, .ref h13, .int h0f24, .int h0f25, .ref h14, .ref h15, .ref h16, .ref h17, .int h0f30, .int h0f31, .ref h18, .ref h19, .ref h20, .ref h21]), (h4, aJ (k 1) 9 anJ)]) (Tr := [(h7, aJ (k 1) 4 anJ), (h1, aI (k 0) 36 anI)]) (as := [h0, h4]) (zcV (q0 := 1) (ci := 8) (As := [.ref h4]) (rest := [.int 0, .ref h7]) (Tc := [(h0, ob 8 [.int h0f0, .int h0f1, .int h0f2, .int h0f3, .int h0f4, .int h0f5, .ref h1, .ref h2, .int h0f8, .int h0f9, .ref h3, .ref h4, .ref h5, .ref h6, .ref h7, .ref h8, .ref h9, .int h0f17, .int h0f18, .int h0f19, .ref h10, .ref h11, .ref h12, .ref h13, .int h0f24, .int h0f25, .ref h14, .ref h15, .ref h16, .ref h17, .int h0f30, .int h0f31, .ref h18, .ref h19, .ref h20, .ref h21]), (h4, aJ (k 1) 9 anJ)]) hx hb hml hown hU hK hT rfl rfl [1, 2] rfl (by decide) (cX11_det_9ae4b l D k _ h0 h4 h1 h2 h3 h5 h6 h7 h8 h9 h10 h11 h12 h13 h14 h15 h16 h17 h18 h19 h20 h21 h0f0 h0f1 h0f2 h0f3 h0f4 h0f5 h0f8 h0f9 h0f17 h0f18 h0f19 h0f24 h0f25 h0f30 h0f31 (by omega) (by omega) (by omega) (by omega) (by omega) (by omega) (by omega) (by omega) (by omega) (by omega) (by omega) (by omega) (by omega) (by omega) (by omega)) w952 w949 w951 w35 w72 hdX11_det ⟨rfl, rfl⟩ ⟨Nat.le_of_ble_eq_true rfl, Nat.le_of_ble_eq_true rfl⟩ rfl hl.1 (Nat.le_of_ble_eq_true rfl) dX11_finds_61 ⟨Nat.le_of_ble_eq_true rfl, Nat.le_of_ble_eq_true rfl⟩) hT hS hA [1, 2] [0, 3] rfl rfl rfl (by decide) (by decide) (fun r9 H locs hB J hS => ?_)
    have hT1 := hB
    have hT := J _ hT1
    have hT : TP D A [(h7, aJ (k 1) 4 anJ), (h1, aI (k 0) 36 anI), (h0, ob 8 [.int h0f0, .int h0f1, .int h0f2, .int h0f3, .int h0f4, .int h0f5, .ref h1, .ref h2, .int h0f8, .int h0f9, .ref h3, .ref h4, .ref h5, .ref h6, .ref h7, .ref h8, .ref h9, .int h0f17, .int h0f18, .int h0f19, .ref h10, .ref h11, .ref h12, .ref h13, .int h0f24, .int h0f25, .ref h14, .ref h15, .ref h16, .ref h17, .int h0f30, .int h0f31, .ref h18, .ref h19, .ref h20, .ref h21]), (h4, aJ (k 1) 9 anJ)] _ := hT
    refine lv_lneg hx hb dX11_finds_64 (lv_topl (fun v10 e_v10 => ?_))
    have e_v10 := al_negz e_v10
    refine tz_last hx hb hK hT hS 0 rfl (by have := li_0; omega) (fun _ _ => trivial) dX11_finds_65 (fun H locs hT hS => ?_)
    refine lv_aload_n hx hb dX11_finds_66 rfl (lv_at hl 1 rfl) ?_
    refine tz_get (ci := 8) (v := .ref h7) (C := RX11) (F := TX11) (N := 36) hx hb hU iX11 hown hK hT 2 rfl rfl 14 (by decide) w799 (fun _ h9 => h9) rfl dX11_finds_67 ?_
    refine lv_iconst (v := 1) hx hb dX11_finds_70 (by decide) ?_
    refine lv_aload_n hx hb dX11_finds_71 rfl (lv_at hl 1 rfl) ?_
    refine tz_get (ci := 8) (v := .int h0f0) (C := RX11) (F := TX11) (N := 36) hx hb hU iX11 hown hK hT 2 rfl rfl 0 (by decide) w785 (fun _ h9 => h9) rfl dX11_finds_72 ?_
    refine lv_iconst (v := 1) hx hb dX11_finds_75 (by decide) ?_
    refine lv_icmp_ne (tgt := 83) hx hb dX11_finds_76 (by decide) (fun c_11 => ?_) (fun c_11 => ?_)
    · skip
      have c_11 := ni_ne c_11 rfl li_1
      refine lv_aload_n hx hb dX11_finds_83 rfl (lv_at hl 1 rfl) ?_
      refine tz_get (ci := 8) (v := .int h0f0) (C := RX11) (F := TX11) (N := 36) hx hb hU iX11 hown hK hT 2 rfl rfl 0 (by decide) w785 (fun _ h9 => h9) rfl dX11_finds_84 ?_
      refine lv_iconst (v := 2) hx hb dX11_finds_87 (by decide) ?_
      refine lv_icmp_ne (tgt := 96) hx hb dX11_finds_88 (by decide) (fun c_12 => ?_) (fun c_12 => ?_)
      · skip
        have c_12 := ni_ne c_12 rfl li_2
        refine lv_aload_n hx hb dX11_finds_96 rfl (lv_at hl 1 rfl) ?_
        refine lv_aload_n hx hb dX11_finds_97 rfl (lv_at hl 1 rfl) ?_
        refine tz_get (ci := 8) (v := .ref h4) (C := RX11) (F := TX11) (N := 36) hx hb hU iX11 hown hK hT 2 rfl rfl 11 (by decide) w796 (fun _ h9 => h9) rfl dX11_finds_98 ?_
        refine lv_iconst (v := 0) hx hb dX11_finds_101 (by decide) ?_
        refine lv_iconst (v := 0) hx hb dX11_finds_102 (by decide) ?_
        have q_q14 := li_0
        have q_q15 := li_0
        refine tcL (Tc := [(h0, ob 8 [.int h0f0, .int h0f1, .int h0f2, .int h0f3, .int h0f4, .int h0f5, .ref h1, .ref h2, .int h0f8, .int h0f9, .ref h3, .ref h4, .ref h5, .ref h6, .ref h7, .ref h8, .ref h9, .int h0f17, .int h0f18, .int h0f19, .ref h10, .ref h11, .ref h12, .ref h13, .int h0f24, .int h0f25, .ref h14, .ref h15, .ref h16, .ref h17, .int h0f30, .int h0f31, .ref h18, .ref h19, .ref h20, .ref h21]), (h4, aJ (k 1) 9 anJ)]) (Tr := [(h7, aJ (k 1) 4 anJ), (h1, aI (k 0) 36 anI)]) (as := [h0, h4]) (zcV (q0 := 2) (ci := 8) (As := [.ref h4, .int 0, .int 0]) (rest := [.int 1, .ref h7]) (Tc := [(h0, ob 8 [.int h0f0, .int h0f1, .int h0f2, .int h0f3, .int h0f4, .int h0f5, .ref h1, .ref h2, .int h0f8, .int h0f9, .ref h3, .ref h4, .ref h5, .ref h6, .ref h7, .ref h8, .ref h9, .int h0f17, .int h0f18, .int h0f19, .ref h10, .ref h11, .ref h12, .ref h13, .int h0f24, .int h0f25, .ref h14, .ref h15, .ref h16, .ref h17, .int h0f30, .int h0f31, .ref h18, .ref h19, .ref h20, .ref h21]), (h4, aJ (k 1) 9 anJ)]) hx hb hml hown hU hK hT rfl rfl [2, 3] rfl (by decide) (cX11_without_7ab45 l D k _ h0 h4 h1 h2 h3 h5 h6 h7 h8 h9 h10 h11 h12 h13 h14 h15 h16 h17 h18 h19 h20 h21 (0) (0) h0f0 h0f1 h0f2 h0f3 h0f4 h0f5 h0f8 h0f9 h0f17 h0f18 h0f19 h0f24 h0f25 h0f30 h0f31 (by have := li_0; omega) (by have := li_0; omega) (by omega) (by omega) (by omega) (by omega) (by omega) (by omega) (by omega) (by omega) (by omega) (by omega) (by omega) (by omega) (by omega) (by have := li_0; have := li_0; omega) (by have := li_0; have := li_0; omega)) w948 w945 w947 w34 w72 hdX11_without ⟨rfl, rfl⟩ ⟨Nat.le_of_ble_eq_true rfl, Nat.le_of_ble_eq_true rfl⟩ rfl hl.1 (Nat.le_of_ble_eq_true rfl) dX11_finds_103 ⟨Nat.le_of_ble_eq_true rfl, Nat.le_of_ble_eq_true rfl⟩) hT hS hA [2, 3] [0, 1] rfl rfl rfl (by decide) (by decide) (fun r13 H locs hB J hS => ?_)
        have hT1 := hB
        have hT := J _ hT1
        have hT : TP D A [(h7, aJ (k 1) 4 anJ), (h1, aI (k 0) 36 anI), (h0, ob 8 [.int h0f0, .int h0f1, .int h0f2, .int h0f3, .int h0f4, .int h0f5, .ref h1, .ref h2, .int h0f8, .int h0f9, .ref h3, .ref h4, .ref h5, .ref h6, .ref h7, .ref h8, .ref h9, .int h0f17, .int h0f18, .int h0f19, .ref h10, .ref h11, .ref h12, .ref h13, .int h0f24, .int h0f25, .ref h14, .ref h15, .ref h16, .ref h17, .int h0f30, .int h0f31, .ref h18, .ref h19, .ref h20, .ref h21]), (h4, aJ (k 1) 9 anJ)] _ := hT
        refine lv_aload_n hx hb dX11_finds_106 rfl (lv_at hl 1 rfl) ?_
        refine lv_aload_n hx hb dX11_finds_107 rfl (lv_at hl 1 rfl) ?_
        refine tz_get (ci := 8) (v := .ref h4) (C := RX11) (F := TX11) (N := 36) hx hb hU iX11 hown hK hT 2 rfl rfl 11 (by decide) w796 (fun _ h9 => h9) rfl dX11_finds_108 ?_
        refine lv_iconst (v := 1) hx hb dX11_finds_111 (by decide) ?_
        refine lv_iconst (v := 1) hx hb dX11_finds_112 (by decide) ?_
        have q_q17 := li_1
        have q_q18 := li_1
        refine tcL (Tc := [(h0, ob 8 [.int h0f0, .int h0f1, .int h0f2, .int h0f3, .int h0f4, .int h0f5, .ref h1, .ref h2, .int h0f8, .int h0f9, .ref h3, .ref h4, .ref h5, .ref h6, .ref h7, .ref h8, .ref h9, .int h0f17, .int h0f18, .int h0f19, .ref h10, .ref h11, .ref h12, .ref h13, .int h0f24, .int h0f25, .ref h14, .ref h15, .ref h16, .ref h17, .int h0f30, .int h0f31, .ref h18, .ref h19, .ref h20, .ref h21]), (h4, aJ (k 1) 9 anJ)]) (Tr := [(h7, aJ (k 1) 4 anJ), (h1, aI (k 0) 36 anI)]) (as := [h0, h4]) (zcV (q0 := 2) (ci := 8) (As := [.ref h4, .int 1, .int 1]) (rest := [.long r13, .int 1, .ref h7]) (Tc := [(h0, ob 8 [.int h0f0, .int h0f1, .int h0f2, .int h0f3, .int h0f4, .int h0f5, .ref h1, .ref h2, .int h0f8, .int h0f9, .ref h3, .ref h4, .ref h5, .ref h6, .ref h7, .ref h8, .ref h9, .int h0f17, .int h0f18, .int h0f19, .ref h10, .ref h11, .ref h12, .ref h13, .int h0f24, .int h0f25, .ref h14, .ref h15, .ref h16, .ref h17, .int h0f30, .int h0f31, .ref h18, .ref h19, .ref h20, .ref h21]), (h4, aJ (k 1) 9 anJ)]) hx hb hml hown hU hK hT rfl rfl [2, 3] rfl (by decide) (cX11_without_7ab45 l D k _ h0 h4 h1 h2 h3 h5 h6 h7 h8 h9 h10 h11 h12 h13 h14 h15 h16 h17 h18 h19 h20 h21 (1) (1) h0f0 h0f1 h0f2 h0f3 h0f4 h0f5 h0f8 h0f9 h0f17 h0f18 h0f19 h0f24 h0f25 h0f30 h0f31 (by have := li_1; omega) (by have := li_1; omega) (by omega) (by omega) (by omega) (by omega) (by omega) (by omega) (by omega) (by omega) (by omega) (by omega) (by omega) (by omega) (by omega) (by have := li_1; have := li_1; omega) (by have := li_1; have := li_1; omega)) w948 w945 w947 w34 w72 hdX11_without ⟨rfl, rfl⟩ ⟨Nat.le_of_ble_eq_true rfl, Nat.le_of_ble_eq_true rfl⟩ rfl hl.1 (Nat.le_of_ble_eq_true rfl) dX11_finds_113 ⟨Nat.le_of_ble_eq_true rfl, Nat.le_of_ble_eq_true rfl⟩) hT hS hA [2, 3] [0, 1] rfl rfl rfl (by decide) (by decide) (fun r16 H locs hB J hS => ?_)
        have hT1 := hB
        have hT := J _ hT1
        have hT : TP D A [(h7, aJ (k 1) 4 anJ), (h1, aI (k 0) 36 anI), (h0, ob 8 [.int h0f0, .int h0f1, .int h0f2, .int h0f3, .int h0f4, .int h0f5, .ref h1, .ref h2, .int h0f8, .int h0f9, .ref h3, .ref h4, .ref h5, .ref h6, .ref h7, .ref h8, .ref h9, .int h0f17, .int h0f18, .int h0f19, .ref h10, .ref h11, .ref h12, .ref h13, .int h0f24, .int h0f25, .ref h14, .ref h15, .ref h16, .ref h17, .int h0f30, .int h0f31, .ref h18, .ref h19, .ref h20, .ref h21]), (h4, aJ (k 1) 9 anJ)] _ := hT
        refine lv_ladd hx hb dX11_finds_116 (lv_topl (fun v19 e_v19 => ?_))
        refine lv_aload_n hx hb dX11_finds_117 rfl (lv_at hl 1 rfl) ?_
        refine lv_aload_n hx hb dX11_finds_118 rfl (lv_at hl 1 rfl) ?_
        refine tz_get (ci := 8) (v := .ref h4) (C := RX11) (F := TX11) (N := 36) hx hb hU iX11 hown hK hT 2 rfl rfl 11 (by decide) w796 (fun _ h9 => h9) rfl dX11_finds_119 ?_
        refine lv_iconst (v := 2) hx hb dX11_finds_122 (by decide) ?_
        refine lv_iconst (v := 2) hx hb dX11_finds_123 (by decide) ?_
        have q_q21 := li_2
        have q_q22 := li_2
        refine tcL (Tc := [(h0, ob 8 [.int h0f0, .int h0f1, .int h0f2, .int h0f3, .int h0f4, .int h0f5, .ref h1, .ref h2, .int h0f8, .int h0f9, .ref h3, .ref h4, .ref h5, .ref h6, .ref h7, .ref h8, .ref h9, .int h0f17, .int h0f18, .int h0f19, .ref h10, .ref h11, .ref h12, .ref h13, .int h0f24, .int h0f25, .ref h14, .ref h15, .ref h16, .ref h17, .int h0f30, .int h0f31, .ref h18, .ref h19, .ref h20, .ref h21]), (h4, aJ (k 1) 9 anJ)]) (Tr := [(h7, aJ (k 1) 4 anJ), (h1, aI (k 0) 36 anI)]) (as := [h0, h4]) (zcV (q0 := 2) (ci := 8) (As := [.ref h4, .int 2, .int 2]) (rest := [.long v19, .int 1, .ref h7]) (Tc := [(h0, ob 8 [.int h0f0, .int h0f1, .int h0f2, .int h0f3, .int h0f4, .int h0f5, .ref h1, .ref h2, .int h0f8, .int h0f9, .ref h3, .ref h4, .ref h5, .ref h6, .ref h7, .ref h8, .ref h9, .int h0f17, .int h0f18, .int h0f19, .ref h10, .ref h11, .ref h12, .ref h13, .int h0f24, .int h0f25, .ref h14, .ref h15, .ref h16, .ref h17, .int h0f30, .int h0f31, .ref h18, .ref h19, .ref h20, .ref h21]), (h4, aJ (k 1) 9 anJ)]) hx hb hml hown hU hK hT rfl rfl [2, 3] rfl (by decide) (cX11_without_7ab45 l D k _ h0 h4 h1 h2 h3 h5 h6 h7 h8 h9 h10 h11 h12 h13 h14 h15 h16 h17 h18 h19 h20 h21 (2) (2) h0f0 h0f1 h0f2 h0f3 h0f4 h0f5 h0f8 h0f9 h0f17 h0f18 h0f19 h0f24 h0f25 h0f30 h0f31 (by have := li_2; omega) (by have := li_2; omega) (by omega) (by omega) (by omega) (by omega) (by omega) (by omega) (by omega) (by omega) (by omega) (by omega) (by omega) (by omega) (by omega) (by have := li_2; have := li_2; omega) (by have := li_2; have := li_2; omega)) w948 w945 w947 w34 w72 hdX11_without ⟨rfl, rfl⟩ ⟨Nat.le_of_ble_eq_true rfl, Nat.le_of_ble_eq_true rfl⟩ rfl hl.1 (Nat.le_of_ble_eq_true rfl) dX11_finds_124 ⟨Nat.le_of_ble_eq_true rfl, Nat.le_of_ble_eq_true rfl⟩) hT hS hA [2, 3] [0, 1] rfl rfl rfl (by decide) (by decide) (fun r20 H locs hB J hS => ?_)
        have hT1 := hB
        have hT := J _ hT1
        have hT : TP D A [(h7, aJ (k 1) 4 anJ), (h1, aI (k 0) 36 anI), (h0, ob 8 [.int h0f0, .int h0f1, .int h0f2, .int h0f3, .int h0f4, .int h0f5, .ref h1, .ref h2, .int h0f8, .int h0f9, .ref h3, .ref h4, .ref h5, .ref h6, .ref h7, .ref h8, .ref h9, .int h0f17, .int h0f18, .int h0f19, .ref h10, .ref h11, .ref h12, .ref h13, .int h0f24, .int h0f25, .ref h14, .ref h15, .ref h16, .ref h17, .int h0f30, .int h0f31, .ref h18, .ref h19, .ref h20, .ref h21]), (h4, aJ (k 1) 9 anJ)] _ := hT
        refine lv_ladd hx hb dX11_finds_127 (lv_topl (fun v23 e_v23 => ?_))
        refine tz_last hx hb hK hT hS 0 rfl (by have := li_1; omega) (fun _ _ => trivial) dX11_finds_128 (fun H locs hT hS => ?_)
        refine lv_aload_n hx hb dX11_finds_129 rfl (lv_at hl 1 rfl) ?_
        refine tz_get (ci := 8) (v := .ref h7) (C := RX11) (F := TX11) (N := 36) hx hb hU iX11 hown hK hT 2 rfl rfl 14 (by decide) w799 (fun _ h9 => h9) rfl dX11_finds_130 ?_
        refine lv_iconst (v := 2) hx hb dX11_finds_133 (by decide) ?_
        refine lv_aload_n hx hb dX11_finds_134 rfl (lv_at hl 1 rfl) ?_
        refine tz_get (ci := 8) (v := .int h0f0) (C := RX11) (F := TX11) (N := 36) hx hb hU iX11 hown hK hT 2 rfl rfl 0 (by decide) w785 (fun _ h9 => h9) rfl dX11_finds_135 ?_
        refine lv_iconst (v := 2) hx hb dX11_finds_138 (by decide) ?_
        refine lv_icmp_ne (tgt := 146) hx hb dX11_finds_139 (by decide) (fun c_24 => ?_) (fun c_24 => ?_)
        · skip
          have c_24 := ni_ne c_24 rfl li_2
          refine lv_aload_n hx hb dX11_finds_146 rfl (lv_at hl 1 rfl) ?_
          refine tz_get (ci := 8) (v := .int h0f0) (C := RX11) (F := TX11) (N := 36) hx hb hU iX11 hown hK hT 2 rfl rfl 0 (by decide) w785 (fun _ h9 => h9) rfl dX11_finds_147 ?_
          refine lv_iconst (v := 3) hx hb dX11_finds_150 (by decide) ?_
          refine lv_icmp_ne (tgt := 159) hx hb dX11_finds_151 (by decide) (fun c_25 => ?_) (fun c_25 => ?_)
          · skip
            have c_25 := ni_ne c_25 rfl li_3
            exfalso; omega
          · skip
            have c_25 := ni_eq c_25 rfl li_3
            refine lv_lload_n hx hb dX11_finds_154 rfl (lv_at hl 0 rfl) ?_
            refine lv_lneg hx hb dX11_finds_155 (lv_topl (fun v26 e_v26 => ?_))
            have e_v26 := al_negz e_v26
            refine lv_goto (tgt := 160) hx hb dX11_finds_156 (by decide) ?_
            refine tz_last hx hb hK hT hS 0 rfl (by have := li_2; omega) (fun _ _ => trivial) dX11_finds_160 (fun H locs hT hS => ?_)
            refine lv_aload_n hx hb dX11_finds_161 rfl (lv_at hl 1 rfl) ?_
            refine tz_get (ci := 8) (v := .ref h7) (C := RX11) (F := TX11) (N := 36) hx hb hU iX11 hown hK hT 2 rfl rfl 14 (by decide) w799 (fun _ h9 => h9) rfl dX11_finds_162 ?_
            refine lv_iconst (v := 3) hx hb dX11_finds_165 (by decide) ?_
            refine lv_aload_n hx hb dX11_finds_166 rfl (lv_at hl 1 rfl) ?_
            refine tz_get (ci := 8) (v := .int h0f0) (C := RX11) (F := TX11) (N := 36) hx hb hU iX11 hown hK hT 2 rfl rfl 0 (by decide) w785 (fun _ h9 => h9) rfl dX11_finds_167 ?_
            refine lv_iconst (v := 3) hx hb dX11_finds_170 (by decide) ?_
            refine lv_icmp_ne (tgt := 178) hx hb dX11_finds_171 (by decide) (fun c_27 => ?_) (fun c_27 => ?_)
            · skip
              have c_27 := ni_ne c_27 rfl li_3
              exfalso; omega
            · skip
              have c_27 := ni_eq c_27 rfl li_3
              refine lv_lconst (v := 1) hx hb dX11_finds_174 (by decide) ?_
              refine lv_goto (tgt := 179) hx hb dX11_finds_175 (by decide) ?_
              refine tz_last hx hb hK hT hS 0 rfl (by have := li_3; omega) (fun _ _ => trivial) dX11_finds_179 (fun H locs hT hS => ?_)
              exact tz_retV (B := B_cX11_finds_682f6 D k h0 h1 h4 h7 h2 h3 h5 h6 h8 h9 h10 h11 h12 h13 h14 h15 h16 h17 h18 h19 h20 h21 x1 h0f0 h0f1 h0f2 h0f3 h0f4 h0f5 h0f8 h0f9 h0f17 h0f18 h0f19 h0f24 h0f25 h0f30 h0f31) hQ hx hb hr hlocks hS (Nat.le_of_ble_eq_true rfl) (Nat.le_of_ble_eq_true rfl) dX11_finds_180 ((hT.sub [2, 1, 3, 0] (by decide) rfl))
        · skip
          have c_24 := ni_eq c_24 rfl li_2
          exfalso; omega
      · skip
        have c_12 := ni_eq c_12 rfl li_2
        refine lv_lload_n hx hb dX11_finds_91 rfl (lv_at hl 0 rfl) ?_
        refine lv_lneg hx hb dX11_finds_92 (lv_topl (fun v28 e_v28 => ?_))
        have e_v28 := al_negz e_v28
        refine lv_goto (tgt := 128) hx hb dX11_finds_93 (by decide) ?_
        refine tz_last hx hb hK hT hS 0 rfl (by have := li_1; omega) (fun _ _ => trivial) dX11_finds_128 (fun H locs hT hS => ?_)
        refine lv_aload_n hx hb dX11_finds_129 rfl (lv_at hl 1 rfl) ?_
        refine tz_get (ci := 8) (v := .ref h7) (C := RX11) (F := TX11) (N := 36) hx hb hU iX11 hown hK hT 2 rfl rfl 14 (by decide) w799 (fun _ h9 => h9) rfl dX11_finds_130 ?_
        refine lv_iconst (v := 2) hx hb dX11_finds_133 (by decide) ?_
        refine lv_aload_n hx hb dX11_finds_134 rfl (lv_at hl 1 rfl) ?_
        refine tz_get (ci := 8) (v := .int h0f0) (C := RX11) (F := TX11) (N := 36) hx hb hU iX11 hown hK hT 2 rfl rfl 0 (by decide) w785 (fun _ h9 => h9) rfl dX11_finds_135 ?_
        refine lv_iconst (v := 2) hx hb dX11_finds_138 (by decide) ?_
        refine lv_icmp_ne (tgt := 146) hx hb dX11_finds_139 (by decide) (fun c_29 => ?_) (fun c_29 => ?_)
        · skip
          have c_29 := ni_ne c_29 rfl li_2
          exfalso; omega
        · skip
          have c_29 := ni_eq c_29 rfl li_2
          refine lv_lconst (v := 1) hx hb dX11_finds_142 (by decide) ?_
          refine lv_goto (tgt := 160) hx hb dX11_finds_143 (by decide) ?_
          refine tz_last hx hb hK hT hS 0 rfl (by have := li_2; omega) (fun _ _ => trivial) dX11_finds_160 (fun H locs hT hS => ?_)
          refine lv_aload_n hx hb dX11_finds_161 rfl (lv_at hl 1 rfl) ?_
          refine tz_get (ci := 8) (v := .ref h7) (C := RX11) (F := TX11) (N := 36) hx hb hU iX11 hown hK hT 2 rfl rfl 14 (by decide) w799 (fun _ h9 => h9) rfl dX11_finds_162 ?_
          refine lv_iconst (v := 3) hx hb dX11_finds_165 (by decide) ?_
          refine lv_aload_n hx hb dX11_finds_166 rfl (lv_at hl 1 rfl) ?_
          refine tz_get (ci := 8) (v := .int h0f0) (C := RX11) (F := TX11) (N := 36) hx hb hU iX11 hown hK hT 2 rfl rfl 0 (by decide) w785 (fun _ h9 => h9) rfl dX11_finds_167 ?_
          refine lv_iconst (v := 3) hx hb dX11_finds_170 (by decide) ?_
          refine lv_icmp_ne (tgt := 178) hx hb dX11_finds_171 (by decide) (fun c_30 => ?_) (fun c_30 => ?_)
          · skip
            have c_30 := ni_ne c_30 rfl li_3
            refine lv_lconst (v := 0) hx hb dX11_finds_178 (by decide) ?_
            refine tz_last hx hb hK hT hS 0 rfl (by have := li_3; omega) (fun _ _ => trivial) dX11_finds_179 (fun H locs hT hS => ?_)
            exact tz_retV (B := B_cX11_finds_682f6 D k h0 h1 h4 h7 h2 h3 h5 h6 h8 h9 h10 h11 h12 h13 h14 h15 h16 h17 h18 h19 h20 h21 x1 h0f0 h0f1 h0f2 h0f3 h0f4 h0f5 h0f8 h0f9 h0f17 h0f18 h0f19 h0f24 h0f25 h0f30 h0f31) hQ hx hb hr hlocks hS (Nat.le_of_ble_eq_true rfl) (Nat.le_of_ble_eq_true rfl) dX11_finds_180 ((hT.sub [2, 1, 3, 0] (by decide) rfl))
          · skip
            have c_30 := ni_eq c_30 rfl li_3
            exfalso; omega
    · skip
      have c_11 := ni_eq c_11 rfl li_1
      refine lv_lconst (v := 1) hx hb dX11_finds_79 (by decide) ?_
      refine lv_goto (tgt := 128) hx hb dX11_finds_80 (by decide) ?_
      refine tz_last hx hb hK hT hS 0 rfl (by have := li_1; omega) (fun _ _ => trivial) dX11_finds_128 (fun H locs hT hS => ?_)
      refine lv_aload_n hx hb dX11_finds_129 rfl (lv_at hl 1 rfl) ?_
      refine tz_get (ci := 8) (v := .ref h7) (C := RX11) (F := TX11) (N := 36) hx hb hU iX11 hown hK hT 2 rfl rfl 14 (by decide) w799 (fun _ h9 => h9) rfl dX11_finds_130 ?_
      refine lv_iconst (v := 2) hx hb dX11_finds_133 (by decide) ?_
      refine lv_aload_n hx hb dX11_finds_134 rfl (lv_at hl 1 rfl) ?_
      refine tz_get (ci := 8) (v := .int h0f0) (C := RX11) (F := TX11) (N := 36) hx hb hU iX11 hown hK hT 2 rfl rfl 0 (by decide) w785 (fun _ h9 => h9) rfl dX11_finds_135 ?_
      refine lv_iconst (v := 2) hx hb dX11_finds_138 (by decide) ?_
      refine lv_icmp_ne (tgt := 146) hx hb dX11_finds_139 (by decide) (fun c_31 => ?_) (fun c_31 => ?_)
      · skip
        have c_31 := ni_ne c_31 rfl li_2
        refine lv_aload_n hx hb dX11_finds_146 rfl (lv_at hl 1 rfl) ?_
        refine tz_get (ci := 8) (v := .int h0f0) (C := RX11) (F := TX11) (N := 36) hx hb hU iX11 hown hK hT 2 rfl rfl 0 (by decide) w785 (fun _ h9 => h9) rfl dX11_finds_147 ?_
        refine lv_iconst (v := 3) hx hb dX11_finds_150 (by decide) ?_
        refine lv_icmp_ne (tgt := 159) hx hb dX11_finds_151 (by decide) (fun c_32 => ?_) (fun c_32 => ?_)
        · skip
          have c_32 := ni_ne c_32 rfl li_3
          refine lv_lconst (v := 0) hx hb dX11_finds_159 (by decide) ?_
          refine tz_last hx hb hK hT hS 0 rfl (by have := li_2; omega) (fun _ _ => trivial) dX11_finds_160 (fun H locs hT hS => ?_)
          refine lv_aload_n hx hb dX11_finds_161 rfl (lv_at hl 1 rfl) ?_
          refine tz_get (ci := 8) (v := .ref h7) (C := RX11) (F := TX11) (N := 36) hx hb hU iX11 hown hK hT 2 rfl rfl 14 (by decide) w799 (fun _ h9 => h9) rfl dX11_finds_162 ?_
          refine lv_iconst (v := 3) hx hb dX11_finds_165 (by decide) ?_
          refine lv_aload_n hx hb dX11_finds_166 rfl (lv_at hl 1 rfl) ?_
          refine tz_get (ci := 8) (v := .int h0f0) (C := RX11) (F := TX11) (N := 36) hx hb hU iX11 hown hK hT 2 rfl rfl 0 (by decide) w785 (fun _ h9 => h9) rfl dX11_finds_167 ?_
          refine lv_iconst (v := 3) hx hb dX11_finds_170 (by decide) ?_
          refine lv_icmp_ne (tgt := 178) hx hb dX11_finds_171 (by decide) (fun c_33 => ?_) (fun c_33 => ?_)
          · skip
            have c_33 := ni_ne c_33 rfl li_3
            refine lv_lconst (v := 0) hx hb dX11_finds_178 (by decide) ?_
            refine tz_last hx hb hK hT hS 0 rfl (by have := li_3; omega) (fun _ _ => trivial) dX11_finds_179 (fun H locs hT hS => ?_)
            exact tz_retV (B := B_cX11_finds_682f6 D k h0 h1 h4 h7 h2 h3 h5 h6 h8 h9 h10 h11 h12 h13 h14 h15 h16 h17 h18 h19 h20 h21 x1 h0f0 h0f1 h0f2 h0f3 h0f4 h0f5 h0f8 h0f9 h0f17 h0f18 h0f19 h0f24 h0f25 h0f30 h0f31) hQ hx hb hr hlocks hS (Nat.le_of_ble_eq_true rfl) (Nat.le_of_ble_eq_true rfl) dX11_finds_180 ((hT.sub [2, 1, 3, 0] (by decide) rfl))
          · skip
            have c_33 := ni_eq c_33 rfl li_3
            exfalso; omega
        · skip
          have c_32 := ni_eq c_32 rfl li_3
          exfalso; omega
      · skip
        have c_31 := ni_eq c_31 rfl li_2
        exfalso; omega
  · skip
    have c_8 := ni_eq c_8 rfl li_0
    refine lv_aload_n hx hb dX11_finds_45 rfl (lv_at hl 1 rfl) ?_
    refine lv_aload_n hx hb dX11_finds_46 rfl (lv_at hl 1 rfl) ?_
    refine tz_get (ci := 8) (v := .ref h4) (C := RX11) (F := TX11) (N := 36) hx hb hU iX11 hown hK hT 1 rfl rfl 11 (by decide) w796 (fun _ h9 => h9) rfl dX11_finds_47 ?_
    refine tcL (Tc := [(h0, ob 8 [.int h0f0, .int h0f1, .int h0f2, .int h0f3, .int h0f4, .int h0f5, .ref h1, .ref h2, .int h0f8, .int h0f9, .ref h3, .ref h4, .ref h5, .ref h6, .ref h7, .ref h8, .ref h9, .int h0f17, .int h0f18, .int h0f19, .ref h10, .ref h11, .ref h12, .ref h13, .int h0f24, .int h0f25, .ref h14, .ref h15, .ref h16, .ref h17, .int h0f30, .int h0f31, .ref h18, .ref h19, .ref h20, .ref h21]), (h4, aJ (k 1) 9 anJ)]) (Tr := [(h7, aJ (k 1) 4 anJ), (h1, aI (k 0) 36 anI)]) (as := [h0, h4]) (zcV (q0 := 1) (ci := 8) (As := [.ref h4]) (rest := [.int 0, .ref h7]) (Tc := [(h0, ob 8 [.int h0f0, .int h0f1, .int h0f2, .int h0f3, .int h0f4, .int h0f5, .ref h1, .ref h2, .int h0f8, .int h0f9, .ref h3, .ref h4, .ref h5, .ref h6, .ref h7, .ref h8, .ref h9, .int h0f17, .int h0f18, .int h0f19, .ref h10, .ref h11, .ref h12, .ref h13, .int h0f24, .int h0f25, .ref h14, .ref h15, .ref h16, .ref h17, .int h0f30, .int h0f31, .ref h18, .ref h19, .ref h20, .ref h21]), (h4, aJ (k 1) 9 anJ)]) hx hb hml hown hU hK hT rfl rfl [1, 2] rfl (by decide) (cX11_det_9ae4b l D k _ h0 h4 h1 h2 h3 h5 h6 h7 h8 h9 h10 h11 h12 h13 h14 h15 h16 h17 h18 h19 h20 h21 h0f0 h0f1 h0f2 h0f3 h0f4 h0f5 h0f8 h0f9 h0f17 h0f18 h0f19 h0f24 h0f25 h0f30 h0f31 (by omega) (by omega) (by omega) (by omega) (by omega) (by omega) (by omega) (by omega) (by omega) (by omega) (by omega) (by omega) (by omega) (by omega) (by omega)) w952 w949 w951 w35 w72 hdX11_det ⟨rfl, rfl⟩ ⟨Nat.le_of_ble_eq_true rfl, Nat.le_of_ble_eq_true rfl⟩ rfl hl.1 (Nat.le_of_ble_eq_true rfl) dX11_finds_50 ⟨Nat.le_of_ble_eq_true rfl, Nat.le_of_ble_eq_true rfl⟩) hT hS hA [1, 2] [0, 3] rfl rfl rfl (by decide) (by decide) (fun r34 H locs hB J hS => ?_)
    have hT1 := hB
    have hT := J _ hT1
    have hT : TP D A [(h7, aJ (k 1) 4 anJ), (h1, aI (k 0) 36 anI), (h0, ob 8 [.int h0f0, .int h0f1, .int h0f2, .int h0f3, .int h0f4, .int h0f5, .ref h1, .ref h2, .int h0f8, .int h0f9, .ref h3, .ref h4, .ref h5, .ref h6, .ref h7, .ref h8, .ref h9, .int h0f17, .int h0f18, .int h0f19, .ref h10, .ref h11, .ref h12, .ref h13, .int h0f24, .int h0f25, .ref h14, .ref h15, .ref h16, .ref h17, .int h0f30, .int h0f31, .ref h18, .ref h19, .ref h20, .ref h21]), (h4, aJ (k 1) 9 anJ)] _ := hT
    refine lv_goto (tgt := 65) hx hb dX11_finds_53 (by decide) ?_
    refine tz_last hx hb hK hT hS 0 rfl (by have := li_0; omega) (fun _ _ => trivial) dX11_finds_65 (fun H locs hT hS => ?_)
    refine lv_aload_n hx hb dX11_finds_66 rfl (lv_at hl 1 rfl) ?_
    refine tz_get (ci := 8) (v := .ref h7) (C := RX11) (F := TX11) (N := 36) hx hb hU iX11 hown hK hT 2 rfl rfl 14 (by decide) w799 (fun _ h9 => h9) rfl dX11_finds_67 ?_
    refine lv_iconst (v := 1) hx hb dX11_finds_70 (by decide) ?_
    refine lv_aload_n hx hb dX11_finds_71 rfl (lv_at hl 1 rfl) ?_
    refine tz_get (ci := 8) (v := .int h0f0) (C := RX11) (F := TX11) (N := 36) hx hb hU iX11 hown hK hT 2 rfl rfl 0 (by decide) w785 (fun _ h9 => h9) rfl dX11_finds_72 ?_
    refine lv_iconst (v := 1) hx hb dX11_finds_75 (by decide) ?_
    refine lv_icmp_ne (tgt := 83) hx hb dX11_finds_76 (by decide) (fun c_35 => ?_) (fun c_35 => ?_)
    · skip
      have c_35 := ni_ne c_35 rfl li_1
      refine lv_aload_n hx hb dX11_finds_83 rfl (lv_at hl 1 rfl) ?_
      refine tz_get (ci := 8) (v := .int h0f0) (C := RX11) (F := TX11) (N := 36) hx hb hU iX11 hown hK hT 2 rfl rfl 0 (by decide) w785 (fun _ h9 => h9) rfl dX11_finds_84 ?_
      refine lv_iconst (v := 2) hx hb dX11_finds_87 (by decide) ?_
      refine lv_icmp_ne (tgt := 96) hx hb dX11_finds_88 (by decide) (fun c_36 => ?_) (fun c_36 => ?_)
      · skip
        have c_36 := ni_ne c_36 rfl li_2
        refine lv_aload_n hx hb dX11_finds_96 rfl (lv_at hl 1 rfl) ?_
        refine lv_aload_n hx hb dX11_finds_97 rfl (lv_at hl 1 rfl) ?_
        refine tz_get (ci := 8) (v := .ref h4) (C := RX11) (F := TX11) (N := 36) hx hb hU iX11 hown hK hT 2 rfl rfl 11 (by decide) w796 (fun _ h9 => h9) rfl dX11_finds_98 ?_
        refine lv_iconst (v := 0) hx hb dX11_finds_101 (by decide) ?_
        refine lv_iconst (v := 0) hx hb dX11_finds_102 (by decide) ?_
        have q_q38 := li_0
        have q_q39 := li_0
        refine tcL (Tc := [(h0, ob 8 [.int h0f0, .int h0f1, .int h0f2, .int h0f3, .int h0f4, .int h0f5, .ref h1, .ref h2, .int h0f8, .int h0f9, .ref h3, .ref h4, .ref h5, .ref h6, .ref h7, .ref h8, .ref h9, .int h0f17, .int h0f18, .int h0f19, .ref h10, .ref h11, .ref h12, .ref h13, .int h0f24, .int h0f25, .ref h14, .ref h15, .ref h16, .ref h17, .int h0f30, .int h0f31, .ref h18, .ref h19, .ref h20, .ref h21]), (h4, aJ (k 1) 9 anJ)]) (Tr := [(h7, aJ (k 1) 4 anJ), (h1, aI (k 0) 36 anI)]) (as := [h0, h4]) (zcV (q0 := 2) (ci := 8) (As := [.ref h4, .int 0, .int 0]) (rest := [.int 1, .ref h7]) (Tc := [(h0, ob 8 [.int h0f0, .int h0f1, .int h0f2, .int h0f3, .int h0f4, .int h0f5, .ref h1, .ref h2, .int h0f8, .int h0f9, .ref h3, .ref h4, .ref h5, .ref h6, .ref h7, .ref h8, .ref h9, .int h0f17, .int h0f18, .int h0f19, .ref h10, .ref h11, .ref h12, .ref h13, .int h0f24, .int h0f25, .ref h14, .ref h15, .ref h16, .ref h17, .int h0f30, .int h0f31, .ref h18, .ref h19, .ref h20, .ref h21]), (h4, aJ (k 1) 9 anJ)]) hx hb hml hown hU hK hT rfl rfl [2, 3] rfl (by decide) (cX11_without_7ab45 l D k _ h0 h4 h1 h2 h3 h5 h6 h7 h8 h9 h10 h11 h12 h13 h14 h15 h16 h17 h18 h19 h20 h21 (0) (0) h0f0 h0f1 h0f2 h0f3 h0f4 h0f5 h0f8 h0f9 h0f17 h0f18 h0f19 h0f24 h0f25 h0f30 h0f31 (by have := li_0; omega) (by have := li_0; omega) (by omega) (by omega) (by omega) (by omega) (by omega) (by omega) (by omega) (by omega) (by omega) (by omega) (by omega) (by omega) (by omega) (by have := li_0; have := li_0; omega) (by have := li_0; have := li_0; omega)) w948 w945 w947 w34 w72 hdX11_without ⟨rfl, rfl⟩ ⟨Nat.le_of_ble_eq_true rfl, Nat.le_of_ble_eq_true rfl⟩ rfl hl.1 (Nat.le_of_ble_eq_true rfl) dX11_finds_103 ⟨Nat.le_of_ble_eq_true rfl, Nat.le_of_ble_eq_true rfl⟩) hT hS hA [2, 3] [0, 1] rfl rfl rfl (by decide) (by decide) (fun r37 H locs hB J hS => ?_)
        have hT1 := hB
        have hT := J _ hT1
        have hT : TP D A [(h7, aJ (k 1) 4 anJ), (h1, aI (k 0) 36 anI), (h0, ob 8 [.int h0f0, .int h0f1, .int h0f2, .int h0f3, .int h0f4, .int h0f5, .ref h1, .ref h2, .int h0f8, .int h0f9, .ref h3, .ref h4, .ref h5, .ref h6, .ref h7, .ref h8, .ref h9, .int h0f17, .int h0f18, .int h0f19, .ref h10, .ref h11, .ref h12, .ref h13, .int h0f24, .int h0f25, .ref h14, .ref h15, .ref h16, .ref h17, .int h0f30, .int h0f31, .ref h18, .ref h19, .ref h20, .ref h21]), (h4, aJ (k 1) 9 anJ)] _ := hT
        refine lv_aload_n hx hb dX11_finds_106 rfl (lv_at hl 1 rfl) ?_
        refine lv_aload_n hx hb dX11_finds_107 rfl (lv_at hl 1 rfl) ?_
        refine tz_get (ci := 8) (v := .ref h4) (C := RX11) (F := TX11) (N := 36) hx hb hU iX11 hown hK hT 2 rfl rfl 11 (by decide) w796 (fun _ h9 => h9) rfl dX11_finds_108 ?_
        refine lv_iconst (v := 1) hx hb dX11_finds_111 (by decide) ?_
        refine lv_iconst (v := 1) hx hb dX11_finds_112 (by decide) ?_
        have q_q41 := li_1
        have q_q42 := li_1
        refine tcL (Tc := [(h0, ob 8 [.int h0f0, .int h0f1, .int h0f2, .int h0f3, .int h0f4, .int h0f5, .ref h1, .ref h2, .int h0f8, .int h0f9, .ref h3, .ref h4, .ref h5, .ref h6, .ref h7, .ref h8, .ref h9, .int h0f17, .int h0f18, .int h0f19, .ref h10, .ref h11, .ref h12, .ref h13, .int h0f24, .int h0f25, .ref h14, .ref h15, .ref h16, .ref h17, .int h0f30, .int h0f31, .ref h18, .ref h19, .ref h20, .ref h21]), (h4, aJ (k 1) 9 anJ)]) (Tr := [(h7, aJ (k 1) 4 anJ), (h1, aI (k 0) 36 anI)]) (as := [h0, h4]) (zcV (q0 := 2) (ci := 8) (As := [.ref h4, .int 1, .int 1]) (rest := [.long r37, .int 1, .ref h7]) (Tc := [(h0, ob 8 [.int h0f0, .int h0f1, .int h0f2, .int h0f3, .int h0f4, .int h0f5, .ref h1, .ref h2, .int h0f8, .int h0f9, .ref h3, .ref h4, .ref h5, .ref h6, .ref h7, .ref h8, .ref h9, .int h0f17, .int h0f18, .int h0f19, .ref h10, .ref h11, .ref h12, .ref h13, .int h0f24, .int h0f25, .ref h14, .ref h15, .ref h16, .ref h17, .int h0f30, .int h0f31, .ref h18, .ref h19, .ref h20, .ref h21]), (h4, aJ (k 1) 9 anJ)]) hx hb hml hown hU hK hT rfl rfl [2, 3] rfl (by decide) (cX11_without_7ab45 l D k _ h0 h4 h1 h2 h3 h5 h6 h7 h8 h9 h10 h11 h12 h13 h14 h15 h16 h17 h18 h19 h20 h21 (1) (1) h0f0 h0f1 h0f2 h0f3 h0f4 h0f5 h0f8 h0f9 h0f17 h0f18 h0f19 h0f24 h0f25 h0f30 h0f31 (by have := li_1; omega) (by have := li_1; omega) (by omega) (by omega) (by omega) (by omega) (by omega) (by omega) (by omega) (by omega) (by omega) (by omega) (by omega) (by omega) (by omega) (by have := li_1; have := li_1; omega) (by have := li_1; have := li_1; omega)) w948 w945 w947 w34 w72 hdX11_without ⟨rfl, rfl⟩ ⟨Nat.le_of_ble_eq_true rfl, Nat.le_of_ble_eq_true rfl⟩ rfl hl.1 (Nat.le_of_ble_eq_true rfl) dX11_finds_113 ⟨Nat.le_of_ble_eq_true rfl, Nat.le_of_ble_eq_true rfl⟩) hT hS hA [2, 3] [0, 1] rfl rfl rfl (by decide) (by decide) (fun r40 H locs hB J hS => ?_)
        have hT1 := hB
        have hT := J _ hT1
        have hT : TP D A [(h7, aJ (k 1) 4 anJ), (h1, aI (k 0) 36 anI), (h0, ob 8 [.int h0f0, .int h0f1, .int h0f2, .int h0f3, .int h0f4, .int h0f5, .ref h1, .ref h2, .int h0f8, .int h0f9, .ref h3, .ref h4, .ref h5, .ref h6, .ref h7, .ref h8, .ref h9, .int h0f17, .int h0f18, .int h0f19, .ref h10, .ref h11, .ref h12, .ref h13, .int h0f24, .int h0f25, .ref h14, .ref h15, .ref h16, .ref h17, .int h0f30, .int h0f31, .ref h18, .ref h19, .ref h20, .ref h21]), (h4, aJ (k 1) 9 anJ)] _ := hT
        refine lv_ladd hx hb dX11_finds_116 (lv_topl (fun v43 e_v43 => ?_))
        refine lv_aload_n hx hb dX11_finds_117 rfl (lv_at hl 1 rfl) ?_
        refine lv_aload_n hx hb dX11_finds_118 rfl (lv_at hl 1 rfl) ?_
        refine tz_get (ci := 8) (v := .ref h4) (C := RX11) (F := TX11) (N := 36) hx hb hU iX11 hown hK hT 2 rfl rfl 11 (by decide) w796 (fun _ h9 => h9) rfl dX11_finds_119 ?_
        refine lv_iconst (v := 2) hx hb dX11_finds_122 (by decide) ?_
        refine lv_iconst (v := 2) hx hb dX11_finds_123 (by decide) ?_
        have q_q45 := li_2
        have q_q46 := li_2
        refine tcL (Tc := [(h0, ob 8 [.int h0f0, .int h0f1, .int h0f2, .int h0f3, .int h0f4, .int h0f5, .ref h1, .ref h2, .int h0f8, .int h0f9, .ref h3, .ref h4, .ref h5, .ref h6, .ref h7, .ref h8, .ref h9, .int h0f17, .int h0f18, .int h0f19, .ref h10, .ref h11, .ref h12, .ref h13, .int h0f24, .int h0f25, .ref h14, .ref h15, .ref h16, .ref h17, .int h0f30, .int h0f31, .ref h18, .ref h19, .ref h20, .ref h21]), (h4, aJ (k 1) 9 anJ)]) (Tr := [(h7, aJ (k 1) 4 anJ), (h1, aI (k 0) 36 anI)]) (as := [h0, h4]) (zcV (q0 := 2) (ci := 8) (As := [.ref h4, .int 2, .int 2]) (rest := [.long v43, .int 1, .ref h7]) (Tc := [(h0, ob 8 [.int h0f0, .int h0f1, .int h0f2, .int h0f3, .int h0f4, .int h0f5, .ref h1, .ref h2, .int h0f8, .int h0f9, .ref h3, .ref h4, .ref h5, .ref h6, .ref h7, .ref h8, .ref h9, .int h0f17, .int h0f18, .int h0f19, .ref h10, .ref h11, .ref h12, .ref h13, .int h0f24, .int h0f25, .ref h14, .ref h15, .ref h16, .ref h17, .int h0f30, .int h0f31, .ref h18, .ref h19, .ref h20, .ref h21]), (h4, aJ (k 1) 9 anJ)]) hx hb hml hown hU hK hT rfl rfl [2, 3] rfl (by decide) (cX11_without_7ab45 l D k _ h0 h4 h1 h2 h3 h5 h6 h7 h8 h9 h10 h11 h12 h13 h14 h15 h16 h17 h18 h19 h20 h21 (2) (2) h0f0 h0f1 h0f2 h0f3 h0f4 h0f5 h0f8 h0f9 h0f17 h0f18 h0f19 h0f24 h0f25 h0f30 h0f31 (by have := li_2; omega) (by have := li_2; omega) (by omega) (by omega) (by omega) (by omega) (by omega) (by omega) (by omega) (by omega) (by omega) (by omega) (by omega) (by omega) (by omega) (by have := li_2; have := li_2; omega) (by have := li_2; have := li_2; omega)) w948 w945 w947 w34 w72 hdX11_without ⟨rfl, rfl⟩ ⟨Nat.le_of_ble_eq_true rfl, Nat.le_of_ble_eq_true rfl⟩ rfl hl.1 (Nat.le_of_ble_eq_true rfl) dX11_finds_124 ⟨Nat.le_of_ble_eq_true rfl, Nat.le_of_ble_eq_true rfl⟩) hT hS hA [2, 3] [0, 1] rfl rfl rfl (by decide) (by decide) (fun r44 H locs hB J hS => ?_)
        have hT1 := hB
        have hT := J _ hT1
        have hT : TP D A [(h7, aJ (k 1) 4 anJ), (h1, aI (k 0) 36 anI), (h0, ob 8 [.int h0f0, .int h0f1, .int h0f2, .int h0f3, .int h0f4, .int h0f5, .ref h1, .ref h2, .int h0f8, .int h0f9, .ref h3, .ref h4, .ref h5, .ref h6, .ref h7, .ref h8, .ref h9, .int h0f17, .int h0f18, .int h0f19, .ref h10, .ref h11, .ref h12, .ref h13, .int h0f24, .int h0f25, .ref h14, .ref h15, .ref h16, .ref h17, .int h0f30, .int h0f31, .ref h18, .ref h19, .ref h20, .ref h21]), (h4, aJ (k 1) 9 anJ)] _ := hT
        refine lv_ladd hx hb dX11_finds_127 (lv_topl (fun v47 e_v47 => ?_))
        refine tz_last hx hb hK hT hS 0 rfl (by have := li_1; omega) (fun _ _ => trivial) dX11_finds_128 (fun H locs hT hS => ?_)
        refine lv_aload_n hx hb dX11_finds_129 rfl (lv_at hl 1 rfl) ?_
        refine tz_get (ci := 8) (v := .ref h7) (C := RX11) (F := TX11) (N := 36) hx hb hU iX11 hown hK hT 2 rfl rfl 14 (by decide) w799 (fun _ h9 => h9) rfl dX11_finds_130 ?_
        refine lv_iconst (v := 2) hx hb dX11_finds_133 (by decide) ?_
        refine lv_aload_n hx hb dX11_finds_134 rfl (lv_at hl 1 rfl) ?_
        refine tz_get (ci := 8) (v := .int h0f0) (C := RX11) (F := TX11) (N := 36) hx hb hU iX11 hown hK hT 2 rfl rfl 0 (by decide) w785 (fun _ h9 => h9) rfl dX11_finds_135 ?_
        refine lv_iconst (v := 2) hx hb dX11_finds_138 (by decide) ?_
        refine lv_icmp_ne (tgt := 146) hx hb dX11_finds_139 (by decide) (fun c_48 => ?_) (fun c_48 => ?_)
        · skip
          have c_48 := ni_ne c_48 rfl li_2
          refine lv_aload_n hx hb dX11_finds_146 rfl (lv_at hl 1 rfl) ?_
          refine tz_get (ci := 8) (v := .int h0f0) (C := RX11) (F := TX11) (N := 36) hx hb hU iX11 hown hK hT 2 rfl rfl 0 (by decide) w785 (fun _ h9 => h9) rfl dX11_finds_147 ?_
          refine lv_iconst (v := 3) hx hb dX11_finds_150 (by decide) ?_
          refine lv_icmp_ne (tgt := 159) hx hb dX11_finds_151 (by decide) (fun c_49 => ?_) (fun c_49 => ?_)
          · skip
            have c_49 := ni_ne c_49 rfl li_3
            exfalso; omega
          · skip
            have c_49 := ni_eq c_49 rfl li_3
            refine lv_lload_n hx hb dX11_finds_154 rfl (lv_at hl 0 rfl) ?_
            refine lv_lneg hx hb dX11_finds_155 (lv_topl (fun v50 e_v50 => ?_))
            have e_v50 := al_negz e_v50
            refine lv_goto (tgt := 160) hx hb dX11_finds_156 (by decide) ?_
            refine tz_last hx hb hK hT hS 0 rfl (by have := li_2; omega) (fun _ _ => trivial) dX11_finds_160 (fun H locs hT hS => ?_)
            refine lv_aload_n hx hb dX11_finds_161 rfl (lv_at hl 1 rfl) ?_
            refine tz_get (ci := 8) (v := .ref h7) (C := RX11) (F := TX11) (N := 36) hx hb hU iX11 hown hK hT 2 rfl rfl 14 (by decide) w799 (fun _ h9 => h9) rfl dX11_finds_162 ?_
            refine lv_iconst (v := 3) hx hb dX11_finds_165 (by decide) ?_
            refine lv_aload_n hx hb dX11_finds_166 rfl (lv_at hl 1 rfl) ?_
            refine tz_get (ci := 8) (v := .int h0f0) (C := RX11) (F := TX11) (N := 36) hx hb hU iX11 hown hK hT 2 rfl rfl 0 (by decide) w785 (fun _ h9 => h9) rfl dX11_finds_167 ?_
            refine lv_iconst (v := 3) hx hb dX11_finds_170 (by decide) ?_
            refine lv_icmp_ne (tgt := 178) hx hb dX11_finds_171 (by decide) (fun c_51 => ?_) (fun c_51 => ?_)
            · skip
              have c_51 := ni_ne c_51 rfl li_3
              exfalso; omega
            · skip
              have c_51 := ni_eq c_51 rfl li_3
              refine lv_lconst (v := 1) hx hb dX11_finds_174 (by decide) ?_
              refine lv_goto (tgt := 179) hx hb dX11_finds_175 (by decide) ?_
              refine tz_last hx hb hK hT hS 0 rfl (by have := li_3; omega) (fun _ _ => trivial) dX11_finds_179 (fun H locs hT hS => ?_)
              exact tz_retV (B := B_cX11_finds_682f6 D k h0 h1 h4 h7 h2 h3 h5 h6 h8 h9 h10 h11 h12 h13 h14 h15 h16 h17 h18 h19 h20 h21 x1 h0f0 h0f1 h0f2 h0f3 h0f4 h0f5 h0f8 h0f9 h0f17 h0f18 h0f19 h0f24 h0f25 h0f30 h0f31) hQ hx hb hr hlocks hS (Nat.le_of_ble_eq_true rfl) (Nat.le_of_ble_eq_true rfl) dX11_finds_180 ((hT.sub [2, 1, 3, 0] (by decide) rfl))
        · skip
          have c_48 := ni_eq c_48 rfl li_2
          exfalso; omega
      · skip
        have c_36 := ni_eq c_36 rfl li_2
        refine lv_lload_n hx hb dX11_finds_91 rfl (lv_at hl 0 rfl) ?_
        refine lv_lneg hx hb dX11_finds_92 (lv_topl (fun v52 e_v52 => ?_))
        have e_v52 := al_negz e_v52
        refine lv_goto (tgt := 128) hx hb dX11_finds_93 (by decide) ?_
        refine tz_last hx hb hK hT hS 0 rfl (by have := li_1; omega) (fun _ _ => trivial) dX11_finds_128 (fun H locs hT hS => ?_)
        refine lv_aload_n hx hb dX11_finds_129 rfl (lv_at hl 1 rfl) ?_
        refine tz_get (ci := 8) (v := .ref h7) (C := RX11) (F := TX11) (N := 36) hx hb hU iX11 hown hK hT 2 rfl rfl 14 (by decide) w799 (fun _ h9 => h9) rfl dX11_finds_130 ?_
        refine lv_iconst (v := 2) hx hb dX11_finds_133 (by decide) ?_
        refine lv_aload_n hx hb dX11_finds_134 rfl (lv_at hl 1 rfl) ?_
        refine tz_get (ci := 8) (v := .int h0f0) (C := RX11) (F := TX11) (N := 36) hx hb hU iX11 hown hK hT 2 rfl rfl 0 (by decide) w785 (fun _ h9 => h9) rfl dX11_finds_135 ?_
        refine lv_iconst (v := 2) hx hb dX11_finds_138 (by decide) ?_
        refine lv_icmp_ne (tgt := 146) hx hb dX11_finds_139 (by decide) (fun c_53 => ?_) (fun c_53 => ?_)
        · skip
          have c_53 := ni_ne c_53 rfl li_2
          exfalso; omega
        · skip
          have c_53 := ni_eq c_53 rfl li_2
          refine lv_lconst (v := 1) hx hb dX11_finds_142 (by decide) ?_
          refine lv_goto (tgt := 160) hx hb dX11_finds_143 (by decide) ?_
          refine tz_last hx hb hK hT hS 0 rfl (by have := li_2; omega) (fun _ _ => trivial) dX11_finds_160 (fun H locs hT hS => ?_)
          refine lv_aload_n hx hb dX11_finds_161 rfl (lv_at hl 1 rfl) ?_
          refine tz_get (ci := 8) (v := .ref h7) (C := RX11) (F := TX11) (N := 36) hx hb hU iX11 hown hK hT 2 rfl rfl 14 (by decide) w799 (fun _ h9 => h9) rfl dX11_finds_162 ?_
          refine lv_iconst (v := 3) hx hb dX11_finds_165 (by decide) ?_
          refine lv_aload_n hx hb dX11_finds_166 rfl (lv_at hl 1 rfl) ?_
          refine tz_get (ci := 8) (v := .int h0f0) (C := RX11) (F := TX11) (N := 36) hx hb hU iX11 hown hK hT 2 rfl rfl 0 (by decide) w785 (fun _ h9 => h9) rfl dX11_finds_167 ?_
          refine lv_iconst (v := 3) hx hb dX11_finds_170 (by decide) ?_
          refine lv_icmp_ne (tgt := 178) hx hb dX11_finds_171 (by decide) (fun c_54 => ?_) (fun c_54 => ?_)
          · skip
            have c_54 := ni_ne c_54 rfl li_3
            refine lv_lconst (v := 0) hx hb dX11_finds_178 (by decide) ?_
            refine tz_last hx hb hK hT hS 0 rfl (by have := li_3; omega) (fun _ _ => trivial) dX11_finds_179 (fun H locs hT hS => ?_)
            exact tz_retV (B := B_cX11_finds_682f6 D k h0 h1 h4 h7 h2 h3 h5 h6 h8 h9 h10 h11 h12 h13 h14 h15 h16 h17 h18 h19 h20 h21 x1 h0f0 h0f1 h0f2 h0f3 h0f4 h0f5 h0f8 h0f9 h0f17 h0f18 h0f19 h0f24 h0f25 h0f30 h0f31) hQ hx hb hr hlocks hS (Nat.le_of_ble_eq_true rfl) (Nat.le_of_ble_eq_true rfl) dX11_finds_180 ((hT.sub [2, 1, 3, 0] (by decide) rfl))
          · skip
            have c_54 := ni_eq c_54 rfl li_3
            exfalso; omega
    · skip
      have c_35 := ni_eq c_35 rfl li_1
      refine lv_lconst (v := 1) hx hb dX11_finds_79 (by decide) ?_
      refine lv_goto (tgt := 128) hx hb dX11_finds_80 (by decide) ?_
      refine tz_last hx hb hK hT hS 0 rfl (by have := li_1; omega) (fun _ _ => trivial) dX11_finds_128 (fun H locs hT hS => ?_)
      refine lv_aload_n hx hb dX11_finds_129 rfl (lv_at hl 1 rfl) ?_
      refine tz_get (ci := 8) (v := .ref h7) (C := RX11) (F := TX11) (N := 36) hx hb hU iX11 hown hK hT 2 rfl rfl 14 (by decide) w799 (fun _ h9 => h9) rfl dX11_finds_130 ?_
      refine lv_iconst (v := 2) hx hb dX11_finds_133 (by decide) ?_
      refine lv_aload_n hx hb dX11_finds_134 rfl (lv_at hl 1 rfl) ?_
      refine tz_get (ci := 8) (v := .int h0f0) (C := RX11) (F := TX11) (N := 36) hx hb hU iX11 hown hK hT 2 rfl rfl 0 (by decide) w785 (fun _ h9 => h9) rfl dX11_finds_135 ?_
      refine lv_iconst (v := 2) hx hb dX11_finds_138 (by decide) ?_
      refine lv_icmp_ne (tgt := 146) hx hb dX11_finds_139 (by decide) (fun c_55 => ?_) (fun c_55 => ?_)
      · skip
        have c_55 := ni_ne c_55 rfl li_2
        refine lv_aload_n hx hb dX11_finds_146 rfl (lv_at hl 1 rfl) ?_
        refine tz_get (ci := 8) (v := .int h0f0) (C := RX11) (F := TX11) (N := 36) hx hb hU iX11 hown hK hT 2 rfl rfl 0 (by decide) w785 (fun _ h9 => h9) rfl dX11_finds_147 ?_
        refine lv_iconst (v := 3) hx hb dX11_finds_150 (by decide) ?_
        refine lv_icmp_ne (tgt := 159) hx hb dX11_finds_151 (by decide) (fun c_56 => ?_) (fun c_56 => ?_)
        · skip
          have c_56 := ni_ne c_56 rfl li_3
          refine lv_lconst (v := 0) hx hb dX11_finds_159 (by decide) ?_
          refine tz_last hx hb hK hT hS 0 rfl (by have := li_2; omega) (fun _ _ => trivial) dX11_finds_160 (fun H locs hT hS => ?_)
          refine lv_aload_n hx hb dX11_finds_161 rfl (lv_at hl 1 rfl) ?_
          refine tz_get (ci := 8) (v := .ref h7) (C := RX11) (F := TX11) (N := 36) hx hb hU iX11 hown hK hT 2 rfl rfl 14 (by decide) w799 (fun _ h9 => h9) rfl dX11_finds_162 ?_
          refine lv_iconst (v := 3) hx hb dX11_finds_165 (by decide) ?_
          refine lv_aload_n hx hb dX11_finds_166 rfl (lv_at hl 1 rfl) ?_
          refine tz_get (ci := 8) (v := .int h0f0) (C := RX11) (F := TX11) (N := 36) hx hb hU iX11 hown hK hT 2 rfl rfl 0 (by decide) w785 (fun _ h9 => h9) rfl dX11_finds_167 ?_
          refine lv_iconst (v := 3) hx hb dX11_finds_170 (by decide) ?_
          refine lv_icmp_ne (tgt := 178) hx hb dX11_finds_171 (by decide) (fun c_57 => ?_) (fun c_57 => ?_)
          · skip
            have c_57 := ni_ne c_57 rfl li_3
            refine lv_lconst (v := 0) hx hb dX11_finds_178 (by decide) ?_
            refine tz_last hx hb hK hT hS 0 rfl (by have := li_3; omega) (fun _ _ => trivial) dX11_finds_179 (fun H locs hT hS => ?_)
            exact tz_retV (B := B_cX11_finds_682f6 D k h0 h1 h4 h7 h2 h3 h5 h6 h8 h9 h10 h11 h12 h13 h14 h15 h16 h17 h18 h19 h20 h21 x1 h0f0 h0f1 h0f2 h0f3 h0f4 h0f5 h0f8 h0f9 h0f17 h0f18 h0f19 h0f24 h0f25 h0f30 h0f31) hQ hx hb hr hlocks hS (Nat.le_of_ble_eq_true rfl) (Nat.le_of_ble_eq_true rfl) dX11_finds_180 ((hT.sub [2, 1, 3, 0] (by decide) rfl))
          · skip
            have c_57 := ni_eq c_57 rfl li_3
            exfalso; omega
        · skip
          have c_56 := ni_eq c_56 rfl li_3
          exfalso; omega
      · skip
        have c_55 := ni_eq c_55 rfl li_2
        exfalso; omega
abbrev Rm_cX11_character_b71ad : Room := { frames := 2, cells := 0, slots := 0, locals := 50 }
abbrev B_cX11_character_b71ad (D : va_G) (k : Nat → ClassId) (h0 h1 h4 h7 h2 h3 h5 h6 h8 h9 h10 h11 h12 h13 h14 h15 h16 h17 h18 h19 h20 h21 : Nat) (x1 : Int32) (x2 : Int32) (h0f0 : Int32) (h0f1 : Int32) (h0f2 : Int32) (h0f3 : Int32) (h0f4 : Int32) (h0f5 : Int32) (h0f8 : Int32) (h0f9 : Int32) (h0f17 : Int32) (h0f18 : Int32) (h0f19 : Int32) (h0f24 : Int32) (h0f25 : Int32) (h0f30 : Int32) (h0f31 : Int32) (A : Nat → Prop) (r : Int32) (H : Heap) : Prop := TP D A [(h0, ob 8 [.int h0f0, .int h0f1, .int h0f2, .int h0f3, .int h0f4, .int h0f5, .ref h1, .ref h2, .int h0f8, .int h0f9, .ref h3, .ref h4, .ref h5, .ref h6, .ref h7, .ref h8, .ref h9, .int h0f17, .int h0f18, .int h0f19, .ref h10, .ref h11, .ref h12, .ref h13, .int h0f24, .int h0f25, .ref h14, .ref h15, .ref h16, .ref h17, .int h0f30, .int h0f31, .ref h18, .ref h19, .ref h20, .ref h21]), (h1, aI (k 0) 36 anI), (h4, aJ (k 1) 9 anJ), (h7, aJ (k 1) 4 anJ)] H
set_option maxHeartbeats 4000000 in
set_option maxRecDepth 100000 in
theorem cX11_character_b71ad (l : Launch) (D : va_G) (k : Nat → ClassId) (sz : Nat) (h0 h1 h4 h7 h2 h3 h5 h6 h8 h9 h10 h11 h12 h13 h14 h15 h16 h17 h18 h19 h20 h21 : Nat) (x1 : Int32) (x2 : Int32) (h0f0 : Int32) (h0f1 : Int32) (h0f2 : Int32) (h0f3 : Int32) (h0f4 : Int32) (h0f5 : Int32) (h0f8 : Int32) (h0f9 : Int32) (h0f17 : Int32) (h0f18 : Int32) (h0f19 : Int32) (h0f24 : Int32) (h0f25 : Int32) (h0f30 : Int32) (h0f31 : Int32) (b_h0f0 : 1 ≤ h0f0.toInt ∧ h0f0.toInt ≤ 3) (b_h0f1 : 0 ≤ h0f1.toInt ∧ h0f1.toInt ≤ 4) (b_h0f3 : 0 ≤ h0f3.toInt ∧ h0f3.toInt ≤ 3) (b_h0f4 : 0 ≤ h0f4.toInt ∧ h0f4.toInt ≤ 4) (b_h0f8 : 0 ≤ h0f8.toInt ∧ h0f8.toInt ≤ 1) (b_h0f9 : 0 ≤ h0f9.toInt ∧ h0f9.toInt ≤ 1) (b_h0f17 : 0 ≤ h0f17.toInt ∧ h0f17.toInt ≤ 120) (b_h0f18 : 0 ≤ h0f18.toInt ∧ h0f18.toInt ≤ 120) (b_h0f19 : 0 ≤ h0f19.toInt ∧ h0f19.toInt ≤ 4) (b_h0f24 : 0 ≤ h0f24.toInt ∧ h0f24.toInt ≤ 100) (b_h0f25 : 0 ≤ h0f25.toInt ∧ h0f25.toInt ≤ 1) (b_h0f30 : 0 ≤ h0f30.toInt ∧ h0f30.toInt ≤ 60) (b_h0f31 : 0 ≤ h0f31.toInt ∧ h0f31.toInt ≤ 1) (i_0 : h0f8.toInt ≤ h0f3.toInt) (i_1 : h0f9.toInt ≤ h0f24.toInt) : Met l yX11_character (Cond.code yX11_character cX11_character 3 (some .int) :: uw) Rm_cX11_character_b71ad (pT D k sz [.ref h0, .int x1, .int x2] [(h0, ob 8 [.int h0f0, .int h0f1, .int h0f2, .int h0f3, .int h0f4, .int h0f5, .ref h1, .ref h2, .int h0f8, .int h0f9, .ref h3, .ref h4, .ref h5, .ref h6, .ref h7, .ref h8, .ref h9, .int h0f17, .int h0f18, .int h0f19, .ref h10, .ref h11, .ref h12, .ref h13, .int h0f24, .int h0f25, .ref h14, .ref h15, .ref h16, .ref h17, .int h0f30, .int h0f31, .ref h18, .ref h19, .ref h20, .ref h21]), (h1, aI (k 0) 36 anI), (h4, aJ (k 1) 9 anJ), (h7, aJ (k 1) 4 anJ)]) (qI (B_cX11_character_b71ad D k h0 h1 h4 h7 h2 h3 h5 h6 h8 h9 h10 h11 h12 h13 h14 h15 h16 h17 h18 h19 h20 h21 x1 x2 h0f0 h0f1 h0f2 h0f3 h0f4 h0f5 h0f8 h0f9 h0f17 h0f18 h0f19 h0f24 h0f25 h0f30 h0f31 (zA [h0, h1, h4, h7] sz)) (zA [h0, h1, h4, h7] sz)) 0 0 (zA [h0, h1, h4, h7] sz) := by
  refine tz_begin (as := [h0, h1, h4, h7]) (Qc := fun A => qI (B_cX11_character_b71ad D k h0 h1 h4 h7 h2 h3 h5 h6 h8 h9 h10 h11 h12 h13 h14 h15 h16 h17 h18 h19 h20 h21 x1 x2 h0f0 h0f1 h0f2 h0f3 h0f4 h0f5 h0f8 h0f9 h0f17 h0f18 h0f19 h0f24 h0f25 h0f30 h0f31 A) A) (by decide +kernel) rfl (Nat.le_of_ble_eq_true rfl) ?_
  intro p e s m args below meth c ls A Q hx hb hr hml hown hlocks hin hU hK hT hS hA hl hQ
  have hl : lv_has ls 3 [(0, .ref h0), (1, .int x1), (2, .int x2)] := hl
  have hT : TP D A [(h0, ob 8 [.int h0f0, .int h0f1, .int h0f2, .int h0f3, .int h0f4, .int h0f5, .ref h1, .ref h2, .int h0f8, .int h0f9, .ref h3, .ref h4, .ref h5, .ref h6, .ref h7, .ref h8, .ref h9, .int h0f17, .int h0f18, .int h0f19, .ref h10, .ref h11, .ref h12, .ref h13, .int h0f24, .int h0f25, .ref h14, .ref h15, .ref h16, .ref h17, .int h0f30, .int h0f31, .ref h18, .ref h19, .ref h20, .ref h21]), (h1, aI (k 0) 36 anI), (h4, aJ (k 1) 9 anJ), (h7, aJ (k 1) 4 anJ)] s.heap := hT
  refine lv_aload_n hx hb dX11_character_0 rfl (lv_at hl 0 rfl) ?_
  refine lv_iload_n hx hb dX11_character_1 rfl (lv_at hl 1 rfl) ?_
  refine tcI (Tc := [(h0, ob 8 [.int h0f0, .int h0f1, .int h0f2, .int h0f3, .int h0f4, .int h0f5, .ref h1, .ref h2, .int h0f8, .int h0f9, .ref h3, .ref h4, .ref h5, .ref h6, .ref h7, .ref h8, .ref h9, .int h0f17, .int h0f18, .int h0f19, .ref h10, .ref h11, .ref h12, .ref h13, .int h0f24, .int h0f25, .ref h14, .ref h15, .ref h16, .ref h17, .int h0f30, .int h0f31, .ref h18, .ref h19, .ref h20, .ref h21])]) (Tr := [(h1, aI (k 0) 36 anI), (h4, aJ (k 1) 9 anJ), (h7, aJ (k 1) 4 anJ)]) (as := [h0]) (zcV (q0 := 0) (ci := 8) (As := [.int x1]) (rest := []) (Tc := [(h0, ob 8 [.int h0f0, .int h0f1, .int h0f2, .int h0f3, .int h0f4, .int h0f5, .ref h1, .ref h2, .int h0f8, .int h0f9, .ref h3, .ref h4, .ref h5, .ref h6, .ref h7, .ref h8, .ref h9, .int h0f17, .int h0f18, .int h0f19, .ref h10, .ref h11, .ref h12, .ref h13, .int h0f24, .int h0f25, .ref h14, .ref h15, .ref h16, .ref h17, .int h0f30, .int h0f31, .ref h18, .ref h19, .ref h20, .ref h21])]) hx hb hml hown hU hK hT rfl rfl [0] rfl (by decide) (cX11_isGen_669e6 l D k _ h0 h1 h2 h3 h4 h5 h6 h7 h8 h9 h10 h11 h12 h13 h14 h15 h16 h17 h18 h19 h20 h21 x1 h0f0 h0f1 h0f2 h0f3 h0f4 h0f5 h0f8 h0f9 h0f17 h0f18 h0f19 h0f24 h0f25 h0f30 h0f31 (by omega) (by omega) (by omega) (by omega) (by omega) (by omega) (by omega) (by omega) (by omega) (by omega) (by omega) (by omega) (by omega) (by omega) (by omega)) w935 w932 w934 w31 w72 hdX11_isGen ⟨rfl, rfl⟩ ⟨Nat.le_of_ble_eq_true rfl, Nat.le_of_ble_eq_true rfl⟩ rfl hl.1 (Nat.le_of_ble_eq_true rfl) dX11_character_2 ⟨Nat.le_of_ble_eq_true rfl, Nat.le_of_ble_eq_true rfl⟩) hT hS hA [0] [1, 2, 3] rfl rfl rfl (by decide) (by decide) (fun r1 H locs hB J hS => ?_)
  rcases hB with ⟨rfl, hT1⟩ | ⟨c_2, c_3, c_4, c_5, rfl, hT1⟩
  · skip
    have hT := J _ hT1
    have hT : TP D A [(h1, aI (k 0) 36 anI), (h4, aJ (k 1) 9 anJ), (h7, aJ (k 1) 4 anJ), (h0, ob 8 [.int h0f0, .int h0f1, .int h0f2, .int h0f3, .int h0f4, .int h0f5, .ref h1, .ref h2, .int h0f8, .int h0f9, .ref h3, .ref h4, .ref h5, .ref h6, .ref h7, .ref h8, .ref h9, .int h0f17, .int h0f18, .int h0f19, .ref h10, .ref h11, .ref h12, .ref h13, .int h0f24, .int h0f25, .ref h14, .ref h15, .ref h16, .ref h17, .int h0f30, .int h0f31, .ref h18, .ref h19, .ref h20, .ref h21])] _ := hT
    refine lv_if_eq (tgt := 22) hx hb dX11_character_5 (by decide) (fun _ => ?_) (fun cc => absurd (by decide +kernel) cc)
    refine lv_iconst (v := (-1)) hx hb dX11_character_22 (by decide) ?_
    exact tz_retI (B := B_cX11_character_b71ad D k h0 h1 h4 h7 h2 h3 h5 h6 h8 h9 h10 h11 h12 h13 h14 h15 h16 h17 h18 h19 h20 h21 x1 x2 h0f0 h0f1 h0f2 h0f3 h0f4 h0f5 h0f8 h0f9 h0f17 h0f18 h0f19 h0f24 h0f25 h0f30 h0f31) (v := (-1)) hQ hx hb hr hlocks hS (Nat.le_of_ble_eq_true rfl) (Nat.le_of_ble_eq_true rfl) dX11_character_23 ((hT.sub [3, 0, 1, 2] (by decide) rfl))
  · skip
    have hT := J _ hT1
    have hT : TP D A [(h1, aI (k 0) 36 anI), (h4, aJ (k 1) 9 anJ), (h7, aJ (k 1) 4 anJ), (h0, ob 8 [.int h0f0, .int h0f1, .int h0f2, .int h0f3, .int h0f4, .int h0f5, .ref h1, .ref h2, .int h0f8, .int h0f9, .ref h3, .ref h4, .ref h5, .ref h6, .ref h7, .ref h8, .ref h9, .int h0f17, .int h0f18, .int h0f19, .ref h10, .ref h11, .ref h12, .ref h13, .int h0f24, .int h0f25, .ref h14, .ref h15, .ref h16, .ref h17, .int h0f30, .int h0f31, .ref h18, .ref h19, .ref h20, .ref h21])] _ := hT
    refine lv_if_eq (tgt := 22) hx hb dX11_character_5 (by decide) (fun cc => absurd cc (by decide +kernel)) (fun _ => ?_)
    refine lv_iload_n hx hb dX11_character_8 rfl (lv_at hl 2 rfl) ?_
    have tb_x2 := i32b x2
    obtain ⟨v6, e_v6⟩ : ∃ x : Int64, x2.toInt64 = x := ⟨_, rfl⟩
    refine lv_i2l (v := v6) hx hb dX11_character_9 e_v6 ?_
    have e_v6 := ai_i2l e_v6 rfl
    refine lv_lconst (v := 0) hx hb dX11_character_10 (by decide) ?_
    refine lv_aload_n hx hb dX11_character_11 rfl (lv_at hl 0 rfl) ?_
    refine tz_get (ci := 8) (v := .int h0f0) (C := RX11) (F := TX11) (N := 36) hx hb hU iX11 hown hK hT 3 rfl rfl 0 (by decide) w785 (fun _ h9 => h9) rfl dX11_character_12 ?_
    obtain ⟨v7, e_v7⟩ : ∃ x : Int64, h0f0.toInt64 = x := ⟨_, rfl⟩
    refine lv_i2l (v := v7) hx hb dX11_character_15 e_v7 ?_
    have e_v7 := ai_i2l e_v7 rfl
    have q_q9 := ll_0
    refine tcI (Tc := []) (Tr := [(h1, aI (k 0) 36 anI), (h4, aJ (k 1) 9 anJ), (h7, aJ (k 1) 4 anJ), (h0, ob 8 [.int h0f0, .int h0f1, .int h0f2, .int h0f3, .int h0f4, .int h0f5, .ref h1, .ref h2, .int h0f8, .int h0f9, .ref h3, .ref h4, .ref h5, .ref h6, .ref h7, .ref h8, .ref h9, .int h0f17, .int h0f18, .int h0f19, .ref h10, .ref h11, .ref h12, .ref h13, .int h0f24, .int h0f25, .ref h14, .ref h15, .ref h16, .ref h17, .int h0f30, .int h0f31, .ref h18, .ref h19, .ref h20, .ref h21])]) (as := []) (zcS (As := [.long v6, .long 0, .long v7]) (rest := []) (Tc := []) hx hb hml hown hU hK hT [] rfl (by decide) (cX11_in_ca3b9 l D k _ v6 (0) v7 (by have := ll_0; omega) (by omega)) w901 w899 w900 w72 hdX11_in ⟨rfl, rfl⟩ ⟨Nat.le_of_ble_eq_true rfl, Nat.le_of_ble_eq_true rfl⟩ rfl hl.1 (Nat.le_of_ble_eq_true rfl) dX11_character_16 ⟨Nat.le_of_ble_eq_true rfl, Nat.le_of_ble_eq_true rfl⟩) hT hS hA [] [0, 1, 2, 3] rfl rfl rfl (by decide) (by decide) (fun r8 H locs hB J hS => ?_)
    rcases hB with ⟨rfl, hT1⟩ | ⟨c_10, c_11, rfl, hT1⟩
    · skip
      have hT := J _ hT1
      have hT : TP D A [(h1, aI (k 0) 36 anI), (h4, aJ (k 1) 9 anJ), (h7, aJ (k 1) 4 anJ), (h0, ob 8 [.int h0f0, .int h0f1, .int h0f2, .int h0f3, .int h0f4, .int h0f5, .ref h1, .ref h2, .int h0f8, .int h0f9, .ref h3, .ref h4, .ref h5, .ref h6, .ref h7, .ref h8, .ref h9, .int h0f17, .int h0f18, .int h0f19, .ref h10, .ref h11, .ref h12, .ref h13, .int h0f24, .int h0f25, .ref h14, .ref h15, .ref h16, .ref h17, .int h0f30, .int h0f31, .ref h18, .ref h19, .ref h20, .ref h21])] _ := hT
      refine lv_if_ne (tgt := 24) hx hb dX11_character_19 (by decide) (fun cc => absurd (by decide +kernel) cc) (fun _ => ?_)
      refine lv_iconst (v := (-1)) hx hb dX11_character_22 (by decide) ?_
      exact tz_retI (B := B_cX11_character_b71ad D k h0 h1 h4 h7 h2 h3 h5 h6 h8 h9 h10 h11 h12 h13 h14 h15 h16 h17 h18 h19 h20 h21 x1 x2 h0f0 h0f1 h0f2 h0f3 h0f4 h0f5 h0f8 h0f9 h0f17 h0f18 h0f19 h0f24 h0f25 h0f30 h0f31) (v := (-1)) hQ hx hb hr hlocks hS (Nat.le_of_ble_eq_true rfl) (Nat.le_of_ble_eq_true rfl) dX11_character_23 ((hT.sub [3, 0, 1, 2] (by decide) rfl))
    · skip
      have hT := J _ hT1
      have hT : TP D A [(h1, aI (k 0) 36 anI), (h4, aJ (k 1) 9 anJ), (h7, aJ (k 1) 4 anJ), (h0, ob 8 [.int h0f0, .int h0f1, .int h0f2, .int h0f3, .int h0f4, .int h0f5, .ref h1, .ref h2, .int h0f8, .int h0f9, .ref h3, .ref h4, .ref h5, .ref h6, .ref h7, .ref h8, .ref h9, .int h0f17, .int h0f18, .int h0f19, .ref h10, .ref h11, .ref h12, .ref h13, .int h0f24, .int h0f25, .ref h14, .ref h15, .ref h16, .ref h17, .int h0f30, .int h0f31, .ref h18, .ref h19, .ref h20, .ref h21])] _ := hT
      refine lv_if_ne (tgt := 24) hx hb dX11_character_19 (by decide) (fun _ => ?_) (fun cc => absurd cc (by decide +kernel))
      refine lv_aload_n hx hb dX11_character_24 rfl (lv_at hl 0 rfl) ?_
      refine lv_iload_n hx hb dX11_character_25 rfl (lv_at hl 1 rfl) ?_
      refine tcV (Tc := [(h0, ob 8 [.int h0f0, .int h0f1, .int h0f2, .int h0f3, .int h0f4, .int h0f5, .ref h1, .ref h2, .int h0f8, .int h0f9, .ref h3, .ref h4, .ref h5, .ref h6, .ref h7, .ref h8, .ref h9, .int h0f17, .int h0f18, .int h0f19, .ref h10, .ref h11, .ref h12, .ref h13, .int h0f24, .int h0f25, .ref h14, .ref h15, .ref h16, .ref h17, .int h0f30, .int h0f31, .ref h18, .ref h19, .ref h20, .ref h21]), (h1, aI (k 0) 36 anI), (h4, aJ (k 1) 9 anJ), (h7, aJ (k 1) 4 anJ)]) (Tr := []) (as := [h0, h1, h4, h7]) (zcV (q0 := 3) (ci := 8) (As := [.int x1]) (rest := []) (Tc := [(h0, ob 8 [.int h0f0, .int h0f1, .int h0f2, .int h0f3, .int h0f4, .int h0f5, .ref h1, .ref h2, .int h0f8, .int h0f9, .ref h3, .ref h4, .ref h5, .ref h6, .ref h7, .ref h8, .ref h9, .int h0f17, .int h0f18, .int h0f19, .ref h10, .ref h11, .ref h12, .ref h13, .int h0f24, .int h0f25, .ref h14, .ref h15, .ref h16, .ref h17, .int h0f30, .int h0f31, .ref h18, .ref h19, .ref h20, .ref h21]), (h1, aI (k 0) 36 anI), (h4, aJ (k 1) 9 anJ), (h7, aJ (k 1) 4 anJ)]) hx hb hml hown hU hK hT rfl rfl [3, 0, 1, 2] rfl (by decide) (cX11_finds_682f6 l D k _ h0 h1 h4 h7 h2 h3 h5 h6 h8 h9 h10 h11 h12 h13 h14 h15 h16 h17 h18 h19 h20 h21 x1 h0f0 h0f1 h0f2 h0f3 h0f4 h0f5 h0f8 h0f9 h0f17 h0f18 h0f19 h0f24 h0f25 h0f30 h0f31 (by omega) (by omega) (by omega) (by omega) (by omega) (by omega) (by omega) (by omega) (by omega) (by omega) (by omega) (by omega) (by omega) (by omega) (by omega) (by omega)) w990 w987 w989 w40 w72 hdX11_finds ⟨rfl, rfl⟩ ⟨Nat.le_of_ble_eq_true rfl, Nat.le_of_ble_eq_true rfl⟩ rfl hl.1 (Nat.le_of_ble_eq_true rfl) dX11_character_26 ⟨Nat.le_of_ble_eq_true rfl, Nat.le_of_ble_eq_true rfl⟩) hT hS hA [3, 0, 1, 2] [] rfl rfl rfl (by decide) (by decide) (fun H locs hB J hS => ?_)
      have hT1 := hB
      have hT := J _ hT1
      have hT : TP D A [(h0, ob 8 [.int h0f0, .int h0f1, .int h0f2, .int h0f3, .int h0f4, .int h0f5, .ref h1, .ref h2, .int h0f8, .int h0f9, .ref h3, .ref h4, .ref h5, .ref h6, .ref h7, .ref h8, .ref h9, .int h0f17, .int h0f18, .int h0f19, .ref h10, .ref h11, .ref h12, .ref h13, .int h0f24, .int h0f25, .ref h14, .ref h15, .ref h16, .ref h17, .int h0f30, .int h0f31, .ref h18, .ref h19, .ref h20, .ref h21]), (h1, aI (k 0) 36 anI), (h4, aJ (k 1) 9 anJ), (h7, aJ (k 1) 4 anJ)] _ := hT
      refine lv_ldc hx hb hown (hU _ w991) dX11_character_29 ?_
      refine lv_aload_n hx hb dX11_character_31 rfl (lv_at hl 0 rfl) ?_
      refine tz_get (ci := 8) (v := .ref h7) (C := RX11) (F := TX11) (N := 36) hx hb hU iX11 hown hK hT 0 rfl rfl 14 (by decide) w799 (fun _ h9 => h9) rfl dX11_character_32 ?_
      refine lv_iload_n hx hb dX11_character_35 rfl (lv_at hl 2 rfl) ?_
      refine tz_lald hx hb hK hT 3 rfl (by omega) dX11_character_36 (fun v13 e_v13 => ?_)
      clear e_v13
      refine lv_l2i hx hb dX11_character_37 rfl (lv_topi (fun v14 _ => ?_))
      refine lv_iadd hx hb dX11_character_38 (lv_topi (fun v15 e_v15 => ?_))
      exact tz_retI (B := B_cX11_character_b71ad D k h0 h1 h4 h7 h2 h3 h5 h6 h8 h9 h10 h11 h12 h13 h14 h15 h16 h17 h18 h19 h20 h21 x1 x2 h0f0 h0f1 h0f2 h0f3 h0f4 h0f5 h0f8 h0f9 h0f17 h0f18 h0f19 h0f24 h0f25 h0f30 h0f31) (v := v15) hQ hx hb hr hlocks hS (Nat.le_of_ble_eq_true rfl) (Nat.le_of_ble_eq_true rfl) dX11_character_39 (hT)
abbrev Rm_cX3_isFactor_83bd3 : Room := { frames := 0, cells := 0, slots := 0, locals := 0 }
abbrev B_cX3_isFactor_83bd3 (D : va_G) (k : Nat → ClassId) (x0 : Int32) (A : Nat → Prop) (r : Int32) (H : Heap) : Prop := (0 = r ∧ TP D A [] H) ∨ (∃ o0 : Int32, (1 ≤ o0.toInt ∧ o0.toInt ≤ 2) ∧ 0 ≤ x0.toInt ∧ x0.toInt < 7 ∧ 0 < o0.toInt ∧ 1 = r ∧ TP D A [] H)
set_option maxHeartbeats 4000000 in
set_option maxRecDepth 100000 in
theorem cX3_isFactor_83bd3 (l : Launch) (D : va_G) (k : Nat → ClassId) (sz : Nat) (t0 t1 t2 : Nat) (x0 : Int32) : Met l yX3_isFactor (Cond.code yX3_isFactor cX3_isFactor 1 (some .boolean) :: uw) Rm_cX3_isFactor_83bd3 (pTs D k t0 t1 t2 [] sz [.int x0] []) (qI (B_cX3_isFactor_83bd3 D k x0 (zA [] sz)) (zA [] sz)) 0 0 (zA [] sz) := by
  refine tz_beginS (as := []) (Qc := fun A => qI (B_cX3_isFactor_83bd3 D k x0 A) A) (by decide +kernel) rfl (Nat.le_of_ble_eq_true rfl) ?_
  intro p e s m args below meth c ls A Q hx hb hr hml hown hlocks hin hU hK hT hS hA hl hQ hZ
  have hl : lv_has ls 1 [(0, .int x0)] := hl
  have hT : TP D A [] s.heap := hT
  refine lv_iload_n hx hb dX3_isFactor_0 rfl (lv_at hl 0 rfl) ?_
  refine lv_if_lt (tgt := 24) hx hb dX3_isFactor_1 (by decide) (fun c_1 => ?_) (fun c_1 => ?_)
  · skip
    have c_1 := ni_lt c_1 rfl li_0
    refine lv_iconst (v := 0) hx hb dX3_isFactor_24 (by decide) ?_
    exact tz_retZ (B := B_cX3_isFactor_83bd3 D k x0) (v := 0) hQ hx hb hr hlocks hS (Nat.le_of_ble_eq_true rfl) (Nat.le_of_ble_eq_true rfl) dX3_isFactor_25 (by have := li_0; omega) (Or.inl ⟨rfl, hT⟩)
  · skip
    have c_1 := ni_nlt c_1 rfl li_0
    refine lv_iload_n hx hb dX3_isFactor_4 rfl (lv_at hl 0 rfl) ?_
    refine va_gets hx hb hZ.1.1 hS hown (hU _ w433) (fun _ h9 => h9) dX3_isFactor_5 ?_
    refine va_tlen (v := 7) hx hb hZ.1.2 hS (by decide +kernel) dX3_isFactor_8 ?_
    refine lv_icmp_ge (tgt := 24) hx hb dX3_isFactor_9 (by decide) (fun c_2 => ?_) (fun c_2 => ?_)
    · skip
      have c_2 := ni_le c_2 li_7 rfl
      refine lv_iconst (v := 0) hx hb dX3_isFactor_24 (by decide) ?_
      exact tz_retZ (B := B_cX3_isFactor_83bd3 D k x0) (v := 0) hQ hx hb hr hlocks hS (Nat.le_of_ble_eq_true rfl) (Nat.le_of_ble_eq_true rfl) dX3_isFactor_25 (by have := li_0; omega) (Or.inl ⟨rfl, hT⟩)
    · skip
      have c_2 := ni_nle c_2 li_7 rfl
      refine va_gets hx hb hZ.1.1 hS hown (hU _ w433) (fun _ h9 => h9) dX3_isFactor_12 ?_
      refine lv_iload_n hx hb dX3_isFactor_15 rfl (lv_at hl 0 rfl) ?_
      refine tz_ti hx hb hZ.1.2 hS (by omega) dX3_isFactor_16 (fun v3 e_v3 => ?_)
      have e_v3 : 0 ≤ v3.toInt ∧ v3.toInt ≤ 2 := by rw [e_v3]; exact fd0_rg _
      refine lv_if_le (tgt := 24) hx hb dX3_isFactor_17 (by decide) (fun c_4 => ?_) (fun c_4 => ?_)
      · skip
        have c_4 := ni_le c_4 rfl li_0
        refine lv_iconst (v := 0) hx hb dX3_isFactor_24 (by decide) ?_
        exact tz_retZ (B := B_cX3_isFactor_83bd3 D k x0) (v := 0) hQ hx hb hr hlocks hS (Nat.le_of_ble_eq_true rfl) (Nat.le_of_ble_eq_true rfl) dX3_isFactor_25 (by have := li_0; omega) (Or.inl ⟨rfl, hT⟩)
      · skip
        have c_4 := ni_nle c_4 rfl li_0
        refine lv_iconst (v := 1) hx hb dX3_isFactor_20 (by decide) ?_
        refine lv_goto (tgt := 25) hx hb dX3_isFactor_21 (by decide) ?_
        exact tz_retZ (B := B_cX3_isFactor_83bd3 D k x0) (v := 1) hQ hx hb hr hlocks hS (Nat.le_of_ble_eq_true rfl) (Nat.le_of_ble_eq_true rfl) dX3_isFactor_25 (by have := li_1; omega) (Or.inr (⟨v3, (by have := li_1; omega), (by have := li_1; omega), (by have := li_1; omega), (by have := li_1; omega), rfl, hT⟩))
abbrev Rm_cX3_takeOut_60979 : Room := { frames := 0, cells := 0, slots := 0, locals := 0 }
abbrev B_cX3_takeOut_60979 (D : va_G) (k : Nat → ClassId) (h0 : Nat) (x1 : Int32) (x2 : Int32) (A : Nat → Prop) (r : Int32) (H : Heap) : Prop := (0 ≤ r.toInt ∧ r.toInt ≤ 1) ∧ TP D A [(h0, aJ (k 1) 4 anJ)] H
set_option maxHeartbeats 4000000 in
set_option maxRecDepth 100000 in
theorem cX3_takeOut_60979 (l : Launch) (D : va_G) (k : Nat → ClassId) (sz : Nat) (t0 t1 t2 : Nat) (h0 : Nat) (x1 : Int32) (x2 : Int32) (b_x1 : (-4) ≤ x1.toInt ∧ x1.toInt ≤ 3) (b_x2 : 0 ≤ x2.toInt ∧ x2.toInt ≤ 6) : Met l yX3_takeOut (Cond.code yX3_takeOut cX3_takeOut 5 (some .boolean) :: uw) Rm_cX3_takeOut_60979 (pTs D k t0 t1 t2 [h0] sz [.ref h0, .int x1, .int x2] [(h0, aJ (k 1) 4 anJ)]) (qI (B_cX3_takeOut_60979 D k h0 x1 x2 (zA [h0] sz)) (zA [h0] sz)) 0 0 (zA [h0] sz) := by
  refine tz_beginS (as := [h0]) (Qc := fun A => qI (B_cX3_takeOut_60979 D k h0 x1 x2 A) A) (by decide +kernel) rfl (Nat.le_of_ble_eq_true rfl) ?_
  intro p e s m args below meth c ls A Q hx hb hr hml hown hlocks hin hU hK hT hS hA hl hQ hZ
  have hl : lv_has ls 5 [(0, .ref h0), (1, .int x1), (2, .int x2)] := hl
  have hT : TP D A [(h0, aJ (k 1) 4 anJ)] s.heap := hT
  refine va_gets hx hb hZ.1.1 hS hown (hU _ w433) (fun _ h9 => h9) dX3_takeOut_0 ?_
  refine lv_iload_n hx hb dX3_takeOut_3 rfl (lv_at hl 2 rfl) ?_
  refine tz_ti hx hb hZ.1.2 hS (by omega) dX3_takeOut_4 (fun v1 e_v1 => ?_)
  have e_v1 : 0 ≤ v1.toInt ∧ v1.toInt ≤ 2 := by rw [e_v1]; exact fd0_rg _
  refine lv_istore_n (lv' := [(3, .int v1), (0, .ref h0), (1, .int x1), (2, .int x2)]) hx hb dX3_takeOut_5 rfl hl (by decide) rfl (fun ls hl => ?_)
  refine lv_iload_n hx hb dX3_takeOut_6 rfl (lv_at hl 2 rfl) ?_
  refine lv_iload_n hx hb dX3_takeOut_7 rfl (lv_at hl 0 rfl) ?_
  refine lv_icmp_ge (tgt := 13) hx hb dX3_takeOut_8 (by decide) (fun c_2 => ?_) (fun c_2 => ?_)
  · skip
    have c_2 := ni_le c_2 rfl rfl
    refine lv_iload_n hx hb dX3_takeOut_13 rfl (lv_at hl 2 rfl) ?_
    refine lv_istore (lv' := [(4, .int x1), (3, .int v1), (0, .ref h0), (1, .int x1), (2, .int x2)]) hx hb dX3_takeOut_14 hl (by decide) rfl (fun ls hl => ?_)
    have lp16_4 : ∀ (n : Nat) (y3 : Int32) (H : Heap) (locs : List Loc) (ls : Array Slot), ((-1) ≤ y3.toInt ∧ y3.toInt ≤ 3) → (y3.toInt + (-1) * v1.toInt + 1).toNat < n → TP D A [(h0, aJ (k 1) 4 anJ)] H → va_S A s.heap H locs → lv_has ls 5 [(0, .ref h0), (1, .int x1), (2, .int x2), (3, .int v1), (4, .int y3)] → W p l e Rm_cX3_takeOut_60979 s m args below meth c H locs 0 0 Q (F0 m 16 ls []) := by
      intro n
      induction n with
      | zero => intro y3 H locs ls b_y3 hm hT hS hl; exact absurd hm (Nat.not_lt_zero _)
      | succ n ih =>
        intro y3 H locs ls b_y3 hm hT hS hl
        have ih16_4 := ih
        clear ih
        refine lv_iload hx hb dX3_takeOut_16 (lv_at hl 4 rfl) ?_
        refine lv_iload_n hx hb dX3_takeOut_18 rfl (lv_at hl 3 rfl) ?_
        refine lv_icmp_lt (tgt := 73) hx hb dX3_takeOut_19 (by decide) (fun c_5 => ?_) (fun c_5 => ?_)
        · skip
          have c_5 := ni_lt c_5 rfl rfl
          refine lv_iconst (v := 0) hx hb dX3_takeOut_73 (by decide) ?_
          refine lv_istore (lv' := [(4, .int 0), (0, .ref h0), (1, .int x1), (2, .int x2), (3, .int v1)]) hx hb dX3_takeOut_74 hl (by decide) rfl (fun ls hl => ?_)
          have lp76_8 : ∀ (n : Nat) (y7 : Int32) (H : Heap) (locs : List Loc) (ls : Array Slot), (0 ≤ y7.toInt ∧ y7.toInt ≤ 2) → (v1.toInt + (-1) * y7.toInt + 1).toNat < n → TP D A [(h0, aJ (k 1) 4 anJ)] H → va_S A s.heap H locs → lv_has ls 5 [(0, .ref h0), (1, .int x1), (3, .int v1), (4, .int y7)] → W p l e Rm_cX3_takeOut_60979 s m args below meth c H locs 0 0 Q (F0 m 76 ls []) := by
            intro n
            induction n with
            | zero => intro y7 H locs ls b_y7 hm hT hS hl; exact absurd hm (Nat.not_lt_zero _)
            | succ n ih =>
              intro y7 H locs ls b_y7 hm hT hS hl
              have ih76_8 := ih
              clear ih
              refine lv_iload hx hb dX3_takeOut_76 (lv_at hl 3 rfl) ?_
              refine lv_iload_n hx hb dX3_takeOut_78 rfl (lv_at hl 2 rfl) ?_
              refine lv_icmp_ge (tgt := 99) hx hb dX3_takeOut_79 (by decide) (fun c_9 => ?_) (fun c_9 => ?_)
              · skip
                have c_9 := ni_le c_9 rfl rfl
                refine lv_iload_n hx hb dX3_takeOut_99 rfl (lv_at hl 2 rfl) ?_
                refine lv_istore (lv' := [(4, .int v1), (0, .ref h0), (1, .int x1), (3, .int v1)]) hx hb dX3_takeOut_100 hl (by decide) rfl (fun ls hl => ?_)
                have lp102_12 : ∀ (n : Nat) (y11 : Int32) (H : Heap) (locs : List Loc) (ls : Array Slot), (0 ≤ y11.toInt ∧ y11.toInt ≤ 4) → (v1.toInt ≤ y11.toInt) → (x1.toInt + (-1) * y11.toInt + 1).toNat < n → TP D A [(h0, aJ (k 1) 4 anJ)] H → va_S A s.heap H locs → lv_has ls 5 [(0, .ref h0), (1, .int x1), (3, .int v1), (4, .int y11)] → W p l e Rm_cX3_takeOut_60979 s m args below meth c H locs 0 0 Q (F0 m 102 ls []) := by
                  intro n
                  induction n with
                  | zero => intro y11 H locs ls b_y11 x_0 hm hT hS hl; exact absurd hm (Nat.not_lt_zero _)
                  | succ n ih =>
                    intro y11 H locs ls b_y11 x_0 hm hT hS hl
                    have ih102_12 := ih
                    clear ih
                    refine lv_iload hx hb dX3_takeOut_102 (lv_at hl 3 rfl) ?_
                    refine lv_iload_n hx hb dX3_takeOut_104 rfl (lv_at hl 1 rfl) ?_
                    refine lv_icmp_gt (tgt := 124) hx hb dX3_takeOut_105 (by decide) (fun c_13 => ?_) (fun c_13 => ?_)
                    · skip
                      have c_13 := ni_lt c_13 rfl rfl
                      refine lv_iconst (v := 1) hx hb dX3_takeOut_124 (by decide) ?_
                      exact tz_retZ (B := B_cX3_takeOut_60979 D k h0 x1 x2) (v := 1) hQ hx hb hr hlocks hS (Nat.le_of_ble_eq_true rfl) (Nat.le_of_ble_eq_true rfl) dX3_takeOut_125 (by have := li_1; omega) (⟨(by have := li_1; omega), hT⟩)
                    · skip
                      have c_13 := ni_nlt c_13 rfl rfl
                      refine lv_aload_n hx hb dX3_takeOut_108 rfl (lv_at hl 0 rfl) ?_
                      refine lv_iload hx hb dX3_takeOut_109 (lv_at hl 3 rfl) ?_
                      refine lv_iload_n hx hb dX3_takeOut_111 rfl (lv_at hl 2 rfl) ?_
                      refine lv_isub hx hb dX3_takeOut_112 (lv_topi (fun v14 e_v14 => ?_))
                      have e_v14 := ai_sub e_v14 rfl rfl (by omega)
                      refine lv_aload_n hx hb dX3_takeOut_113 rfl (lv_at hl 0 rfl) ?_
                      refine lv_iload hx hb dX3_takeOut_114 (lv_at hl 3 rfl) ?_
                      refine tz_lald hx hb hK hT 0 rfl (by omega) dX3_takeOut_116 (fun v15 e_v15 => ?_)
                      clear e_v15
                      refine tz_last hx hb hK hT hS 0 rfl (by omega) (fun _ _ => trivial) dX3_takeOut_117 (fun H locs hT hS => ?_)
                      obtain ⟨v16, e_v16⟩ : ∃ x : Int32, x = y11 + Int32.ofInt 1 := ⟨_, rfl⟩
                      have f_v16 := e_v16.symm
                      have e_v16 : v16.toInt = y11.toInt + 1 := ai_add e_v16 rfl (show (Int32.ofInt 1).toInt = 1 from (by decide +kernel)) (by omega)
                      refine lv_iinc (v := v16) (lv' := [(4, .int v16), (0, .ref h0), (1, .int x1), (3, .int v1)]) hx hb dX3_takeOut_118 hl (k := 3) rfl f_v16 (by decide) rfl (fun ls hl => ?_)
                      refine lv_goto (tgt := 102) hx hb dX3_takeOut_121 (by decide) ?_
                      exact ih102_12 v16 _ _ _ (by omega) (by omega) (by omega) hT hS (lv_sub hl [1, 2, 3, 0] rfl)
                exact lp102_12 ((x1.toInt + (-1) * v1.toInt + 1).toNat + 1) v1 _ _ _ (by omega) (by omega) (Nat.lt_succ_self _) hT hS (lv_sub hl [1, 2, 3, 0] rfl)
              · skip
                have c_9 := ni_nle c_9 rfl rfl
                refine lv_aload_n hx hb dX3_takeOut_82 rfl (lv_at hl 0 rfl) ?_
                refine lv_iload hx hb dX3_takeOut_83 (lv_at hl 3 rfl) ?_
                refine tz_lald hx hb hK hT 0 rfl (by omega) dX3_takeOut_85 (fun v17 e_v17 => ?_)
                clear e_v17
                refine lv_lconst (v := 0) hx hb dX3_takeOut_86 (by decide) ?_
                refine W.lcmp hx hb dX3_takeOut_87 ?_
                refine lv_if_eq (tgt := 93) hx hb dX3_takeOut_88 (by decide) (fun c_18 => ?_) (fun c_18 => ?_)
                · skip
                  have c_18 := nl_eq c_18 rfl ll_0
                  obtain ⟨v19, e_v19⟩ : ∃ x : Int32, x = y7 + Int32.ofInt 1 := ⟨_, rfl⟩
                  have f_v19 := e_v19.symm
                  have e_v19 : v19.toInt = y7.toInt + 1 := ai_add e_v19 rfl (show (Int32.ofInt 1).toInt = 1 from (by decide +kernel)) (by omega)
                  refine lv_iinc (v := v19) (lv' := [(4, .int v19), (0, .ref h0), (1, .int x1), (3, .int v1)]) hx hb dX3_takeOut_93 hl (k := 3) rfl f_v19 (by decide) rfl (fun ls hl => ?_)
                  refine lv_goto (tgt := 76) hx hb dX3_takeOut_96 (by decide) ?_
                  exact ih76_8 v19 _ _ _ (by omega)  (by omega) hT hS (lv_sub hl [1, 2, 3, 0] rfl)
                · skip
                  have c_18 := nl_ne c_18 rfl ll_0
                  refine lv_iconst (v := 0) hx hb dX3_takeOut_91 (by decide) ?_
                  exact tz_retZ (B := B_cX3_takeOut_60979 D k h0 x1 x2) (v := 0) hQ hx hb hr hlocks hS (Nat.le_of_ble_eq_true rfl) (Nat.le_of_ble_eq_true rfl) dX3_takeOut_92 (by have := li_0; omega) (⟨(by have := li_0; omega), hT⟩)
          exact lp76_8 ((v1.toInt + (-1) * (0 : Int32).toInt + 1).toNat + 1) (0) _ _ _ (by have := li_0; omega)  (Nat.lt_succ_self _) hT hS (lv_sub hl [1, 2, 4, 0] rfl)
        · skip
          have c_5 := ni_nlt c_5 rfl rfl
          refine lv_aload_n hx hb dX3_takeOut_22 rfl (lv_at hl 0 rfl) ?_
          refine lv_iload hx hb dX3_takeOut_23 (lv_at hl 4 rfl) ?_
          refine lv_iload_n hx hb dX3_takeOut_25 rfl (lv_at hl 3 rfl) ?_
          refine lv_isub hx hb dX3_takeOut_26 (lv_topi (fun v20 e_v20 => ?_))
          have e_v20 := ai_sub e_v20 rfl rfl (by omega)
          refine lv_dup2_11 hx hb dX3_takeOut_27 rfl rfl ?_
          refine tz_lald hx hb hK hT 0 rfl (by omega) dX3_takeOut_28 (fun v21 e_v21 => ?_)
          clear e_v21
          refine lv_aload_n hx hb dX3_takeOut_29 rfl (lv_at hl 0 rfl) ?_
          refine lv_iload hx hb dX3_takeOut_30 (lv_at hl 4 rfl) ?_
          refine tz_lald hx hb hK hT 0 rfl (by omega) dX3_takeOut_32 (fun v22 e_v22 => ?_)
          clear e_v22
          refine va_gets hx hb hZ.2.1.1 hS hown (hU _ w441) (fun _ h9 => h9) dX3_takeOut_33 ?_
          refine lv_iload_n hx hb dX3_takeOut_36 rfl (lv_at hl 2 rfl) ?_
          refine tz_ti hx hb hZ.2.1.2 hS (by omega) dX3_takeOut_37 (fun v23 e_v23 => ?_)
          have tb_v23 := i32b v23
          obtain ⟨v24, e_v24⟩ : ∃ x : Int64, v23.toInt64 = x := ⟨_, rfl⟩
          refine lv_i2l (v := v24) hx hb dX3_takeOut_38 e_v24 ?_
          have e_v24 := ai_i2l e_v24 rfl
          refine lv_lmul hx hb dX3_takeOut_39 (lv_topl (fun v25 e_v25 => ?_))
          refine lv_lsub hx hb dX3_takeOut_40 (lv_topl (fun v26 e_v26 => ?_))
          refine tz_last hx hb hK hT hS 0 rfl (by omega) (fun _ _ => trivial) dX3_takeOut_41 (fun H locs hT hS => ?_)
          refine lv_iload_n hx hb dX3_takeOut_42 rfl (lv_at hl 3 rfl) ?_
          refine lv_iconst (v := 2) hx hb dX3_takeOut_43 (by decide) ?_
          refine lv_icmp_ne (tgt := 67) hx hb dX3_takeOut_44 (by decide) (fun c_27 => ?_) (fun c_27 => ?_)
          · skip
            have c_27 := ni_ne c_27 rfl li_2
            obtain ⟨v28, e_v28⟩ : ∃ x : Int32, x = y3 + Int32.ofInt (-1) := ⟨_, rfl⟩
            have f_v28 := e_v28.symm
            have e_v28 : v28.toInt = y3.toInt + (-1) := ai_add e_v28 rfl (show (Int32.ofInt (-1)).toInt = (-1) from (by decide +kernel)) (by omega)
            refine lv_iinc (v := v28) (lv' := [(4, .int v28), (0, .ref h0), (1, .int x1), (2, .int x2), (3, .int v1)]) hx hb dX3_takeOut_67 hl (k := 4) rfl f_v28 (by decide) rfl (fun ls hl => ?_)
            refine lv_goto (tgt := 16) hx hb dX3_takeOut_70 (by decide) ?_
            exact ih16_4 v28 _ _ _ (by omega)  (by omega) hT hS (lv_sub hl [1, 2, 3, 4, 0] rfl)
          · skip
            have c_27 := ni_eq c_27 rfl li_2
            refine lv_aload_n hx hb dX3_takeOut_47 rfl (lv_at hl 0 rfl) ?_
            refine lv_iload hx hb dX3_takeOut_48 (lv_at hl 4 rfl) ?_
            refine lv_iconst (v := 1) hx hb dX3_takeOut_50 (by decide) ?_
            refine lv_isub hx hb dX3_takeOut_51 (lv_topi (fun v29 e_v29 => ?_))
            have e_v29 := ai_sub e_v29 rfl li_1 (by omega)
            refine lv_dup2_11 hx hb dX3_takeOut_52 rfl rfl ?_
            refine tz_lald hx hb hK hT 0 rfl (by omega) dX3_takeOut_53 (fun v30 e_v30 => ?_)
            clear e_v30
            refine lv_aload_n hx hb dX3_takeOut_54 rfl (lv_at hl 0 rfl) ?_
            refine lv_iload hx hb dX3_takeOut_55 (lv_at hl 4 rfl) ?_
            refine tz_lald hx hb hK hT 0 rfl (by omega) dX3_takeOut_57 (fun v31 e_v31 => ?_)
            clear e_v31
            refine va_gets hx hb hZ.2.2.1 hS hown (hU _ w443) (fun _ h9 => h9) dX3_takeOut_58 ?_
            refine lv_iload_n hx hb dX3_takeOut_61 rfl (lv_at hl 2 rfl) ?_
            refine tz_ti hx hb hZ.2.2.2 hS (by omega) dX3_takeOut_62 (fun v32 e_v32 => ?_)
            have tb_v32 := i32b v32
            obtain ⟨v33, e_v33⟩ : ∃ x : Int64, v32.toInt64 = x := ⟨_, rfl⟩
            refine lv_i2l (v := v33) hx hb dX3_takeOut_63 e_v33 ?_
            have e_v33 := ai_i2l e_v33 rfl
            refine lv_lmul hx hb dX3_takeOut_64 (lv_topl (fun v34 e_v34 => ?_))
            refine lv_lsub hx hb dX3_takeOut_65 (lv_topl (fun v35 e_v35 => ?_))
            refine tz_last hx hb hK hT hS 0 rfl (by omega) (fun _ _ => trivial) dX3_takeOut_66 (fun H locs hT hS => ?_)
            obtain ⟨v36, e_v36⟩ : ∃ x : Int32, x = y3 + Int32.ofInt (-1) := ⟨_, rfl⟩
            have f_v36 := e_v36.symm
            have e_v36 : v36.toInt = y3.toInt + (-1) := ai_add e_v36 rfl (show (Int32.ofInt (-1)).toInt = (-1) from (by decide +kernel)) (by omega)
            refine lv_iinc (v := v36) (lv' := [(4, .int v36), (0, .ref h0), (1, .int x1), (2, .int x2), (3, .int v1)]) hx hb dX3_takeOut_67 hl (k := 4) rfl f_v36 (by decide) rfl (fun ls hl => ?_)
            refine lv_goto (tgt := 16) hx hb dX3_takeOut_70 (by decide) ?_
            exact ih16_4 v36 _ _ _ (by omega)  (by omega) hT hS (lv_sub hl [1, 2, 3, 4, 0] rfl)
    exact lp16_4 ((x1.toInt + (-1) * v1.toInt + 1).toNat + 1) x1 _ _ _ (by omega)  (Nat.lt_succ_self _) hT hS (lv_sub hl [2, 3, 4, 1, 0] rfl)
  · skip
    have c_2 := ni_nle c_2 rfl rfl
    refine lv_iconst (v := 0) hx hb dX3_takeOut_11 (by decide) ?_
    exact tz_retZ (B := B_cX3_takeOut_60979 D k h0 x1 x2) (v := 0) hQ hx hb hr hlocks hS (Nat.le_of_ble_eq_true rfl) (Nat.le_of_ble_eq_true rfl) dX3_takeOut_12 (by have := li_0; omega) (⟨(by have := li_0; omega), hT⟩)
abbrev Rm_cX3_howOften_70e47 : Room := { frames := 1, cells := 0, slots := 0, locals := 24 }
abbrev B_cX3_howOften_70e47 (D : va_G) (k : Nat → ClassId) (h0 : Nat) (x1 : Int32) (x2 : Int32) (A : Nat → Prop) (r : Int32) (H : Heap) : Prop := (0 ≤ r.toInt ∧ r.toInt ≤ 3) ∧ TP D A [(h0, aJ (k 1) 4 anJ)] H
set_option maxHeartbeats 4000000 in
set_option maxRecDepth 100000 in
theorem cX3_howOften_70e47 (l : Launch) (D : va_G) (k : Nat → ClassId) (sz : Nat) (t0 t1 t2 : Nat) (h0 : Nat) (x1 : Int32) (x2 : Int32) (b_x1 : 1 ≤ x1.toInt ∧ x1.toInt ≤ 3) (b_x2 : 0 ≤ x2.toInt ∧ x2.toInt ≤ 6) : Met l yX3_howOften (Cond.code yX3_howOften cX3_howOften 5 (some .int) :: uw) Rm_cX3_howOften_70e47 (pTs D k t0 t1 t2 [h0] sz [.ref h0, .int x1, .int x2] [(h0, aJ (k 1) 4 anJ)]) (qI (B_cX3_howOften_70e47 D k h0 x1 x2 (zA [h0] sz)) (zA [h0] sz)) 0 0 (zA [h0] sz) := by
  refine tz_beginS (as := [h0]) (Qc := fun A => qI (B_cX3_howOften_70e47 D k h0 x1 x2 A) A) (by decide +kernel) rfl (Nat.le_of_ble_eq_true rfl) ?_
  intro p e s m args below meth c ls A Q hx hb hr hml hown hlocks hin hU hK hT hS hA hl hQ hZ
  have hl : lv_has ls 5 [(0, .ref h0), (1, .int x1), (2, .int x2)] := hl
  have hT : TP D A [(h0, aJ (k 1) 4 anJ)] s.heap := hT
  refine lv_iconst (v := 0) hx hb dX3_howOften_0 (by decide) ?_
  refine lv_istore_n (lv' := [(3, .int 0), (0, .ref h0), (1, .int x1), (2, .int x2)]) hx hb dX3_howOften_1 rfl hl (by decide) rfl (fun ls hl => ?_)
  refine lv_iload_n hx hb dX3_howOften_2 rfl (lv_at hl 2 rfl) ?_
  refine lv_istore (lv' := [(4, .int x1), (3, .int 0), (0, .ref h0), (1, .int x1), (2, .int x2)]) hx hb dX3_howOften_3 hl (by decide) rfl (fun ls hl => ?_)
  have lp5_7 : ∀ (n : Nat) (y5 : Int32) (y6 : Int32) (H : Heap) (locs : List Loc) (ls : Array Slot), ((-6) ≤ y5.toInt ∧ y5.toInt ≤ 3) → (0 ≤ y6.toInt ∧ y6.toInt ≤ 3) → (0 ≤ y5.toInt + 2 * y6.toInt) → (x1.toInt + (-1) * y6.toInt + 1).toNat < n → TP D A [(h0, aJ (k 1) 4 anJ)] H → va_S A s.heap H locs → lv_has ls 5 [(0, .ref h0), (1, .int x1), (2, .int x2), (3, .int y6), (4, .int y5)] → W p l e Rm_cX3_howOften_70e47 s m args below meth c H locs 0 0 Q (F0 m 5 ls []) := by
    intro n
    induction n with
    | zero => intro y5 y6 H locs ls b_y5 b_y6 x_0 hm hT hS hl; exact absurd hm (Nat.not_lt_zero _)
    | succ n ih =>
      intro y5 y6 H locs ls b_y5 b_y6 x_0 hm hT hS hl
      have ih5_7 := ih
      clear ih
      refine lv_iload_n hx hb dX3_howOften_5 rfl (lv_at hl 3 rfl) ?_
      refine lv_iload_n hx hb dX3_howOften_6 rfl (lv_at hl 1 rfl) ?_
      refine lv_icmp_ge (tgt := 36) hx hb dX3_howOften_7 (by decide) (fun c_8 => ?_) (fun c_8 => ?_)
      · skip
        have c_8 := ni_le c_8 rfl rfl
        refine lv_iload_n hx hb dX3_howOften_36 rfl (lv_at hl 3 rfl) ?_
        exact tz_retI (B := B_cX3_howOften_70e47 D k h0 x1 x2) (v := y6) hQ hx hb hr hlocks hS (Nat.le_of_ble_eq_true rfl) (Nat.le_of_ble_eq_true rfl) dX3_howOften_37 (⟨(by omega), hT⟩)
      · skip
        have c_8 := ni_nle c_8 rfl rfl
        refine lv_aload_n hx hb dX3_howOften_10 rfl (lv_at hl 0 rfl) ?_
        refine lv_iload hx hb dX3_howOften_11 (lv_at hl 4 rfl) ?_
        refine lv_iload_n hx hb dX3_howOften_13 rfl (lv_at hl 2 rfl) ?_
        refine tcI (Tc := [(h0, aJ (k 1) 4 anJ)]) (Tr := []) (as := [h0]) (zcSs (As := [.ref h0, .int y5, .int x2]) (rest := []) (Tc := [(h0, aJ (k 1) 4 anJ)]) hx hb hml hown hU hK hT hZ hS hA [0] rfl rfl (by decide) (cX3_takeOut_60979 l D k _ t0 t1 t2 h0 y5 x2 (by omega) (by omega)) w440 w438 w439 w76 hdX3_takeOut ⟨rfl, rfl⟩ ⟨Nat.le_of_ble_eq_true rfl, Nat.le_of_ble_eq_true rfl⟩ rfl hl.1 (Nat.le_of_ble_eq_true rfl) dX3_howOften_14 ⟨Nat.le_of_ble_eq_true rfl, Nat.le_of_ble_eq_true rfl⟩) hT hS hA [0] [] rfl rfl rfl (by decide) (by decide) (fun r9 H locs hB J hS => ?_)
        obtain ⟨b_r9, hT1⟩ := hB
        have hT := J _ hT1
        have hT : TP D A [(h0, aJ (k 1) 4 anJ)] _ := hT
        refine lv_if_eq (tgt := 36) hx hb dX3_howOften_17 (by decide) (fun c_10 => ?_) (fun c_10 => ?_)
        · skip
          have c_10 := ni_eq c_10 rfl li_0
          refine lv_iload_n hx hb dX3_howOften_36 rfl (lv_at hl 3 rfl) ?_
          exact tz_retI (B := B_cX3_howOften_70e47 D k h0 x1 x2) (v := y6) hQ hx hb hr hlocks hS (Nat.le_of_ble_eq_true rfl) (Nat.le_of_ble_eq_true rfl) dX3_howOften_37 (⟨(by omega), hT⟩)
        · skip
          have c_10 := ni_ne c_10 rfl li_0
          refine lv_iload hx hb dX3_howOften_20 (lv_at hl 4 rfl) ?_
          refine va_gets hx hb hZ.1.1 hS hown (hU _ w433) (fun _ h9 => h9) dX3_howOften_22 ?_
          refine lv_iload_n hx hb dX3_howOften_25 rfl (lv_at hl 2 rfl) ?_
          refine tz_ti hx hb hZ.1.2 hS (by omega) dX3_howOften_26 (fun v11 e_v11 => ?_)
          have e_v11 : 0 ≤ v11.toInt ∧ v11.toInt ≤ 2 := by rw [e_v11]; exact fd0_rg _
          refine lv_isub hx hb dX3_howOften_27 (lv_topi (fun v12 e_v12 => ?_))
          have e_v12 := ai_sub e_v12 rfl rfl (by omega)
          refine lv_istore (lv' := [(4, .int v12), (0, .ref h0), (1, .int x1), (2, .int x2), (3, .int y6)]) hx hb dX3_howOften_28 hl (by decide) rfl (fun ls hl => ?_)
          obtain ⟨v13, e_v13⟩ : ∃ x : Int32, x = y6 + Int32.ofInt 1 := ⟨_, rfl⟩
          have f_v13 := e_v13.symm
          have e_v13 : v13.toInt = y6.toInt + 1 := ai_add e_v13 rfl (show (Int32.ofInt 1).toInt = 1 from (by decide +kernel)) (by omega)
          refine lv_iinc (v := v13) (lv' := [(3, .int v13), (4, .int v12), (0, .ref h0), (1, .int x1), (2, .int x2)]) hx hb dX3_howOften_30 hl (k := 4) rfl f_v13 (by decide) rfl (fun ls hl => ?_)
          refine lv_goto (tgt := 5) hx hb dX3_howOften_33 (by decide) ?_
          exact ih5_7 v12 v13 _ _ _ (by omega) (by omega) (by omega) (by omega) hT hS (lv_sub hl [2, 3, 4, 0, 1] rfl)
  exact lp5_7 ((x1.toInt + (-1) * (0 : Int32).toInt + 1).toNat + 1) x1 (0) _ _ _ (by have := li_0; omega) (by have := li_0; omega) (by have := li_0; omega) (Nat.lt_succ_self _) hT hS (lv_sub hl [2, 3, 4, 1, 0] rfl)
abbrev Rm_cX10_factor_87299 : Room := { frames := 3, cells := 1, slots := 4, locals := 80 }
abbrev B_cX10_factor_87299 (D : va_G) (k : Nat → ClassId) (h0 h1 h13 h2 h3 h4 h5 h6 h7 h8 h9 h10 h11 h12 : Nat) (x1 : Int32) (x2 : Int32) (h0f2 : Int32) (h0f6 : Int32) (h0f8 : Int32) (h0f11 : Int32) (h1f0 : Int32) (h1f1 : Int32) (h1f2 : Int32) (A : Nat → Prop) (r : Int32) (H : Heap) : Prop := ((-1) ≤ r.toInt ∧ r.toInt ≤ 3) ∧ TP D A [(h0, ob 7 [.ref h1, .ref h2, .int h0f2, .ref h3, .ref h4, .ref h5, .int h0f6, .ref h6, .int h0f8, .null, .ref h7, .int h0f11, .ref h8, .ref h9, .ref h10, .ref h11, .ref h12]), (h1, ob 4 [.int h1f0, .int h1f1, .int h1f2, .ref h13]), (h13, aJ (k 1) 36 anJ)] H
set_option maxHeartbeats 4000000 in
set_option maxRecDepth 100000 in
theorem cX10_factor_87299 (l : Launch) (D : va_G) (k : Nat → ClassId) (sz : Nat) (t0 t1 t2 : Nat) (h0 h1 h13 h2 h3 h4 h5 h6 h7 h8 h9 h10 h11 h12 : Nat) (x1 : Int32) (x2 : Int32) (h0f2 : Int32) (h0f6 : Int32) (h0f8 : Int32) (h0f11 : Int32) (h1f0 : Int32) (h1f1 : Int32) (h1f2 : Int32) (b_h0f2 : 0 ≤ h0f2.toInt ∧ h0f2.toInt ≤ 1) (b_h0f6 : 0 ≤ h0f6.toInt ∧ h0f6.toInt ≤ 1) (b_h0f8 : 0 ≤ h0f8.toInt ∧ h0f8.toInt ≤ 1) (b_h0f11 : 0 ≤ h0f11.toInt ∧ h0f11.toInt ≤ 200) (b_h1f0 : 1 ≤ h1f0.toInt ∧ h1f0.toInt ≤ 3) (b_h1f1 : 0 ≤ h1f1.toInt ∧ h1f1.toInt ≤ 4) : Met l yX10_factor (Cond.code yX10_factor cX10_factor 4 (some .int) :: uw) Rm_cX10_factor_87299 (pTs D k t0 t1 t2 [h0, h1, h13] sz [.ref h0, .int x1, .int x2] [(h0, ob 7 [.ref h1, .ref h2, .int h0f2, .ref h3, .ref h4, .ref h5, .int h0f6, .ref h6, .int h0f8, .null, .ref h7, .int h0f11, .ref h8, .ref h9, .ref h10, .ref h11, .ref h12]), (h1, ob 4 [.int h1f0, .int h1f1, .int h1f2, .ref h13]), (h13, aJ (k 1) 36 anJ)]) (qI (B_cX10_factor_87299 D k h0 h1 h13 h2 h3 h4 h5 h6 h7 h8 h9 h10 h11 h12 x1 x2 h0f2 h0f6 h0f8 h0f11 h1f0 h1f1 h1f2 (zA [h0, h1, h13] sz)) (zA [h0, h1, h13] sz)) 1 4 (zA [h0, h1, h13] sz) := by
  refine tz_beginS (as := [h0, h1, h13]) (Qc := fun A => qI (B_cX10_factor_87299 D k h0 h1 h13 h2 h3 h4 h5 h6 h7 h8 h9 h10 h11 h12 x1 x2 h0f2 h0f6 h0f8 h0f11 h1f0 h1f1 h1f2 A) A) (by decide +kernel) rfl (Nat.le_of_ble_eq_true rfl) ?_
  intro p e s m args below meth c ls A Q hx hb hr hml hown hlocks hin hU hK hT hS hA hl hQ hZ
  have hl : lv_has ls 4 [(0, .ref h0), (1, .int x1), (2, .int x2)] := hl
  have hT : TP D A [(h0, ob 7 [.ref h1, .ref h2, .int h0f2, .ref h3, .ref h4, .ref h5, .int h0f6, .ref h6, .int h0f8, .null, .ref h7, .int h0f11, .ref h8, .ref h9, .ref h10, .ref h11, .ref h12]), (h1, ob 4 [.int h1f0, .int h1f1, .int h1f2, .ref h13]), (h13, aJ (k 1) 36 anJ)] s.heap := hT
  refine lv_aload_n hx hb dX10_factor_0 rfl (lv_at hl 0 rfl) ?_
  refine tz_get (ci := 7) (v := .ref h1) (C := RX10) (F := TX10) (N := 17) hx hb hU iX10 hown hK hT 0 rfl rfl 0 (by decide) w249 (fun _ h9 => h9) rfl dX10_factor_1 ?_
  refine lv_iload_n hx hb dX10_factor_4 rfl (lv_at hl 1 rfl) ?_
  refine tcI (Tc := [(h1, ob 4 [.int h1f0, .int h1f1, .int h1f2, .ref h13])]) (Tr := [(h0, ob 7 [.ref h1, .ref h2, .int h0f2, .ref h3, .ref h4, .ref h5, .int h0f6, .ref h6, .int h0f8, .null, .ref h7, .int h0f11, .ref h8, .ref h9, .ref h10, .ref h11, .ref h12]), (h13, aJ (k 1) 36 anJ)]) (as := [h1]) (zcV (q0 := 1) (ci := 4) (As := [.int x1]) (rest := []) (Tc := [(h1, ob 4 [.int h1f0, .int h1f1, .int h1f2, .ref h13])]) hx hb hml hown hU hK hT rfl rfl [1] rfl (by decide) (cX5_has_64567 l D k _ h1 h13 x1 h1f0 h1f1 h1f2 (by omega) (by omega)) w356 w353 w354 w355 w64 hdX5_has ⟨rfl, rfl⟩ ⟨Nat.le_of_ble_eq_true rfl, Nat.le_of_ble_eq_true rfl⟩ rfl hl.1 (Nat.le_of_ble_eq_true rfl) dX10_factor_5 ⟨Nat.le_of_ble_eq_true rfl, Nat.le_of_ble_eq_true rfl⟩) hT hS hA [1] [0, 2] rfl rfl rfl (by decide) (by decide) (fun r1 H locs hB J hS => ?_)
  rcases hB with ⟨rfl, hT1⟩ | ⟨c_2, c_3, rfl, hT1⟩
  · skip
    have hT := J _ hT1
    have hT : TP D A [(h0, ob 7 [.ref h1, .ref h2, .int h0f2, .ref h3, .ref h4, .ref h5, .int h0f6, .ref h6, .int h0f8, .null, .ref h7, .int h0f11, .ref h8, .ref h9, .ref h10, .ref h11, .ref h12]), (h13, aJ (k 1) 36 anJ), (h1, ob 4 [.int h1f0, .int h1f1, .int h1f2, .ref h13])] _ := hT
    refine lv_if_eq (tgt := 18) hx hb dX10_factor_8 (by decide) (fun _ => ?_) (fun cc => absurd (by decide +kernel) cc)
    refine lv_iconst (v := (-1)) hx hb dX10_factor_18 (by decide) ?_
    exact tz_retI (B := B_cX10_factor_87299 D k h0 h1 h13 h2 h3 h4 h5 h6 h7 h8 h9 h10 h11 h12 x1 x2 h0f2 h0f6 h0f8 h0f11 h1f0 h1f1 h1f2) (v := (-1)) hQ hx hb hr hlocks hS (Nat.le_of_ble_eq_true rfl) (Nat.le_of_ble_eq_true rfl) dX10_factor_19 (⟨(by have := li_m1; omega), (hT.sub [0, 2, 1] (by decide) rfl)⟩)
  · skip
    have hT := J _ hT1
    have hT : TP D A [(h0, ob 7 [.ref h1, .ref h2, .int h0f2, .ref h3, .ref h4, .ref h5, .int h0f6, .ref h6, .int h0f8, .null, .ref h7, .int h0f11, .ref h8, .ref h9, .ref h10, .ref h11, .ref h12]), (h13, aJ (k 1) 36 anJ), (h1, ob 4 [.int h1f0, .int h1f1, .int h1f2, .ref h13])] _ := hT
    refine lv_if_eq (tgt := 18) hx hb dX10_factor_8 (by decide) (fun cc => absurd cc (by decide +kernel)) (fun _ => ?_)
    refine lv_iload_n hx hb dX10_factor_11 rfl (lv_at hl 2 rfl) ?_
    refine tcI (Tc := []) (Tr := [(h0, ob 7 [.ref h1, .ref h2, .int h0f2, .ref h3, .ref h4, .ref h5, .int h0f6, .ref h6, .int h0f8, .null, .ref h7, .int h0f11, .ref h8, .ref h9, .ref h10, .ref h11, .ref h12]), (h13, aJ (k 1) 36 anJ), (h1, ob 4 [.int h1f0, .int h1f1, .int h1f2, .ref h13])]) (as := []) (zcSs (As := [.int x2]) (rest := []) (Tc := []) hx hb hml hown hU hK hT hZ hS hA [] rfl rfl (by decide) (cX3_isFactor_83bd3 l D k _ t0 t1 t2 x2) w432 w430 w431 w76 hdX3_isFactor ⟨rfl, rfl⟩ ⟨Nat.le_of_ble_eq_true rfl, Nat.le_of_ble_eq_true rfl⟩ rfl hl.1 (Nat.le_of_ble_eq_true rfl) dX10_factor_12 ⟨Nat.le_of_ble_eq_true rfl, Nat.le_of_ble_eq_true rfl⟩) hT hS hA [] [0, 1, 2] rfl rfl rfl (by decide) (by decide) (fun r4 H locs hB J hS => ?_)
    rcases hB with ⟨rfl, hT1⟩ | ⟨v5, b_v5, c_6, c_7, c_8, rfl, hT1⟩
    · skip
      have hT := J _ hT1
      have hT : TP D A [(h0, ob 7 [.ref h1, .ref h2, .int h0f2, .ref h3, .ref h4, .ref h5, .int h0f6, .ref h6, .int h0f8, .null, .ref h7, .int h0f11, .ref h8, .ref h9, .ref h10, .ref h11, .ref h12]), (h13, aJ (k 1) 36 anJ), (h1, ob 4 [.int h1f0, .int h1f1, .int h1f2, .ref h13])] _ := hT
      refine lv_if_ne (tgt := 20) hx hb dX10_factor_15 (by decide) (fun cc => absurd (by decide +kernel) cc) (fun _ => ?_)
      refine lv_iconst (v := (-1)) hx hb dX10_factor_18 (by decide) ?_
      exact tz_retI (B := B_cX10_factor_87299 D k h0 h1 h13 h2 h3 h4 h5 h6 h7 h8 h9 h10 h11 h12 x1 x2 h0f2 h0f6 h0f8 h0f11 h1f0 h1f1 h1f2) (v := (-1)) hQ hx hb hr hlocks hS (Nat.le_of_ble_eq_true rfl) (Nat.le_of_ble_eq_true rfl) dX10_factor_19 (⟨(by have := li_m1; omega), (hT.sub [0, 2, 1] (by decide) rfl)⟩)
    · skip
      have hT := J _ hT1
      have hT : TP D A [(h0, ob 7 [.ref h1, .ref h2, .int h0f2, .ref h3, .ref h4, .ref h5, .int h0f6, .ref h6, .int h0f8, .null, .ref h7, .int h0f11, .ref h8, .ref h9, .ref h10, .ref h11, .ref h12]), (h13, aJ (k 1) 36 anJ), (h1, ob 4 [.int h1f0, .int h1f1, .int h1f2, .ref h13])] _ := hT
      refine lv_if_ne (tgt := 20) hx hb dX10_factor_15 (by decide) (fun _ => ?_) (fun cc => absurd cc (by decide +kernel))
      refine lv_aload_n hx hb dX10_factor_20 rfl (lv_at hl 0 rfl) ?_
      refine tz_get (ci := 7) (v := .ref h1) (C := RX10) (F := TX10) (N := 17) hx hb hU iX10 hown hK hT 0 rfl rfl 0 (by decide) w249 (fun _ h9 => h9) rfl dX10_factor_21 ?_
      refine tz_get (ci := 4) (v := .ref h13) (C := RX5) (F := TX5) (N := 4) hx hb hU iX5 hown hK hT 2 rfl rfl 3 (by decide) w103 (fun _ h9 => h9) rfl dX10_factor_24 ?_
      refine lv_iload_n hx hb dX10_factor_27 rfl (lv_at hl 1 rfl) ?_
      refine lv_bipush (v := 9) hx hb dX10_factor_28 (by decide) ?_
      refine lv_imul hx hb dX10_factor_30 (lv_topi (fun v9 e_v9 => ?_))
      have e_v9 := ai_mul e_v9 rfl li_9 (by omega)
      refine lv_aload_n hx hb dX10_factor_31 rfl (lv_at hl 0 rfl) ?_
      refine tz_get (ci := 7) (v := .ref h1) (C := RX10) (F := TX10) (N := 17) hx hb hU iX10 hown hK hT 0 rfl rfl 0 (by decide) w249 (fun _ h9 => h9) rfl dX10_factor_32 ?_
      refine tz_get (ci := 4) (v := .int h1f0) (C := RX5) (F := TX5) (N := 4) hx hb hU iX5 hown hK hT 2 rfl rfl 0 (by decide) w93 (fun _ h9 => h9) rfl dX10_factor_35 ?_
      refine tcR (Tc := [(h13, aJ (k 1) 36 anJ)]) (Tr := [(h0, ob 7 [.ref h1, .ref h2, .int h0f2, .ref h3, .ref h4, .ref h5, .int h0f6, .ref h6, .int h0f8, .null, .ref h7, .int h0f11, .ref h8, .ref h9, .ref h10, .ref h11, .ref h12]), (h1, ob 4 [.int h1f0, .int h1f1, .int h1f2, .ref h13])]) (as := [h13]) (zcS (As := [.ref h13, .int v9, .int h1f0]) (rest := []) (Tc := [(h13, aJ (k 1) 36 anJ)]) hx hb hml hown hU hK hT [1] rfl (by decide) (cX3_characterOf_18d92 l D k _ h13 v9 h1f0 (by omega) (by omega)) w422 w420 w421 w76 hdX3_characterOf ⟨rfl, rfl⟩ ⟨Nat.le_of_ble_eq_true rfl, Nat.le_of_ble_eq_true rfl⟩ rfl hl.1 (Nat.le_of_ble_eq_true rfl) dX10_factor_38 ⟨Nat.le_of_ble_eq_true rfl, Nat.le_of_ble_eq_true rfl⟩) hT hS hA [1] [0, 2] rfl rfl rfl (by decide) (by decide) (fun r10 H locs hB J hS => ?_)
      obtain ⟨q11, rfl, hT1⟩ := hB
      have hT := J _ hT1
      have hT : TP D A [(h0, ob 7 [.ref h1, .ref h2, .int h0f2, .ref h3, .ref h4, .ref h5, .int h0f6, .ref h6, .int h0f8, .null, .ref h7, .int h0f11, .ref h8, .ref h9, .ref h10, .ref h11, .ref h12]), (h1, ob 4 [.int h1f0, .int h1f1, .int h1f2, .ref h13]), (h13, aJ (k 1) 36 anJ), (q11, aJ (k 1) 4 anJ)] _ := hT
      refine lv_astore_n (lv' := [(3, .ref q11), (0, .ref h0), (1, .int x1), (2, .int x2)]) hx hb dX10_factor_41 rfl hl (by decide) rfl (fun ls hl => ?_)
      refine lv_aload_n hx hb dX10_factor_42 rfl (lv_at hl 0 rfl) ?_
      refine lv_aload_n hx hb dX10_factor_43 rfl (lv_at hl 1 rfl) ?_
      refine tz_get (ci := 7) (v := .ref h1) (C := RX10) (F := TX10) (N := 17) hx hb hU iX10 hown hK hT 0 rfl rfl 0 (by decide) w249 (fun _ h9 => h9) rfl dX10_factor_44 ?_
      refine tz_get (ci := 4) (v := .int h1f0) (C := RX5) (F := TX5) (N := 4) hx hb hU iX5 hown hK hT 1 rfl rfl 0 (by decide) w93 (fun _ h9 => h9) rfl dX10_factor_47 ?_
      refine lv_iload_n hx hb dX10_factor_50 rfl (lv_at hl 3 rfl) ?_
      refine tcI (Tc := [(q11, aJ (k 1) 4 anJ)]) (Tr := [(h0, ob 7 [.ref h1, .ref h2, .int h0f2, .ref h3, .ref h4, .ref h5, .int h0f6, .ref h6, .int h0f8, .null, .ref h7, .int h0f11, .ref h8, .ref h9, .ref h10, .ref h11, .ref h12]), (h1, ob 4 [.int h1f0, .int h1f1, .int h1f2, .ref h13]), (h13, aJ (k 1) 36 anJ)]) (as := [q11]) (zcSs (As := [.ref q11, .int h1f0, .int x2]) (rest := []) (Tc := [(q11, aJ (k 1) 4 anJ)]) hx hb hml hown hU hK hT hZ hS hA [3] rfl rfl (by decide) (cX3_howOften_70e47 l D k _ t0 t1 t2 q11 h1f0 x2 (by omega) (by omega)) w437 w435 w436 w76 hdX3_howOften ⟨rfl, rfl⟩ ⟨Nat.le_of_ble_eq_true rfl, Nat.le_of_ble_eq_true rfl⟩ rfl hl.1 (Nat.le_of_ble_eq_true rfl) dX10_factor_51 ⟨Nat.le_of_ble_eq_true rfl, Nat.le_of_ble_eq_true rfl⟩) hT hS hA [3] [0, 1, 2] rfl rfl rfl (by decide) (by decide) (fun r12 H locs hB J hS => ?_)
      obtain ⟨b_r12, hT1⟩ := hB
      have hT := J _ hT1
      have hT : TP D A [(h0, ob 7 [.ref h1, .ref h2, .int h0f2, .ref h3, .ref h4, .ref h5, .int h0f6, .ref h6, .int h0f8, .null, .ref h7, .int h0f11, .ref h8, .ref h9, .ref h10, .ref h11, .ref h12]), (h1, ob 4 [.int h1f0, .int h1f1, .int h1f2, .ref h13]), (h13, aJ (k 1) 36 anJ), (q11, aJ (k 1) 4 anJ)] _ := hT
      exact tz_retI (B := B_cX10_factor_87299 D k h0 h1 h13 h2 h3 h4 h5 h6 h7 h8 h9 h10 h11 h12 x1 x2 h0f2 h0f6 h0f8 h0f11 h1f0 h1f1 h1f2) (v := r12) hQ hx hb hr hlocks hS (Nat.le_of_ble_eq_true rfl) (Nat.le_of_ble_eq_true rfl) dX10_factor_54 (⟨(by omega), (hT.sub [0, 1, 2] (by decide) rfl)⟩)
abbrev Rm_cX10_factor_4a18a : Room := { frames := 3, cells := 1, slots := 4, locals := 80 }
abbrev B_cX10_factor_4a18a (D : va_G) (k : Nat → ClassId) (h0 h1 h14 h2 h3 h4 h5 h6 h7 h8 h9 h10 h11 h12 h13 : Nat) (x1 : Int32) (x2 : Int32) (h0f2 : Int32) (h0f6 : Int32) (h0f8 : Int32) (h0f11 : Int32) (h1f0 : Int32) (h1f1 : Int32) (h1f2 : Int32) (A : Nat → Prop) (r : Int32) (H : Heap) : Prop := ((-1) ≤ r.toInt ∧ r.toInt ≤ 3) ∧ TP D A [(h0, ob 7 [.ref h1, .ref h2, .int h0f2, .ref h3, .ref h4, .ref h5, .int h0f6, .ref h6, .int h0f8, .ref h7, .ref h8, .int h0f11, .ref h9, .ref h10, .ref h11, .ref h12, .ref h13]), (h1, ob 4 [.int h1f0, .int h1f1, .int h1f2, .ref h14]), (h14, aJ (k 1) 36 anJ)] H
set_option maxHeartbeats 4000000 in
set_option maxRecDepth 100000 in
theorem cX10_factor_4a18a (l : Launch) (D : va_G) (k : Nat → ClassId) (sz : Nat) (t0 t1 t2 : Nat) (h0 h1 h14 h2 h3 h4 h5 h6 h7 h8 h9 h10 h11 h12 h13 : Nat) (x1 : Int32) (x2 : Int32) (h0f2 : Int32) (h0f6 : Int32) (h0f8 : Int32) (h0f11 : Int32) (h1f0 : Int32) (h1f1 : Int32) (h1f2 : Int32) (b_h0f2 : 0 ≤ h0f2.toInt ∧ h0f2.toInt ≤ 1) (b_h0f6 : 0 ≤ h0f6.toInt ∧ h0f6.toInt ≤ 1) (b_h0f8 : 0 ≤ h0f8.toInt ∧ h0f8.toInt ≤ 1) (b_h0f11 : 0 ≤ h0f11.toInt ∧ h0f11.toInt ≤ 200) (b_h1f0 : 1 ≤ h1f0.toInt ∧ h1f0.toInt ≤ 3) (b_h1f1 : 0 ≤ h1f1.toInt ∧ h1f1.toInt ≤ 4) : Met l yX10_factor (Cond.code yX10_factor cX10_factor 4 (some .int) :: uw) Rm_cX10_factor_4a18a (pTs D k t0 t1 t2 [h0, h1, h14] sz [.ref h0, .int x1, .int x2] [(h0, ob 7 [.ref h1, .ref h2, .int h0f2, .ref h3, .ref h4, .ref h5, .int h0f6, .ref h6, .int h0f8, .ref h7, .ref h8, .int h0f11, .ref h9, .ref h10, .ref h11, .ref h12, .ref h13]), (h1, ob 4 [.int h1f0, .int h1f1, .int h1f2, .ref h14]), (h14, aJ (k 1) 36 anJ)]) (qI (B_cX10_factor_4a18a D k h0 h1 h14 h2 h3 h4 h5 h6 h7 h8 h9 h10 h11 h12 h13 x1 x2 h0f2 h0f6 h0f8 h0f11 h1f0 h1f1 h1f2 (zA [h0, h1, h14] sz)) (zA [h0, h1, h14] sz)) 1 4 (zA [h0, h1, h14] sz) := by
  refine tz_beginS (as := [h0, h1, h14]) (Qc := fun A => qI (B_cX10_factor_4a18a D k h0 h1 h14 h2 h3 h4 h5 h6 h7 h8 h9 h10 h11 h12 h13 x1 x2 h0f2 h0f6 h0f8 h0f11 h1f0 h1f1 h1f2 A) A) (by decide +kernel) rfl (Nat.le_of_ble_eq_true rfl) ?_
  intro p e s m args below meth c ls A Q hx hb hr hml hown hlocks hin hU hK hT hS hA hl hQ hZ
  have hl : lv_has ls 4 [(0, .ref h0), (1, .int x1), (2, .int x2)] := hl
  have hT : TP D A [(h0, ob 7 [.ref h1, .ref h2, .int h0f2, .ref h3, .ref h4, .ref h5, .int h0f6, .ref h6, .int h0f8, .ref h7, .ref h8, .int h0f11, .ref h9, .ref h10, .ref h11, .ref h12, .ref h13]), (h1, ob 4 [.int h1f0, .int h1f1, .int h1f2, .ref h14]), (h14, aJ (k 1) 36 anJ)] s.heap := hT
  refine lv_aload_n hx hb dX10_factor_0 rfl (lv_at hl 0 rfl) ?_
  refine tz_get (ci := 7) (v := .ref h1) (C := RX10) (F := TX10) (N := 17) hx hb hU iX10 hown hK hT 0 rfl rfl 0 (by decide) w249 (fun _ h9 => h9) rfl dX10_factor_1 ?_
  refine lv_iload_n hx hb dX10_factor_4 rfl (lv_at hl 1 rfl) ?_
  refine tcI (Tc := [(h1, ob 4 [.int h1f0, .int h1f1, .int h1f2, .ref h14])]) (Tr := [(h0, ob 7 [.ref h1, .ref h2, .int h0f2, .ref h3, .ref h4, .ref h5, .int h0f6, .ref h6, .int h0f8, .ref h7, .ref h8, .int h0f11, .ref h9, .ref h10, .ref h11, .ref h12, .ref h13]), (h14, aJ (k 1) 36 anJ)]) (as := [h1]) (zcV (q0 := 1) (ci := 4) (As := [.int x1]) (rest := []) (Tc := [(h1, ob 4 [.int h1f0, .int h1f1, .int h1f2, .ref h14])]) hx hb hml hown hU hK hT rfl rfl [1] rfl (by decide) (cX5_has_64567 l D k _ h1 h14 x1 h1f0 h1f1 h1f2 (by omega) (by omega)) w356 w353 w354 w355 w64 hdX5_has ⟨rfl, rfl⟩ ⟨Nat.le_of_ble_eq_true rfl, Nat.le_of_ble_eq_true rfl⟩ rfl hl.1 (Nat.le_of_ble_eq_true rfl) dX10_factor_5 ⟨Nat.le_of_ble_eq_true rfl, Nat.le_of_ble_eq_true rfl⟩) hT hS hA [1] [0, 2] rfl rfl rfl (by decide) (by decide) (fun r1 H locs hB J hS => ?_)
  rcases hB with ⟨rfl, hT1⟩ | ⟨c_2, c_3, rfl, hT1⟩
  · skip
    have hT := J _ hT1
    have hT : TP D A [(h0, ob 7 [.ref h1, .ref h2, .int h0f2, .ref h3, .ref h4, .ref h5, .int h0f6, .ref h6, .int h0f8, .ref h7, .ref h8, .int h0f11, .ref h9, .ref h10, .ref h11, .ref h12, .ref h13]), (h14, aJ (k 1) 36 anJ), (h1, ob 4 [.int h1f0, .int h1f1, .int h1f2, .ref h14])] _ := hT
    refine lv_if_eq (tgt := 18) hx hb dX10_factor_8 (by decide) (fun _ => ?_) (fun cc => absurd (by decide +kernel) cc)
    refine lv_iconst (v := (-1)) hx hb dX10_factor_18 (by decide) ?_
    exact tz_retI (B := B_cX10_factor_4a18a D k h0 h1 h14 h2 h3 h4 h5 h6 h7 h8 h9 h10 h11 h12 h13 x1 x2 h0f2 h0f6 h0f8 h0f11 h1f0 h1f1 h1f2) (v := (-1)) hQ hx hb hr hlocks hS (Nat.le_of_ble_eq_true rfl) (Nat.le_of_ble_eq_true rfl) dX10_factor_19 (⟨(by have := li_m1; omega), (hT.sub [0, 2, 1] (by decide) rfl)⟩)
  · skip
    have hT := J _ hT1
    have hT : TP D A [(h0, ob 7 [.ref h1, .ref h2, .int h0f2, .ref h3, .ref h4, .ref h5, .int h0f6, .ref h6, .int h0f8, .ref h7, .ref h8, .int h0f11, .ref h9, .ref h10, .ref h11, .ref h12, .ref h13]), (h14, aJ (k 1) 36 anJ), (h1, ob 4 [.int h1f0, .int h1f1, .int h1f2, .ref h14])] _ := hT
    refine lv_if_eq (tgt := 18) hx hb dX10_factor_8 (by decide) (fun cc => absurd cc (by decide +kernel)) (fun _ => ?_)
    refine lv_iload_n hx hb dX10_factor_11 rfl (lv_at hl 2 rfl) ?_
    refine tcI (Tc := []) (Tr := [(h0, ob 7 [.ref h1, .ref h2, .int h0f2, .ref h3, .ref h4, .ref h5, .int h0f6, .ref h6, .int h0f8, .ref h7, .ref h8, .int h0f11, .ref h9, .ref h10, .ref h11, .ref h12, .ref h13]), (h14, aJ (k 1) 36 anJ), (h1, ob 4 [.int h1f0, .int h1f1, .int h1f2, .ref h14])]) (as := []) (zcSs (As := [.int x2]) (rest := []) (Tc := []) hx hb hml hown hU hK hT hZ hS hA [] rfl rfl (by decide) (cX3_isFactor_83bd3 l D k _ t0 t1 t2 x2) w432 w430 w431 w76 hdX3_isFactor ⟨rfl, rfl⟩ ⟨Nat.le_of_ble_eq_true rfl, Nat.le_of_ble_eq_true rfl⟩ rfl hl.1 (Nat.le_of_ble_eq_true rfl) dX10_factor_12 ⟨Nat.le_of_ble_eq_true rfl, Nat.le_of_ble_eq_true rfl⟩) hT hS hA [] [0, 1, 2] rfl rfl rfl (by decide) (by decide) (fun r4 H locs hB J hS => ?_)
    rcases hB with ⟨rfl, hT1⟩ | ⟨v5, b_v5, c_6, c_7, c_8, rfl, hT1⟩
    · skip
      have hT := J _ hT1
      have hT : TP D A [(h0, ob 7 [.ref h1, .ref h2, .int h0f2, .ref h3, .ref h4, .ref h5, .int h0f6, .ref h6, .int h0f8, .ref h7, .ref h8, .int h0f11, .ref h9, .ref h10, .ref h11, .ref h12, .ref h13]), (h14, aJ (k 1) 36 anJ), (h1, ob 4 [.int h1f0, .int h1f1, .int h1f2, .ref h14])] _ := hT
      refine lv_if_ne (tgt := 20) hx hb dX10_factor_15 (by decide) (fun cc => absurd (by decide +kernel) cc) (fun _ => ?_)
      refine lv_iconst (v := (-1)) hx hb dX10_factor_18 (by decide) ?_
      exact tz_retI (B := B_cX10_factor_4a18a D k h0 h1 h14 h2 h3 h4 h5 h6 h7 h8 h9 h10 h11 h12 h13 x1 x2 h0f2 h0f6 h0f8 h0f11 h1f0 h1f1 h1f2) (v := (-1)) hQ hx hb hr hlocks hS (Nat.le_of_ble_eq_true rfl) (Nat.le_of_ble_eq_true rfl) dX10_factor_19 (⟨(by have := li_m1; omega), (hT.sub [0, 2, 1] (by decide) rfl)⟩)
    · skip
      have hT := J _ hT1
      have hT : TP D A [(h0, ob 7 [.ref h1, .ref h2, .int h0f2, .ref h3, .ref h4, .ref h5, .int h0f6, .ref h6, .int h0f8, .ref h7, .ref h8, .int h0f11, .ref h9, .ref h10, .ref h11, .ref h12, .ref h13]), (h14, aJ (k 1) 36 anJ), (h1, ob 4 [.int h1f0, .int h1f1, .int h1f2, .ref h14])] _ := hT
      refine lv_if_ne (tgt := 20) hx hb dX10_factor_15 (by decide) (fun _ => ?_) (fun cc => absurd cc (by decide +kernel))
      refine lv_aload_n hx hb dX10_factor_20 rfl (lv_at hl 0 rfl) ?_
      refine tz_get (ci := 7) (v := .ref h1) (C := RX10) (F := TX10) (N := 17) hx hb hU iX10 hown hK hT 0 rfl rfl 0 (by decide) w249 (fun _ h9 => h9) rfl dX10_factor_21 ?_
      refine tz_get (ci := 4) (v := .ref h14) (C := RX5) (F := TX5) (N := 4) hx hb hU iX5 hown hK hT 2 rfl rfl 3 (by decide) w103 (fun _ h9 => h9) rfl dX10_factor_24 ?_
      refine lv_iload_n hx hb dX10_factor_27 rfl (lv_at hl 1 rfl) ?_
      refine lv_bipush (v := 9) hx hb dX10_factor_28 (by decide) ?_
      refine lv_imul hx hb dX10_factor_30 (lv_topi (fun v9 e_v9 => ?_))
      have e_v9 := ai_mul e_v9 rfl li_9 (by omega)
      refine lv_aload_n hx hb dX10_factor_31 rfl (lv_at hl 0 rfl) ?_
      refine tz_get (ci := 7) (v := .ref h1) (C := RX10) (F := TX10) (N := 17) hx hb hU iX10 hown hK hT 0 rfl rfl 0 (by decide) w249 (fun _ h9 => h9) rfl dX10_factor_32 ?_
      refine tz_get (ci := 4) (v := .int h1f0) (C := RX5) (F := TX5) (N := 4) hx hb hU iX5 hown hK hT 2 rfl rfl 0 (by decide) w93 (fun _ h9 => h9) rfl dX10_factor_35 ?_
      refine tcR (Tc := [(h14, aJ (k 1) 36 anJ)]) (Tr := [(h0, ob 7 [.ref h1, .ref h2, .int h0f2, .ref h3, .ref h4, .ref h5, .int h0f6, .ref h6, .int h0f8, .ref h7, .ref h8, .int h0f11, .ref h9, .ref h10, .ref h11, .ref h12, .ref h13]), (h1, ob 4 [.int h1f0, .int h1f1, .int h1f2, .ref h14])]) (as := [h14]) (zcS (As := [.ref h14, .int v9, .int h1f0]) (rest := []) (Tc := [(h14, aJ (k 1) 36 anJ)]) hx hb hml hown hU hK hT [1] rfl (by decide) (cX3_characterOf_18d92 l D k _ h14 v9 h1f0 (by omega) (by omega)) w422 w420 w421 w76 hdX3_characterOf ⟨rfl, rfl⟩ ⟨Nat.le_of_ble_eq_true rfl, Nat.le_of_ble_eq_true rfl⟩ rfl hl.1 (Nat.le_of_ble_eq_true rfl) dX10_factor_38 ⟨Nat.le_of_ble_eq_true rfl, Nat.le_of_ble_eq_true rfl⟩) hT hS hA [1] [0, 2] rfl rfl rfl (by decide) (by decide) (fun r10 H locs hB J hS => ?_)
      obtain ⟨q11, rfl, hT1⟩ := hB
      have hT := J _ hT1
      have hT : TP D A [(h0, ob 7 [.ref h1, .ref h2, .int h0f2, .ref h3, .ref h4, .ref h5, .int h0f6, .ref h6, .int h0f8, .ref h7, .ref h8, .int h0f11, .ref h9, .ref h10, .ref h11, .ref h12, .ref h13]), (h1, ob 4 [.int h1f0, .int h1f1, .int h1f2, .ref h14]), (h14, aJ (k 1) 36 anJ), (q11, aJ (k 1) 4 anJ)] _ := hT
      refine lv_astore_n (lv' := [(3, .ref q11), (0, .ref h0), (1, .int x1), (2, .int x2)]) hx hb dX10_factor_41 rfl hl (by decide) rfl (fun ls hl => ?_)
      refine lv_aload_n hx hb dX10_factor_42 rfl (lv_at hl 0 rfl) ?_
      refine lv_aload_n hx hb dX10_factor_43 rfl (lv_at hl 1 rfl) ?_
      refine tz_get (ci := 7) (v := .ref h1) (C := RX10) (F := TX10) (N := 17) hx hb hU iX10 hown hK hT 0 rfl rfl 0 (by decide) w249 (fun _ h9 => h9) rfl dX10_factor_44 ?_
      refine tz_get (ci := 4) (v := .int h1f0) (C := RX5) (F := TX5) (N := 4) hx hb hU iX5 hown hK hT 1 rfl rfl 0 (by decide) w93 (fun _ h9 => h9) rfl dX10_factor_47 ?_
      refine lv_iload_n hx hb dX10_factor_50 rfl (lv_at hl 3 rfl) ?_
      refine tcI (Tc := [(q11, aJ (k 1) 4 anJ)]) (Tr := [(h0, ob 7 [.ref h1, .ref h2, .int h0f2, .ref h3, .ref h4, .ref h5, .int h0f6, .ref h6, .int h0f8, .ref h7, .ref h8, .int h0f11, .ref h9, .ref h10, .ref h11, .ref h12, .ref h13]), (h1, ob 4 [.int h1f0, .int h1f1, .int h1f2, .ref h14]), (h14, aJ (k 1) 36 anJ)]) (as := [q11]) (zcSs (As := [.ref q11, .int h1f0, .int x2]) (rest := []) (Tc := [(q11, aJ (k 1) 4 anJ)]) hx hb hml hown hU hK hT hZ hS hA [3] rfl rfl (by decide) (cX3_howOften_70e47 l D k _ t0 t1 t2 q11 h1f0 x2 (by omega) (by omega)) w437 w435 w436 w76 hdX3_howOften ⟨rfl, rfl⟩ ⟨Nat.le_of_ble_eq_true rfl, Nat.le_of_ble_eq_true rfl⟩ rfl hl.1 (Nat.le_of_ble_eq_true rfl) dX10_factor_51 ⟨Nat.le_of_ble_eq_true rfl, Nat.le_of_ble_eq_true rfl⟩) hT hS hA [3] [0, 1, 2] rfl rfl rfl (by decide) (by decide) (fun r12 H locs hB J hS => ?_)
      obtain ⟨b_r12, hT1⟩ := hB
      have hT := J _ hT1
      have hT : TP D A [(h0, ob 7 [.ref h1, .ref h2, .int h0f2, .ref h3, .ref h4, .ref h5, .int h0f6, .ref h6, .int h0f8, .ref h7, .ref h8, .int h0f11, .ref h9, .ref h10, .ref h11, .ref h12, .ref h13]), (h1, ob 4 [.int h1f0, .int h1f1, .int h1f2, .ref h14]), (h14, aJ (k 1) 36 anJ), (q11, aJ (k 1) 4 anJ)] _ := hT
      exact tz_retI (B := B_cX10_factor_4a18a D k h0 h1 h14 h2 h3 h4 h5 h6 h7 h8 h9 h10 h11 h12 h13 x1 x2 h0f2 h0f6 h0f8 h0f11 h1f0 h1f1 h1f2) (v := r12) hQ hx hb hr hlocks hS (Nat.le_of_ble_eq_true rfl) (Nat.le_of_ble_eq_true rfl) dX10_factor_54 (⟨(by omega), (hT.sub [0, 1, 2] (by decide) rfl)⟩)
abbrev Rm_cX11_takesOut_ae7df : Room := { frames := 0, cells := 0, slots := 0, locals := 0 }
abbrev B_cX11_takesOut_ae7df (D : va_G) (k : Nat → ClassId) (h0 h4 h5 h7 h1 h2 h3 h6 h8 h9 h10 h11 h12 h13 h14 h15 h16 h17 h18 h19 h20 h21 : Nat) (x1 : Int32) (x2 : Int32) (x3 : Int32) (h0f0 : Int32) (h0f1 : Int32) (h0f2 : Int32) (h0f3 : Int32) (h0f4 : Int32) (h0f5 : Int32) (h0f8 : Int32) (h0f9 : Int32) (h0f17 : Int32) (h0f18 : Int32) (h0f19 : Int32) (h0f24 : Int32) (h0f25 : Int32) (h0f30 : Int32) (h0f31 : Int32) (A : Nat → Prop) (r : Int32) (H : Heap) : Prop := (0 = r ∧ TP D A [(h0, ob 8 [.int h0f0, .int h0f1, .int h0f2, .int h0f3, .int h0f4, .int h0f5, .ref h1, .ref h2, .int h0f8, .int h0f9, .ref h3, .ref h4, .ref h5, .ref h6, .ref h7, .ref h8, .ref h9, .int h0f17, .int h0f18, .int h0f19, .ref h10, .ref h11, .ref h12, .ref h13, .int h0f24, .int h0f25, .ref h14, .ref h15, .ref h16, .ref h17, .int h0f30, .int h0f31, .ref h18, .ref h19, .ref h20, .ref h21]), (h4, aJ (k 1) 9 anJ), (h5, aJ (k 1) 9 anJ), (h7, aJ (k 1) 4 anJ)] H) ∨ (∃ o0 : Int64, ∃ o1 : Int64, (0 ≤ o1.toInt ∧ o1.toInt ≤ 0) ∧ h0f8.toInt ≤ h0f3.toInt ∧ h0f9.toInt ≤ h0f24.toInt ∧ x1.toInt = 1 ∧ o0.toInt ≠ 0 ∧ x1.toInt ≤ 3 ∧ x1.toInt ≠ 2 ∧ x1.toInt ≤ 2 ∧ x1.toInt ≤ 1 ∧ 0 < x1.toInt ∧ o1.toInt = 0 ∧ 1 = r ∧ TP D A [(h0, ob 8 [.int h0f0, .int h0f1, .int h0f2, .int h0f3, .int h0f4, .int h0f5, .ref h1, .ref h2, .int h0f8, .int h0f9, .ref h3, .ref h4, .ref h5, .ref h6, .ref h7, .ref h8, .ref h9, .int h0f17, .int h0f18, .int h0f19, .ref h10, .ref h11, .ref h12, .ref h13, .int h0f24, .int h0f25, .ref h14, .ref h15, .ref h16, .ref h17, .int h0f30, .int h0f31, .ref h18, .ref h19, .ref h20, .ref h21]), (h4, aJ (k 1) 9 anJ), (h5, aJ (k 1) 9 anJ), (h7, aJ (k 1) 4 (zJ [3]))] H) ∨ (∃ o0 : Int64, ∃ o1 : Int64, ∃ o2 : Int64, (0 ≤ o0.toInt ∧ o0.toInt ≤ 0) ∧ (0 ≤ o2.toInt ∧ o2.toInt ≤ 0) ∧ h0f8.toInt ≤ h0f3.toInt ∧ h0f9.toInt ≤ h0f24.toInt ∧ x1.toInt = 1 ∧ o0.toInt = 0 ∧ o1.toInt ≠ 0 ∧ x1.toInt ≤ 2 ∧ x1.toInt ≠ 2 ∧ x1.toInt ≤ 1 ∧ 0 < x1.toInt ∧ o2.toInt = 0 ∧ 1 = r ∧ TP D A [(h0, ob 8 [.int h0f0, .int h0f1, .int h0f2, .int h0f3, .int h0f4, .int h0f5, .ref h1, .ref h2, .int h0f8, .int h0f9, .ref h3, .ref h4, .ref h5, .ref h6, .ref h7, .ref h8, .ref h9, .int h0f17, .int h0f18, .int h0f19, .ref h10, .ref h11, .ref h12, .ref h13, .int h0f24, .int h0f25, .ref h14, .ref h15, .ref h16, .ref h17, .int h0f30, .int h0f31, .ref h18, .ref h19, .ref h20, .ref h21]), (h4, aJ (k 1) 9 anJ), (h5, aJ (k 1) 9 anJ), (h7, aJ (k 1) 4 (zJ [3]))] H) ∨ (∃ o0 : Int64, ∃ o1 : Int64, ∃ o2 : Int64, ∃ o3 : Int64, (0 ≤ o0.toInt ∧ o0.toInt ≤ 0) ∧ (0 ≤ o1.toInt ∧ o1.toInt ≤ 0) ∧ (0 ≤ o3.toInt ∧ o3.toInt ≤ 0) ∧ h0f8.toInt ≤ h0f3.toInt ∧ h0f9.toInt ≤ h0f24.toInt ∧ x1.toInt = 1 ∧ o0.toInt = 0 ∧ o1.toInt = 0 ∧ o2.toInt ≠ 0 ∧ x1.toInt ≤ 1 ∧ x1.toInt ≠ 2 ∧ 0 < x1.toInt ∧ o3.toInt = 0 ∧ 1 = r ∧ TP D A [(h0, ob 8 [.int h0f0, .int h0f1, .int h0f2, .int h0f3, .int h0f4, .int h0f5, .ref h1, .ref h2, .int h0f8, .int h0f9, .ref h3, .ref h4, .ref h5, .ref h6, .ref h7, .ref h8, .ref h9, .int h0f17, .int h0f18, .int h0f19, .ref h10, .ref h11, .ref h12, .ref h13, .int h0f24, .int h0f25, .ref h14, .ref h15, .ref h16, .ref h17, .int h0f30, .int h0f31, .ref h18, .ref h19, .ref h20, .ref h21]), (h4, aJ (k 1) 9 anJ), (h5, aJ (k 1) 9 anJ), (h7, aJ (k 1) 4 (zJ [3]))] H) ∨ (∃ o0 : Int64, ∃ o1 : Int64, ∃ o2 : Int64, (0 ≤ o1.toInt ∧ o1.toInt ≤ 0) ∧ (0 ≤ o2.toInt ∧ o2.toInt ≤ 0) ∧ h0f8.toInt ≤ h0f3.toInt ∧ h0f9.toInt ≤ h0f24.toInt ∧ x1.toInt = 2 ∧ o0.toInt ≠ 0 ∧ x1.toInt ≤ 3 ∧ x1.toInt ≤ 2 ∧ 1 < x1.toInt ∧ o1.toInt = 0 ∧ o2.toInt = 0 ∧ 1 = r ∧ TP D A [(h0, ob 8 [.int h0f0, .int h0f1, .int h0f2, .int h0f3, .int h0f4, .int h0f5, .ref h1, .ref h2, .int h0f8, .int h0f9, .ref h3, .ref h4, .ref h5, .ref h6, .ref h7, .ref h8, .ref h9, .int h0f17, .int h0f18, .int h0f19, .ref h10, .ref h11, .ref h12, .ref h13, .int h0f24, .int h0f25, .ref h14, .ref h15, .ref h16, .ref h17, .int h0f30, .int h0f31, .ref h18, .ref h19, .ref h20, .ref h21]), (h4, aJ (k 1) 9 anJ), (h5, aJ (k 1) 9 anJ), (h7, aJ (k 1) 4 (zJ [3]))] H) ∨ (∃ o0 : Int64, ∃ o1 : Int64, ∃ o2 : Int64, ∃ o3 : Int64, (0 ≤ o0.toInt ∧ o0.toInt ≤ 0) ∧ (0 ≤ o2.toInt ∧ o2.toInt ≤ 0) ∧ (0 ≤ o3.toInt ∧ o3.toInt ≤ 0) ∧ h0f8.toInt ≤ h0f3.toInt ∧ h0f9.toInt ≤ h0f24.toInt ∧ x1.toInt = 2 ∧ o0.toInt = 0 ∧ o1.toInt ≠ 0 ∧ x1.toInt ≤ 2 ∧ 1 < x1.toInt ∧ o2.toInt = 0 ∧ o3.toInt = 0 ∧ 1 = r ∧ TP D A [(h0, ob 8 [.int h0f0, .int h0f1, .int h0f2, .int h0f3, .int h0f4, .int h0f5, .ref h1, .ref h2, .int h0f8, .int h0f9, .ref h3, .ref h4, .ref h5, .ref h6, .ref h7, .ref h8, .ref h9, .int h0f17, .int h0f18, .int h0f19, .ref h10, .ref h11, .ref h12, .ref h13, .int h0f24, .int h0f25, .ref h14, .ref h15, .ref h16, .ref h17, .int h0f30, .int h0f31, .ref h18, .ref h19, .ref h20, .ref h21]), (h4, aJ (k 1) 9 anJ), (h5, aJ (k 1) 9 anJ), (h7, aJ (k 1) 4 (zJ [3]))] H)
set_option maxHeartbeats 4000000 in
set_option maxRecDepth 100000 in
theorem cX11_takesOut_ae7df (l : Launch) (D : va_G) (k : Nat → ClassId) (sz : Nat) (h0 h4 h5 h7 h1 h2 h3 h6 h8 h9 h10 h11 h12 h13 h14 h15 h16 h17 h18 h19 h20 h21 : Nat) (x1 : Int32) (x2 : Int32) (x3 : Int32) (h0f0 : Int32) (h0f1 : Int32) (h0f2 : Int32) (h0f3 : Int32) (h0f4 : Int32) (h0f5 : Int32) (h0f8 : Int32) (h0f9 : Int32) (h0f17 : Int32) (h0f18 : Int32) (h0f19 : Int32) (h0f24 : Int32) (h0f25 : Int32) (h0f30 : Int32) (h0f31 : Int32) (b_x1 : 1 ≤ x1.toInt ∧ x1.toInt ≤ 2) (b_x2 : (-1) ≤ x2.toInt ∧ x2.toInt ≤ 1) (b_x3 : (-1) ≤ x3.toInt ∧ x3.toInt ≤ 1) (b_h0f0 : 1 ≤ h0f0.toInt ∧ h0f0.toInt ≤ 3) (b_h0f1 : 1 ≤ h0f1.toInt ∧ h0f1.toInt ≤ 4) (b_h0f3 : 0 ≤ h0f3.toInt ∧ h0f3.toInt ≤ 3) (b_h0f4 : 0 ≤ h0f4.toInt ∧ h0f4.toInt ≤ 4) (b_h0f8 : 0 ≤ h0f8.toInt ∧ h0f8.toInt ≤ 1) (b_h0f9 : 0 ≤ h0f9.toInt ∧ h0f9.toInt ≤ 1) (b_h0f17 : 0 ≤ h0f17.toInt ∧ h0f17.toInt ≤ 120) (b_h0f18 : 0 ≤ h0f18.toInt ∧ h0f18.toInt ≤ 120) (b_h0f19 : 0 ≤ h0f19.toInt ∧ h0f19.toInt ≤ 4) (b_h0f24 : 0 ≤ h0f24.toInt ∧ h0f24.toInt ≤ 100) (b_h0f25 : 0 ≤ h0f25.toInt ∧ h0f25.toInt ≤ 1) (b_h0f30 : 0 ≤ h0f30.toInt ∧ h0f30.toInt ≤ 60) (b_h0f31 : 0 ≤ h0f31.toInt ∧ h0f31.toInt ≤ 1) (i_0 : h0f8.toInt ≤ h0f3.toInt) (i_1 : h0f9.toInt ≤ h0f24.toInt) : Met l yX11_takesOut (Cond.code yX11_takesOut cX11_takesOut 8 (some .boolean) :: uw) Rm_cX11_takesOut_ae7df (pT D k sz [.ref h0, .int x1, .int x2, .int x3] [(h0, ob 8 [.int h0f0, .int h0f1, .int h0f2, .int h0f3, .int h0f4, .int h0f5, .ref h1, .ref h2, .int h0f8, .int h0f9, .ref h3, .ref h4, .ref h5, .ref h6, .ref h7, .ref h8, .ref h9, .int h0f17, .int h0f18, .int h0f19, .ref h10, .ref h11, .ref h12, .ref h13, .int h0f24, .int h0f25, .ref h14, .ref h15, .ref h16, .ref h17, .int h0f30, .int h0f31, .ref h18, .ref h19, .ref h20, .ref h21]), (h4, aJ (k 1) 9 anJ), (h5, aJ (k 1) 9 anJ), (h7, aJ (k 1) 4 anJ)]) (qI (B_cX11_takesOut_ae7df D k h0 h4 h5 h7 h1 h2 h3 h6 h8 h9 h10 h11 h12 h13 h14 h15 h16 h17 h18 h19 h20 h21 x1 x2 x3 h0f0 h0f1 h0f2 h0f3 h0f4 h0f5 h0f8 h0f9 h0f17 h0f18 h0f19 h0f24 h0f25 h0f30 h0f31 (zA [h0, h4, h5, h7] sz)) (zA [h0, h4, h5, h7] sz)) 0 0 (zA [h0, h4, h5, h7] sz) := by
  refine tz_begin (as := [h0, h4, h5, h7]) (Qc := fun A => qI (B_cX11_takesOut_ae7df D k h0 h4 h5 h7 h1 h2 h3 h6 h8 h9 h10 h11 h12 h13 h14 h15 h16 h17 h18 h19 h20 h21 x1 x2 x3 h0f0 h0f1 h0f2 h0f3 h0f4 h0f5 h0f8 h0f9 h0f17 h0f18 h0f19 h0f24 h0f25 h0f30 h0f31 A) A) (by decide +kernel) rfl (Nat.le_of_ble_eq_true rfl) ?_
  intro p e s m args below meth c ls A Q hx hb hr hml hown hlocks hin hU hK hT hS hA hl hQ
  have hl : lv_has ls 8 [(0, .ref h0), (1, .int x1), (2, .int x2), (3, .int x3)] := hl
  have hT : TP D A [(h0, ob 8 [.int h0f0, .int h0f1, .int h0f2, .int h0f3, .int h0f4, .int h0f5, .ref h1, .ref h2, .int h0f8, .int h0f9, .ref h3, .ref h4, .ref h5, .ref h6, .ref h7, .ref h8, .ref h9, .int h0f17, .int h0f18, .int h0f19, .ref h10, .ref h11, .ref h12, .ref h13, .int h0f24, .int h0f25, .ref h14, .ref h15, .ref h16, .ref h17, .int h0f30, .int h0f31, .ref h18, .ref h19, .ref h20, .ref h21]), (h4, aJ (k 1) 9 anJ), (h5, aJ (k 1) 9 anJ), (h7, aJ (k 1) 4 anJ)] s.heap := hT
  rcases (show x1.toInt = 1 ∨ x1.toInt = 2 by omega) with hq1 | hq1
  · skip
    refine lv_iconst (v := 3) hx hb dX11_takesOut_0 (by decide) ?_
    refine lv_istore (lv' := [(4, .int 3), (0, .ref h0), (1, .int x1), (2, .int x2), (3, .int x3)]) hx hb dX11_takesOut_1 hl (by decide) rfl (fun ls hl => ?_)
    refine lv_iload hx hb dX11_takesOut_3 (lv_at hl 0 rfl) ?_
    refine lv_if_le (tgt := 26) hx hb dX11_takesOut_5 (by decide) (fun cc => absurd cc (by decide +kernel)) (fun _ => ?_)
    refine lv_aload_n hx hb dX11_takesOut_8 rfl (lv_at hl 1 rfl) ?_
    refine tz_get (ci := 8) (v := .ref h7) (C := RX11) (F := TX11) (N := 36) hx hb hU iX11 hown hK hT 0 rfl rfl 14 (by decide) w799 (fun _ h9 => h9) rfl dX11_takesOut_9 ?_
    refine lv_iload hx hb dX11_takesOut_12 (lv_at hl 0 rfl) ?_
    refine tz_lald hx hb hK hT 3 rfl (by have := li_3; omega) dX11_takesOut_14 (fun v2 e_v2 => ?_)
    clear e_v2
    refine lv_lconst (v := 0) hx hb dX11_takesOut_15 (by decide) ?_
    refine W.lcmp hx hb dX11_takesOut_16 ?_
    refine lv_if_ne (tgt := 26) hx hb dX11_takesOut_17 (by decide) (fun c_3 => ?_) (fun c_3 => ?_)
    · skip
      have c_3 := nl_ne c_3 rfl ll_0
      refine lv_iload hx hb dX11_takesOut_26 (lv_at hl 0 rfl) ?_
      refine lv_iload_n hx hb dX11_takesOut_28 rfl (lv_at hl 2 rfl) ?_
      refine lv_icmp_ge (tgt := 34) hx hb dX11_takesOut_29 (by decide) (fun c_4 => ?_) (fun c_4 => ?_)
      · skip
        have c_4 := ni_le c_4 hq1 li_3
        refine lv_iconst (v := 0) hx hb dX11_takesOut_34 (by decide) ?_
        refine lv_istore (lv' := [(5, .int 0), (4, .int 3), (0, .ref h0), (1, .int x1), (2, .int x2), (3, .int x3)]) hx hb dX11_takesOut_35 hl (by decide) rfl (fun ls hl => ?_)
        refine lv_iload hx hb dX11_takesOut_37 (lv_at hl 0 rfl) ?_
        refine lv_iconst (v := 4) hx hb dX11_takesOut_39 (by decide) ?_
        refine lv_icmp_ge (tgt := 71) hx hb dX11_takesOut_40 (by decide) (fun cc => absurd cc (by decide +kernel)) (fun _ => ?_)
        refine lv_aload_n hx hb dX11_takesOut_43 rfl (lv_at hl 2 rfl) ?_
        refine tz_get (ci := 8) (v := .ref h4) (C := RX11) (F := TX11) (N := 36) hx hb hU iX11 hown hK hT 0 rfl rfl 11 (by decide) w796 (fun _ h9 => h9) rfl dX11_takesOut_44 ?_
        refine lv_iload hx hb dX11_takesOut_47 (lv_at hl 0 rfl) ?_
        refine lv_aload_n hx hb dX11_takesOut_49 rfl (lv_at hl 2 rfl) ?_
        refine tz_get (ci := 8) (v := .ref h7) (C := RX11) (F := TX11) (N := 36) hx hb hU iX11 hown hK hT 0 rfl rfl 14 (by decide) w799 (fun _ h9 => h9) rfl dX11_takesOut_50 ?_
        refine lv_iload hx hb dX11_takesOut_53 (lv_at hl 0 rfl) ?_
        refine tz_lald hx hb hK hT 3 rfl (by have := li_0; omega) dX11_takesOut_55 (fun v5 e_v5 => ?_)
        clear e_v5
        have hT := hT.wk (q := 1) rfl (z_of (c := k 1) (n := 9))
        have hT : TP D A [(h0, ob 8 [.int h0f0, .int h0f1, .int h0f2, .int h0f3, .int h0f4, .int h0f5, .ref h1, .ref h2, .int h0f8, .int h0f9, .ref h3, .ref h4, .ref h5, .ref h6, .ref h7, .ref h8, .ref h9, .int h0f17, .int h0f18, .int h0f19, .ref h10, .ref h11, .ref h12, .ref h13, .int h0f24, .int h0f25, .ref h14, .ref h15, .ref h16, .ref h17, .int h0f30, .int h0f31, .ref h18, .ref h19, .ref h20, .ref h21]), (h4, aJ (k 1) 9 (zJ [])), (h5, aJ (k 1) 9 anJ), (h7, aJ (k 1) 4 anJ)] _ := hT
        refine tz_lastP hx hb hK hT hS 1 (zJ []) rfl (by have := li_0; omega) (z_putx (z := 0) li_0 (by decide)) dX11_takesOut_56 (fun H locs hT hS => ?_)
        have hT : TP D A [(h0, ob 8 [.int h0f0, .int h0f1, .int h0f2, .int h0f3, .int h0f4, .int h0f5, .ref h1, .ref h2, .int h0f8, .int h0f9, .ref h3, .ref h4, .ref h5, .ref h6, .ref h7, .ref h8, .ref h9, .int h0f17, .int h0f18, .int h0f19, .ref h10, .ref h11, .ref h12, .ref h13, .int h0f24, .int h0f25, .ref h14, .ref h15, .ref h16, .ref h17, .int h0f30, .int h0f31, .ref h18, .ref h19, .ref h20, .ref h21]), (h4, aJ (k 1) 9 (zJ [])), (h5, aJ (k 1) 9 anJ), (h7, aJ (k 1) 4 anJ)] _ := hT
        refine lv_aload_n hx hb dX11_takesOut_57 rfl (lv_at hl 2 rfl) ?_
        refine tz_get (ci := 8) (v := .ref h5) (C := RX11) (F := TX11) (N := 36) hx hb hU iX11 hown hK hT 0 rfl rfl 12 (by decide) w797 (fun _ h9 => h9) rfl dX11_takesOut_58 ?_
        refine lv_iload hx hb dX11_takesOut_61 (lv_at hl 0 rfl) ?_
        refine lv_lconst (v := 0) hx hb dX11_takesOut_63 (by decide) ?_
        have hT := hT.wk (q := 2) rfl (z_of (c := k 1) (n := 9))
        have hT : TP D A [(h0, ob 8 [.int h0f0, .int h0f1, .int h0f2, .int h0f3, .int h0f4, .int h0f5, .ref h1, .ref h2, .int h0f8, .int h0f9, .ref h3, .ref h4, .ref h5, .ref h6, .ref h7, .ref h8, .ref h9, .int h0f17, .int h0f18, .int h0f19, .ref h10, .ref h11, .ref h12, .ref h13, .int h0f24, .int h0f25, .ref h14, .ref h15, .ref h16, .ref h17, .int h0f30, .int h0f31, .ref h18, .ref h19, .ref h20, .ref h21]), (h4, aJ (k 1) 9 (zJ [])), (h5, aJ (k 1) 9 (zJ [])), (h7, aJ (k 1) 4 anJ)] _ := hT
        refine tz_lastP hx hb hK hT hS 2 (zJ [0]) rfl (by have := li_0; omega) (z_put0 (z := 0) li_0 (by decide)) dX11_takesOut_64 (fun H locs hT hS => ?_)
        have hT : TP D A [(h0, ob 8 [.int h0f0, .int h0f1, .int h0f2, .int h0f3, .int h0f4, .int h0f5, .ref h1, .ref h2, .int h0f8, .int h0f9, .ref h3, .ref h4, .ref h5, .ref h6, .ref h7, .ref h8, .ref h9, .int h0f17, .int h0f18, .int h0f19, .ref h10, .ref h11, .ref h12, .ref h13, .int h0f24, .int h0f25, .ref h14, .ref h15, .ref h16, .ref h17, .int h0f30, .int h0f31, .ref h18, .ref h19, .ref h20, .ref h21]), (h4, aJ (k 1) 9 (zJ [])), (h5, aJ (k 1) 9 (zJ [0])), (h7, aJ (k 1) 4 anJ)] _ := hT
        refine lv_iinc (v := 1) (lv' := [(5, .int 1), (4, .int 3), (0, .ref h0), (1, .int x1), (2, .int x2), (3, .int x3)]) hx hb dX11_takesOut_65 hl (k := 0) rfl (by decide) (by decide) rfl (fun ls hl => ?_)
        refine lv_goto (tgt := 37) hx hb dX11_takesOut_68 (by decide) ?_
        refine lv_iload hx hb dX11_takesOut_37 (lv_at hl 0 rfl) ?_
        refine lv_iconst (v := 4) hx hb dX11_takesOut_39 (by decide) ?_
        refine lv_icmp_ge (tgt := 71) hx hb dX11_takesOut_40 (by decide) (fun cc => absurd cc (by decide +kernel)) (fun _ => ?_)
        refine lv_aload_n hx hb dX11_takesOut_43 rfl (lv_at hl 2 rfl) ?_
        refine tz_get (ci := 8) (v := .ref h4) (C := RX11) (F := TX11) (N := 36) hx hb hU iX11 hown hK hT 0 rfl rfl 11 (by decide) w796 (fun _ h9 => h9) rfl dX11_takesOut_44 ?_
        refine lv_iload hx hb dX11_takesOut_47 (lv_at hl 0 rfl) ?_
        refine lv_aload_n hx hb dX11_takesOut_49 rfl (lv_at hl 2 rfl) ?_
        refine tz_get (ci := 8) (v := .ref h7) (C := RX11) (F := TX11) (N := 36) hx hb hU iX11 hown hK hT 0 rfl rfl 14 (by decide) w799 (fun _ h9 => h9) rfl dX11_takesOut_50 ?_
        refine lv_iload hx hb dX11_takesOut_53 (lv_at hl 0 rfl) ?_
        refine tz_lald hx hb hK hT 3 rfl (by have := li_1; omega) dX11_takesOut_55 (fun v6 e_v6 => ?_)
        clear e_v6
        refine tz_lastP hx hb hK hT hS 1 (zJ []) rfl (by have := li_1; omega) (z_putx (z := 1) li_1 (by decide)) dX11_takesOut_56 (fun H locs hT hS => ?_)
        have hT : TP D A [(h0, ob 8 [.int h0f0, .int h0f1, .int h0f2, .int h0f3, .int h0f4, .int h0f5, .ref h1, .ref h2, .int h0f8, .int h0f9, .ref h3, .ref h4, .ref h5, .ref h6, .ref h7, .ref h8, .ref h9, .int h0f17, .int h0f18, .int h0f19, .ref h10, .ref h11, .ref h12, .ref h13, .int h0f24, .int h0f25, .ref h14, .ref h15, .ref h16, .ref h17, .int h0f30, .int h0f31, .ref h18, .ref h19, .ref h20, .ref h21]), (h4, aJ (k 1) 9 (zJ [])), (h5, aJ (k 1) 9 (zJ [0])), (h7, aJ (k 1) 4 anJ)] _ := hT
        refine lv_aload_n hx hb dX11_takesOut_57 rfl (lv_at hl 2 rfl) ?_
        refine tz_get (ci := 8) (v := .ref h5) (C := RX11) (F := TX11) (N := 36) hx hb hU iX11 hown hK hT 0 rfl rfl 12 (by decide) w797 (fun _ h9 => h9) rfl dX11_takesOut_58 ?_
        refine lv_iload hx hb dX11_takesOut_61 (lv_at hl 0 rfl) ?_
        refine lv_lconst (v := 0) hx hb dX11_takesOut_63 (by decide) ?_
        refine tz_lastP hx hb hK hT hS 2 (zJ [0, 1]) rfl (by have := li_1; omega) (z_put0 (z := 1) li_1 (by decide)) dX11_takesOut_64 (fun H locs hT hS => ?_)
        have hT : TP D A [(h0, ob 8 [.int h0f0, .int h0f1, .int h0f2, .int h0f3, .int h0f4, .int h0f5, .ref h1, .ref h2, .int h0f8, .int h0f9, .ref h3, .ref h4, .ref h5, .ref h6, .ref h7, .ref h8, .ref h9, .int h0f17, .int h0f18, .int h0f19, .ref h10, .ref h11, .ref h12, .ref h13, .int h0f24, .int h0f25, .ref h14, .ref h15, .ref h16, .ref h17, .int h0f30, .int h0f31, .ref h18, .ref h19, .ref h20, .ref h21]), (h4, aJ (k 1) 9 (zJ [])), (h5, aJ (k 1) 9 (zJ [0, 1])), (h7, aJ (k 1) 4 anJ)] _ := hT
        refine lv_iinc (v := 2) (lv' := [(5, .int 2), (4, .int 3), (0, .ref h0), (1, .int x1), (2, .int x2), (3, .int x3)]) hx hb dX11_takesOut_65 hl (k := 0) rfl (by decide) (by decide) rfl (fun ls hl => ?_)
        refine lv_goto (tgt := 37) hx hb dX11_takesOut_68 (by decide) ?_
        refine lv_iload hx hb dX11_takesOut_37 (lv_at hl 0 rfl) ?_
        refine lv_iconst (v := 4) hx hb dX11_takesOut_39 (by decide) ?_
        refine lv_icmp_ge (tgt := 71) hx hb dX11_takesOut_40 (by decide) (fun cc => absurd cc (by decide +kernel)) (fun _ => ?_)
        refine lv_aload_n hx hb dX11_takesOut_43 rfl (lv_at hl 2 rfl) ?_
        refine tz_get (ci := 8) (v := .ref h4) (C := RX11) (F := TX11) (N := 36) hx hb hU iX11 hown hK hT 0 rfl rfl 11 (by decide) w796 (fun _ h9 => h9) rfl dX11_takesOut_44 ?_
        refine lv_iload hx hb dX11_takesOut_47 (lv_at hl 0 rfl) ?_
        refine lv_aload_n hx hb dX11_takesOut_49 rfl (lv_at hl 2 rfl) ?_
        refine tz_get (ci := 8) (v := .ref h7) (C := RX11) (F := TX11) (N := 36) hx hb hU iX11 hown hK hT 0 rfl rfl 14 (by decide) w799 (fun _ h9 => h9) rfl dX11_takesOut_50 ?_
        refine lv_iload hx hb dX11_takesOut_53 (lv_at hl 0 rfl) ?_
        refine tz_lald hx hb hK hT 3 rfl (by have := li_2; omega) dX11_takesOut_55 (fun v7 e_v7 => ?_)
        clear e_v7
        refine tz_lastP hx hb hK hT hS 1 (zJ []) rfl (by have := li_2; omega) (z_putx (z := 2) li_2 (by decide)) dX11_takesOut_56 (fun H locs hT hS => ?_)
        have hT : TP D A [(h0, ob 8 [.int h0f0, .int h0f1, .int h0f2, .int h0f3, .int h0f4, .int h0f5, .ref h1, .ref h2, .int h0f8, .int h0f9, .ref h3, .ref h4, .ref h5, .ref h6, .ref h7, .ref h8, .ref h9, .int h0f17, .int h0f18, .int h0f19, .ref h10, .ref h11, .ref h12, .ref h13, .int h0f24, .int h0f25, .ref h14, .ref h15, .ref h16, .ref h17, .int h0f30, .int h0f31, .ref h18, .ref h19, .ref h20, .ref h21]), (h4, aJ (k 1) 9 (zJ [])), (h5, aJ (k 1) 9 (zJ [0, 1])), (h7, aJ (k 1) 4 anJ)] _ := hT
        refine lv_aload_n hx hb dX11_takesOut_57 rfl (lv_at hl 2 rfl) ?_
        refine tz_get (ci := 8) (v := .ref h5) (C := RX11) (F := TX11) (N := 36) hx hb hU iX11 hown hK hT 0 rfl rfl 12 (by decide) w797 (fun _ h9 => h9) rfl dX11_takesOut_58 ?_
        refine lv_iload hx hb dX11_takesOut_61 (lv_at hl 0 rfl) ?_
        refine lv_lconst (v := 0) hx hb dX11_takesOut_63 (by decide) ?_
        refine tz_lastP hx hb hK hT hS 2 (zJ [0, 1, 2]) rfl (by have := li_2; omega) (z_put0 (z := 2) li_2 (by decide)) dX11_takesOut_64 (fun H locs hT hS => ?_)
        have hT : TP D A [(h0, ob 8 [.int h0f0, .int h0f1, .int h0f2, .int h0f3, .int h0f4, .int h0f5, .ref h1, .ref h2, .int h0f8, .int h0f9, .ref h3, .ref h4, .ref h5, .ref h6, .ref h7, .ref h8, .ref h9, .int h0f17, .int h0f18, .int h0f19, .ref h10, .ref h11, .ref h12, .ref h13, .int h0f24, .int h0f25, .ref h14, .ref h15, .ref h16, .ref h17, .int h0f30, .int h0f31, .ref h18, .ref h19, .ref h20, .ref h21]), (h4, aJ (k 1) 9 (zJ [])), (h5, aJ (k 1) 9 (zJ [0, 1, 2])), (h7, aJ (k 1) 4 anJ)] _ := hT
        refine lv_iinc (v := 3) (lv' := [(5, .int 3), (4, .int 3), (0, .ref h0), (1, .int x1), (2, .int x2), (3, .int x3)]) hx hb dX11_takesOut_65 hl (k := 0) rfl (by decide) (by decide) rfl (fun ls hl => ?_)
        refine lv_goto (tgt := 37) hx hb dX11_takesOut_68 (by decide) ?_
        refine lv_iload hx hb dX11_takesOut_37 (lv_at hl 0 rfl) ?_
        refine lv_iconst (v := 4) hx hb dX11_takesOut_39 (by decide) ?_
        refine lv_icmp_ge (tgt := 71) hx hb dX11_takesOut_40 (by decide) (fun cc => absurd cc (by decide +kernel)) (fun _ => ?_)
        refine lv_aload_n hx hb dX11_takesOut_43 rfl (lv_at hl 2 rfl) ?_
        refine tz_get (ci := 8) (v := .ref h4) (C := RX11) (F := TX11) (N := 36) hx hb hU iX11 hown hK hT 0 rfl rfl 11 (by decide) w796 (fun _ h9 => h9) rfl dX11_takesOut_44 ?_
        refine lv_iload hx hb dX11_takesOut_47 (lv_at hl 0 rfl) ?_
        refine lv_aload_n hx hb dX11_takesOut_49 rfl (lv_at hl 2 rfl) ?_
        refine tz_get (ci := 8) (v := .ref h7) (C := RX11) (F := TX11) (N := 36) hx hb hU iX11 hown hK hT 0 rfl rfl 14 (by decide) w799 (fun _ h9 => h9) rfl dX11_takesOut_50 ?_
        refine lv_iload hx hb dX11_takesOut_53 (lv_at hl 0 rfl) ?_
        refine tz_lald hx hb hK hT 3 rfl (by have := li_3; omega) dX11_takesOut_55 (fun v8 e_v8 => ?_)
        clear e_v8
        refine tz_lastP hx hb hK hT hS 1 (zJ []) rfl (by have := li_3; omega) (z_putx (z := 3) li_3 (by decide)) dX11_takesOut_56 (fun H locs hT hS => ?_)
        have hT : TP D A [(h0, ob 8 [.int h0f0, .int h0f1, .int h0f2, .int h0f3, .int h0f4, .int h0f5, .ref h1, .ref h2, .int h0f8, .int h0f9, .ref h3, .ref h4, .ref h5, .ref h6, .ref h7, .ref h8, .ref h9, .int h0f17, .int h0f18, .int h0f19, .ref h10, .ref h11, .ref h12, .ref h13, .int h0f24, .int h0f25, .ref h14, .ref h15, .ref h16, .ref h17, .int h0f30, .int h0f31, .ref h18, .ref h19, .ref h20, .ref h21]), (h4, aJ (k 1) 9 (zJ [])), (h5, aJ (k 1) 9 (zJ [0, 1, 2])), (h7, aJ (k 1) 4 anJ)] _ := hT
        refine lv_aload_n hx hb dX11_takesOut_57 rfl (lv_at hl 2 rfl) ?_
        refine tz_get (ci := 8) (v := .ref h5) (C := RX11) (F := TX11) (N := 36) hx hb hU iX11 hown hK hT 0 rfl rfl 12 (by decide) w797 (fun _ h9 => h9) rfl dX11_takesOut_58 ?_
        refine lv_iload hx hb dX11_takesOut_61 (lv_at hl 0 rfl) ?_
        refine lv_lconst (v := 0) hx hb dX11_takesOut_63 (by decide) ?_
        refine tz_lastP hx hb hK hT hS 2 (zJ [0, 1, 2, 3]) rfl (by have := li_3; omega) (z_put0 (z := 3) li_3 (by decide)) dX11_takesOut_64 (fun H locs hT hS => ?_)
        have hT : TP D A [(h0, ob 8 [.int h0f0, .int h0f1, .int h0f2, .int h0f3, .int h0f4, .int h0f5, .ref h1, .ref h2, .int h0f8, .int h0f9, .ref h3, .ref h4, .ref h5, .ref h6, .ref h7, .ref h8, .ref h9, .int h0f17, .int h0f18, .int h0f19, .ref h10, .ref h11, .ref h12, .ref h13, .int h0f24, .int h0f25, .ref h14, .ref h15, .ref h16, .ref h17, .int h0f30, .int h0f31, .ref h18, .ref h19, .ref h20, .ref h21]), (h4, aJ (k 1) 9 (zJ [])), (h5, aJ (k 1) 9 (zJ [0, 1, 2, 3])), (h7, aJ (k 1) 4 anJ)] _ := hT
        refine lv_iinc (v := 4) (lv' := [(5, .int 4), (4, .int 3), (0, .ref h0), (1, .int x1), (2, .int x2), (3, .int x3)]) hx hb dX11_takesOut_65 hl (k := 0) rfl (by decide) (by decide) rfl (fun ls hl => ?_)
        refine lv_goto (tgt := 37) hx hb dX11_takesOut_68 (by decide) ?_
        refine lv_iload hx hb dX11_takesOut_37 (lv_at hl 0 rfl) ?_
        refine lv_iconst (v := 4) hx hb dX11_takesOut_39 (by decide) ?_
        refine lv_icmp_ge (tgt := 71) hx hb dX11_takesOut_40 (by decide) (fun _ => ?_) (fun cc => absurd (by decide +kernel) cc)
        refine lv_iload hx hb dX11_takesOut_71 (lv_at hl 1 rfl) ?_
        refine lv_istore (lv' := [(5, .int 3), (4, .int 3), (0, .ref h0), (1, .int x1), (2, .int x2), (3, .int x3)]) hx hb dX11_takesOut_73 hl (by decide) rfl (fun ls hl => ?_)
        refine lv_iload hx hb dX11_takesOut_75 (lv_at hl 0 rfl) ?_
        refine lv_iload_n hx hb dX11_takesOut_77 rfl (lv_at hl 3 rfl) ?_
        refine lv_icmp_lt (tgt := 154) hx hb dX11_takesOut_78 (by decide) (fun c_9 => ?_) (fun c_9 => ?_)
        · skip
          have c_9 := ni_lt c_9 li_3 hq1
          exfalso; omega
        · skip
          have c_9 := ni_nlt c_9 li_3 hq1
          refine lv_aload_n hx hb dX11_takesOut_81 rfl (lv_at hl 2 rfl) ?_
          refine tz_get (ci := 8) (v := .ref h4) (C := RX11) (F := TX11) (N := 36) hx hb hU iX11 hown hK hT 0 rfl rfl 11 (by decide) w796 (fun _ h9 => h9) rfl dX11_takesOut_82 ?_
          refine lv_iload hx hb dX11_takesOut_85 (lv_at hl 0 rfl) ?_
          refine tz_lald hx hb hK hT 1 rfl (by have := li_3; omega) dX11_takesOut_87 (fun v10 e_v10 => ?_)
          clear e_v10
          refine lv_lstore (lv' := [(6, .long v10), (5, .int 3), (4, .int 3), (0, .ref h0), (1, .int x1), (2, .int x2), (3, .int x3)]) hx hb dX11_takesOut_88 hl (by decide) rfl (fun ls hl => ?_)
          refine lv_aload_n hx hb dX11_takesOut_90 rfl (lv_at hl 3 rfl) ?_
          refine tz_get (ci := 8) (v := .ref h5) (C := RX11) (F := TX11) (N := 36) hx hb hU iX11 hown hK hT 0 rfl rfl 12 (by decide) w797 (fun _ h9 => h9) rfl dX11_takesOut_91 ?_
          refine lv_iload hx hb dX11_takesOut_94 (lv_at hl 1 rfl) ?_
          refine lv_iload_n hx hb dX11_takesOut_96 rfl (lv_at hl 4 rfl) ?_
          refine lv_isub hx hb dX11_takesOut_97 (lv_topi (fun v11 e_v11 => ?_))
          have e_v11 := ai_sub e_v11 li_3 hq1 (by omega)
          refine lv_lload hx hb dX11_takesOut_98 (lv_at hl 0 rfl) ?_
          refine tz_lastP hx hb hK hT hS 2 (zJ [0, 1, 3]) rfl (by omega) (z_putx (z := 2) (show v11.toInt = 2 by omega) (by decide)) dX11_takesOut_100 (fun H locs hT hS => ?_)
          have hT : TP D A [(h0, ob 8 [.int h0f0, .int h0f1, .int h0f2, .int h0f3, .int h0f4, .int h0f5, .ref h1, .ref h2, .int h0f8, .int h0f9, .ref h3, .ref h4, .ref h5, .ref h6, .ref h7, .ref h8, .ref h9, .int h0f17, .int h0f18, .int h0f19, .ref h10, .ref h11, .ref h12, .ref h13, .int h0f24, .int h0f25, .ref h14, .ref h15, .ref h16, .ref h17, .int h0f30, .int h0f31, .ref h18, .ref h19, .ref h20, .ref h21]), (h4, aJ (k 1) 9 (zJ [])), (h5, aJ (k 1) 9 (zJ [0, 1, 3])), (h7, aJ (k 1) 4 anJ)] _ := hT
          refine lv_aload_n hx hb dX11_takesOut_101 rfl (lv_at hl 3 rfl) ?_
          refine tz_get (ci := 8) (v := .ref h4) (C := RX11) (F := TX11) (N := 36) hx hb hU iX11 hown hK hT 0 rfl rfl 11 (by decide) w796 (fun _ h9 => h9) rfl dX11_takesOut_102 ?_
          refine lv_iload hx hb dX11_takesOut_105 (lv_at hl 1 rfl) ?_
          refine lv_iload_n hx hb dX11_takesOut_107 rfl (lv_at hl 4 rfl) ?_
          refine lv_isub hx hb dX11_takesOut_108 (lv_topi (fun v12 e_v12 => ?_))
          have e_v12 := ai_sub e_v12 li_3 hq1 (by omega)
          refine lv_dup2_11 hx hb dX11_takesOut_109 rfl rfl ?_
          refine tz_lald hx hb hK hT 1 rfl (by omega) dX11_takesOut_110 (fun v13 e_v13 => ?_)
          clear e_v13
          refine lv_lload hx hb dX11_takesOut_111 (lv_at hl 0 rfl) ?_
          refine lv_iload_n hx hb dX11_takesOut_113 rfl (lv_at hl 5 rfl) ?_
          obtain ⟨v14, e_v14⟩ : ∃ x : Int64, x2.toInt64 = x := ⟨_, rfl⟩
          refine lv_i2l (v := v14) hx hb dX11_takesOut_114 e_v14 ?_
          have e_v14 := ai_i2l e_v14 rfl
          refine lv_lmul hx hb dX11_takesOut_115 (lv_topl (fun v15 e_v15 => ?_))
          refine lv_lsub hx hb dX11_takesOut_116 (lv_topl (fun v16 e_v16 => ?_))
          refine tz_lastP hx hb hK hT hS 1 (zJ []) rfl (by omega) (z_putx (z := 2) (show v12.toInt = 2 by omega) (by decide)) dX11_takesOut_117 (fun H locs hT hS => ?_)
          have hT : TP D A [(h0, ob 8 [.int h0f0, .int h0f1, .int h0f2, .int h0f3, .int h0f4, .int h0f5, .ref h1, .ref h2, .int h0f8, .int h0f9, .ref h3, .ref h4, .ref h5, .ref h6, .ref h7, .ref h8, .ref h9, .int h0f17, .int h0f18, .int h0f19, .ref h10, .ref h11, .ref h12, .ref h13, .int h0f24, .int h0f25, .ref h14, .ref h15, .ref h16, .ref h17, .int h0f30, .int h0f31, .ref h18, .ref h19, .ref h20, .ref h21]), (h4, aJ (k 1) 9 (zJ [])), (h5, aJ (k 1) 9 (zJ [0, 1, 3])), (h7, aJ (k 1) 4 anJ)] _ := hT
          refine lv_iload_n hx hb dX11_takesOut_118 rfl (lv_at hl 4 rfl) ?_
          refine lv_iconst (v := 2) hx hb dX11_takesOut_119 (by decide) ?_
          refine lv_icmp_ne (tgt := 140) hx hb dX11_takesOut_120 (by decide) (fun c_17 => ?_) (fun c_17 => ?_)
          · skip
            have c_17 := ni_ne c_17 hq1 li_2
            refine lv_aload_n hx hb dX11_takesOut_140 rfl (lv_at hl 3 rfl) ?_
            refine tz_get (ci := 8) (v := .ref h4) (C := RX11) (F := TX11) (N := 36) hx hb hU iX11 hown hK hT 0 rfl rfl 11 (by decide) w796 (fun _ h9 => h9) rfl dX11_takesOut_141 ?_
            refine lv_iload hx hb dX11_takesOut_144 (lv_at hl 1 rfl) ?_
            refine lv_lconst (v := 0) hx hb dX11_takesOut_146 (by decide) ?_
            refine tz_lastP hx hb hK hT hS 1 (zJ [3]) rfl (by have := li_3; omega) (z_put0 (z := 3) li_3 (by decide)) dX11_takesOut_147 (fun H locs hT hS => ?_)
            have hT : TP D A [(h0, ob 8 [.int h0f0, .int h0f1, .int h0f2, .int h0f3, .int h0f4, .int h0f5, .ref h1, .ref h2, .int h0f8, .int h0f9, .ref h3, .ref h4, .ref h5, .ref h6, .ref h7, .ref h8, .ref h9, .int h0f17, .int h0f18, .int h0f19, .ref h10, .ref h11, .ref h12, .ref h13, .int h0f24, .int h0f25, .ref h14, .ref h15, .ref h16, .ref h17, .int h0f30, .int h0f31, .ref h18, .ref h19, .ref h20, .ref h21]), (h4, aJ (k 1) 9 (zJ [3])), (h5, aJ (k 1) 9 (zJ [0, 1, 3])), (h7, aJ (k 1) 4 anJ)] _ := hT
            refine lv_iinc (v := 2) (lv' := [(5, .int 2), (6, .long v10), (4, .int 3), (0, .ref h0), (1, .int x1), (2, .int x2), (3, .int x3)]) hx hb dX11_takesOut_148 hl (k := 1) rfl (by decide) (by decide) rfl (fun ls hl => ?_)
            refine lv_goto (tgt := 75) hx hb dX11_takesOut_151 (by decide) ?_
            refine lv_iload hx hb dX11_takesOut_75 (lv_at hl 0 rfl) ?_
            refine lv_iload_n hx hb dX11_takesOut_77 rfl (lv_at hl 4 rfl) ?_
            refine lv_icmp_lt (tgt := 154) hx hb dX11_takesOut_78 (by decide) (fun c_18 => ?_) (fun c_18 => ?_)
            · skip
              have c_18 := ni_lt c_18 li_2 hq1
              exfalso; omega
            · skip
              have c_18 := ni_nlt c_18 li_2 hq1
              refine lv_aload_n hx hb dX11_takesOut_81 rfl (lv_at hl 3 rfl) ?_
              refine tz_get (ci := 8) (v := .ref h4) (C := RX11) (F := TX11) (N := 36) hx hb hU iX11 hown hK hT 0 rfl rfl 11 (by decide) w796 (fun _ h9 => h9) rfl dX11_takesOut_82 ?_
              refine lv_iload hx hb dX11_takesOut_85 (lv_at hl 0 rfl) ?_
              refine tz_lald hx hb hK hT 1 rfl (by have := li_2; omega) dX11_takesOut_87 (fun v19 e_v19 => ?_)
              clear e_v19
              refine lv_lstore (lv' := [(6, .long v19), (5, .int 2), (4, .int 3), (0, .ref h0), (1, .int x1), (2, .int x2), (3, .int x3)]) hx hb dX11_takesOut_88 hl (by decide) rfl (fun ls hl => ?_)
              refine lv_aload_n hx hb dX11_takesOut_90 rfl (lv_at hl 3 rfl) ?_
              refine tz_get (ci := 8) (v := .ref h5) (C := RX11) (F := TX11) (N := 36) hx hb hU iX11 hown hK hT 0 rfl rfl 12 (by decide) w797 (fun _ h9 => h9) rfl dX11_takesOut_91 ?_
              refine lv_iload hx hb dX11_takesOut_94 (lv_at hl 1 rfl) ?_
              refine lv_iload_n hx hb dX11_takesOut_96 rfl (lv_at hl 4 rfl) ?_
              refine lv_isub hx hb dX11_takesOut_97 (lv_topi (fun v20 e_v20 => ?_))
              have e_v20 := ai_sub e_v20 li_2 hq1 (by omega)
              refine lv_lload hx hb dX11_takesOut_98 (lv_at hl 0 rfl) ?_
              refine tz_lastP hx hb hK hT hS 2 (zJ [0, 3]) rfl (by omega) (z_putx (z := 1) (show v20.toInt = 1 by omega) (by decide)) dX11_takesOut_100 (fun H locs hT hS => ?_)
              have hT : TP D A [(h0, ob 8 [.int h0f0, .int h0f1, .int h0f2, .int h0f3, .int h0f4, .int h0f5, .ref h1, .ref h2, .int h0f8, .int h0f9, .ref h3, .ref h4, .ref h5, .ref h6, .ref h7, .ref h8, .ref h9, .int h0f17, .int h0f18, .int h0f19, .ref h10, .ref h11, .ref h12, .ref h13, .int h0f24, .int h0f25, .ref h14, .ref h15, .ref h16, .ref h17, .int h0f30, .int h0f31, .ref h18, .ref h19, .ref h20, .ref h21]), (h4, aJ (k 1) 9 (zJ [3])), (h5, aJ (k 1) 9 (zJ [0, 3])), (h7, aJ (k 1) 4 anJ)] _ := hT
              refine lv_aload_n hx hb dX11_takesOut_101 rfl (lv_at hl 3 rfl) ?_
              refine tz_get (ci := 8) (v := .ref h4) (C := RX11) (F := TX11) (N := 36) hx hb hU iX11 hown hK hT 0 rfl rfl 11 (by decide) w796 (fun _ h9 => h9) rfl dX11_takesOut_102 ?_
              refine lv_iload hx hb dX11_takesOut_105 (lv_at hl 1 rfl) ?_
              refine lv_iload_n hx hb dX11_takesOut_107 rfl (lv_at hl 4 rfl) ?_
              refine lv_isub hx hb dX11_takesOut_108 (lv_topi (fun v21 e_v21 => ?_))
              have e_v21 := ai_sub e_v21 li_2 hq1 (by omega)
              refine lv_dup2_11 hx hb dX11_takesOut_109 rfl rfl ?_
              refine tz_lald hx hb hK hT 1 rfl (by omega) dX11_takesOut_110 (fun v22 e_v22 => ?_)
              clear e_v22
              refine lv_lload hx hb dX11_takesOut_111 (lv_at hl 0 rfl) ?_
              refine lv_iload_n hx hb dX11_takesOut_113 rfl (lv_at hl 5 rfl) ?_
              obtain ⟨v23, e_v23⟩ : ∃ x : Int64, x2.toInt64 = x := ⟨_, rfl⟩
              refine lv_i2l (v := v23) hx hb dX11_takesOut_114 e_v23 ?_
              have e_v23 := ai_i2l e_v23 rfl
              refine lv_lmul hx hb dX11_takesOut_115 (lv_topl (fun v24 e_v24 => ?_))
              refine lv_lsub hx hb dX11_takesOut_116 (lv_topl (fun v25 e_v25 => ?_))
              refine tz_lastP hx hb hK hT hS 1 (zJ [3]) rfl (by omega) (z_putx (z := 1) (show v21.toInt = 1 by omega) (by decide)) dX11_takesOut_117 (fun H locs hT hS => ?_)
              have hT : TP D A [(h0, ob 8 [.int h0f0, .int h0f1, .int h0f2, .int h0f3, .int h0f4, .int h0f5, .ref h1, .ref h2, .int h0f8, .int h0f9, .ref h3, .ref h4, .ref h5, .ref h6, .ref h7, .ref h8, .ref h9, .int h0f17, .int h0f18, .int h0f19, .ref h10, .ref h11, .ref h12, .ref h13, .int h0f24, .int h0f25, .ref h14, .ref h15, .ref h16, .ref h17, .int h0f30, .int h0f31, .ref h18, .ref h19, .ref h20, .ref h21]), (h4, aJ (k 1) 9 (zJ [3])), (h5, aJ (k 1) 9 (zJ [0, 3])), (h7, aJ (k 1) 4 anJ)] _ := hT
              refine lv_iload_n hx hb dX11_takesOut_118 rfl (lv_at hl 4 rfl) ?_
              refine lv_iconst (v := 2) hx hb dX11_takesOut_119 (by decide) ?_
              refine lv_icmp_ne (tgt := 140) hx hb dX11_takesOut_120 (by decide) (fun c_26 => ?_) (fun c_26 => ?_)
              · skip
                have c_26 := ni_ne c_26 hq1 li_2
                refine lv_aload_n hx hb dX11_takesOut_140 rfl (lv_at hl 3 rfl) ?_
                refine tz_get (ci := 8) (v := .ref h4) (C := RX11) (F := TX11) (N := 36) hx hb hU iX11 hown hK hT 0 rfl rfl 11 (by decide) w796 (fun _ h9 => h9) rfl dX11_takesOut_141 ?_
                refine lv_iload hx hb dX11_takesOut_144 (lv_at hl 1 rfl) ?_
                refine lv_lconst (v := 0) hx hb dX11_takesOut_146 (by decide) ?_
                refine tz_lastP hx hb hK hT hS 1 (zJ [2, 3]) rfl (by have := li_2; omega) (z_put0 (z := 2) li_2 (by decide)) dX11_takesOut_147 (fun H locs hT hS => ?_)
                have hT : TP D A [(h0, ob 8 [.int h0f0, .int h0f1, .int h0f2, .int h0f3, .int h0f4, .int h0f5, .ref h1, .ref h2, .int h0f8, .int h0f9, .ref h3, .ref h4, .ref h5, .ref h6, .ref h7, .ref h8, .ref h9, .int h0f17, .int h0f18, .int h0f19, .ref h10, .ref h11, .ref h12, .ref h13, .int h0f24, .int h0f25, .ref h14, .ref h15, .ref h16, .ref h17, .int h0f30, .int h0f31, .ref h18, .ref h19, .ref h20, .ref h21]), (h4, aJ (k 1) 9 (zJ [2, 3])), (h5, aJ (k 1) 9 (zJ [0, 3])), (h7, aJ (k 1) 4 anJ)] _ := hT
                refine lv_iinc (v := 1) (lv' := [(5, .int 1), (6, .long v19), (4, .int 3), (0, .ref h0), (1, .int x1), (2, .int x2), (3, .int x3)]) hx hb dX11_takesOut_148 hl (k := 1) rfl (by decide) (by decide) rfl (fun ls hl => ?_)
                refine lv_goto (tgt := 75) hx hb dX11_takesOut_151 (by decide) ?_
                refine lv_iload hx hb dX11_takesOut_75 (lv_at hl 0 rfl) ?_
                refine lv_iload_n hx hb dX11_takesOut_77 rfl (lv_at hl 4 rfl) ?_
                refine lv_icmp_lt (tgt := 154) hx hb dX11_takesOut_78 (by decide) (fun c_27 => ?_) (fun c_27 => ?_)
                · skip
                  have c_27 := ni_lt c_27 li_1 hq1
                  exfalso; omega
                · skip
                  have c_27 := ni_nlt c_27 li_1 hq1
                  refine lv_aload_n hx hb dX11_takesOut_81 rfl (lv_at hl 3 rfl) ?_
                  refine tz_get (ci := 8) (v := .ref h4) (C := RX11) (F := TX11) (N := 36) hx hb hU iX11 hown hK hT 0 rfl rfl 11 (by decide) w796 (fun _ h9 => h9) rfl dX11_takesOut_82 ?_
                  refine lv_iload hx hb dX11_takesOut_85 (lv_at hl 0 rfl) ?_
                  refine tz_lald hx hb hK hT 1 rfl (by have := li_1; omega) dX11_takesOut_87 (fun v28 e_v28 => ?_)
                  clear e_v28
                  refine lv_lstore (lv' := [(6, .long v28), (5, .int 1), (4, .int 3), (0, .ref h0), (1, .int x1), (2, .int x2), (3, .int x3)]) hx hb dX11_takesOut_88 hl (by decide) rfl (fun ls hl => ?_)
                  refine lv_aload_n hx hb dX11_takesOut_90 rfl (lv_at hl 3 rfl) ?_
                  refine tz_get (ci := 8) (v := .ref h5) (C := RX11) (F := TX11) (N := 36) hx hb hU iX11 hown hK hT 0 rfl rfl 12 (by decide) w797 (fun _ h9 => h9) rfl dX11_takesOut_91 ?_
                  refine lv_iload hx hb dX11_takesOut_94 (lv_at hl 1 rfl) ?_
                  refine lv_iload_n hx hb dX11_takesOut_96 rfl (lv_at hl 4 rfl) ?_
                  refine lv_isub hx hb dX11_takesOut_97 (lv_topi (fun v29 e_v29 => ?_))
                  have e_v29 := ai_sub e_v29 li_1 hq1 (by omega)
                  refine lv_lload hx hb dX11_takesOut_98 (lv_at hl 0 rfl) ?_
                  refine tz_lastP hx hb hK hT hS 2 (zJ [3]) rfl (by omega) (z_putx (z := 0) (show v29.toInt = 0 by omega) (by decide)) dX11_takesOut_100 (fun H locs hT hS => ?_)
                  have hT : TP D A [(h0, ob 8 [.int h0f0, .int h0f1, .int h0f2, .int h0f3, .int h0f4, .int h0f5, .ref h1, .ref h2, .int h0f8, .int h0f9, .ref h3, .ref h4, .ref h5, .ref h6, .ref h7, .ref h8, .ref h9, .int h0f17, .int h0f18, .int h0f19, .ref h10, .ref h11, .ref h12, .ref h13, .int h0f24, .int h0f25, .ref h14, .ref h15, .ref h16, .ref h17, .int h0f30, .int h0f31, .ref h18, .ref h19, .ref h20, .ref h21]), (h4, aJ (k 1) 9 (zJ [2, 3])), (h5, aJ (k 1) 9 (zJ [3])), (h7, aJ (k 1) 4 anJ)] _ := hT
                  refine lv_aload_n hx hb dX11_takesOut_101 rfl (lv_at hl 3 rfl) ?_
                  refine tz_get (ci := 8) (v := .ref h4) (C := RX11) (F := TX11) (N := 36) hx hb hU iX11 hown hK hT 0 rfl rfl 11 (by decide) w796 (fun _ h9 => h9) rfl dX11_takesOut_102 ?_
                  refine lv_iload hx hb dX11_takesOut_105 (lv_at hl 1 rfl) ?_
                  refine lv_iload_n hx hb dX11_takesOut_107 rfl (lv_at hl 4 rfl) ?_
                  refine lv_isub hx hb dX11_takesOut_108 (lv_topi (fun v30 e_v30 => ?_))
                  have e_v30 := ai_sub e_v30 li_1 hq1 (by omega)
                  refine lv_dup2_11 hx hb dX11_takesOut_109 rfl rfl ?_
                  refine tz_lald hx hb hK hT 1 rfl (by omega) dX11_takesOut_110 (fun v31 e_v31 => ?_)
                  clear e_v31
                  refine lv_lload hx hb dX11_takesOut_111 (lv_at hl 0 rfl) ?_
                  refine lv_iload_n hx hb dX11_takesOut_113 rfl (lv_at hl 5 rfl) ?_
                  obtain ⟨v32, e_v32⟩ : ∃ x : Int64, x2.toInt64 = x := ⟨_, rfl⟩
                  refine lv_i2l (v := v32) hx hb dX11_takesOut_114 e_v32 ?_
                  have e_v32 := ai_i2l e_v32 rfl
                  refine lv_lmul hx hb dX11_takesOut_115 (lv_topl (fun v33 e_v33 => ?_))
                  refine lv_lsub hx hb dX11_takesOut_116 (lv_topl (fun v34 e_v34 => ?_))
                  refine tz_lastP hx hb hK hT hS 1 (zJ [2, 3]) rfl (by omega) (z_putx (z := 0) (show v30.toInt = 0 by omega) (by decide)) dX11_takesOut_117 (fun H locs hT hS => ?_)
                  have hT : TP D A [(h0, ob 8 [.int h0f0, .int h0f1, .int h0f2, .int h0f3, .int h0f4, .int h0f5, .ref h1, .ref h2, .int h0f8, .int h0f9, .ref h3, .ref h4, .ref h5, .ref h6, .ref h7, .ref h8, .ref h9, .int h0f17, .int h0f18, .int h0f19, .ref h10, .ref h11, .ref h12, .ref h13, .int h0f24, .int h0f25, .ref h14, .ref h15, .ref h16, .ref h17, .int h0f30, .int h0f31, .ref h18, .ref h19, .ref h20, .ref h21]), (h4, aJ (k 1) 9 (zJ [2, 3])), (h5, aJ (k 1) 9 (zJ [3])), (h7, aJ (k 1) 4 anJ)] _ := hT
                  refine lv_iload_n hx hb dX11_takesOut_118 rfl (lv_at hl 4 rfl) ?_
                  refine lv_iconst (v := 2) hx hb dX11_takesOut_119 (by decide) ?_
                  refine lv_icmp_ne (tgt := 140) hx hb dX11_takesOut_120 (by decide) (fun c_35 => ?_) (fun c_35 => ?_)
                  · skip
                    have c_35 := ni_ne c_35 hq1 li_2
                    refine lv_aload_n hx hb dX11_takesOut_140 rfl (lv_at hl 3 rfl) ?_
                    refine tz_get (ci := 8) (v := .ref h4) (C := RX11) (F := TX11) (N := 36) hx hb hU iX11 hown hK hT 0 rfl rfl 11 (by decide) w796 (fun _ h9 => h9) rfl dX11_takesOut_141 ?_
                    refine lv_iload hx hb dX11_takesOut_144 (lv_at hl 1 rfl) ?_
                    refine lv_lconst (v := 0) hx hb dX11_takesOut_146 (by decide) ?_
                    refine tz_lastP hx hb hK hT hS 1 (zJ [1, 2, 3]) rfl (by have := li_1; omega) (z_put0 (z := 1) li_1 (by decide)) dX11_takesOut_147 (fun H locs hT hS => ?_)
                    have hT : TP D A [(h0, ob 8 [.int h0f0, .int h0f1, .int h0f2, .int h0f3, .int h0f4, .int h0f5, .ref h1, .ref h2, .int h0f8, .int h0f9, .ref h3, .ref h4, .ref h5, .ref h6, .ref h7, .ref h8, .ref h9, .int h0f17, .int h0f18, .int h0f19, .ref h10, .ref h11, .ref h12, .ref h13, .int h0f24, .int h0f25, .ref h14, .ref h15, .ref h16, .ref h17, .int h0f30, .int h0f31, .ref h18, .ref h19, .ref h20, .ref h21]), (h4, aJ (k 1) 9 (zJ [1, 2, 3])), (h5, aJ (k 1) 9 (zJ [3])), (h7, aJ (k 1) 4 anJ)] _ := hT
                    refine lv_iinc (v := 0) (lv' := [(5, .int 0), (6, .long v28), (4, .int 3), (0, .ref h0), (1, .int x1), (2, .int x2), (3, .int x3)]) hx hb dX11_takesOut_148 hl (k := 1) rfl (by decide) (by decide) rfl (fun ls hl => ?_)
                    refine lv_goto (tgt := 75) hx hb dX11_takesOut_151 (by decide) ?_
                    refine lv_iload hx hb dX11_takesOut_75 (lv_at hl 0 rfl) ?_
                    refine lv_iload_n hx hb dX11_takesOut_77 rfl (lv_at hl 4 rfl) ?_
                    refine lv_icmp_lt (tgt := 154) hx hb dX11_takesOut_78 (by decide) (fun c_36 => ?_) (fun c_36 => ?_)
                    · skip
                      have c_36 := ni_lt c_36 li_0 hq1
                      refine lv_aload_n hx hb dX11_takesOut_154 rfl (lv_at hl 3 rfl) ?_
                      refine tz_get (ci := 8) (v := .ref h4) (C := RX11) (F := TX11) (N := 36) hx hb hU iX11 hown hK hT 0 rfl rfl 11 (by decide) w796 (fun _ h9 => h9) rfl dX11_takesOut_155 ?_
                      refine lv_iconst (v := 0) hx hb dX11_takesOut_158 (by decide) ?_
                      refine tz_lald hx hb hK hT 1 rfl (by have := li_0; omega) dX11_takesOut_159 (fun v37 e_v37 => ?_)
                      clear e_v37
                      refine lv_lconst (v := 0) hx hb dX11_takesOut_160 (by decide) ?_
                      refine W.lcmp hx hb dX11_takesOut_161 ?_
                      refine lv_if_ne (tgt := 176) hx hb dX11_takesOut_162 (by decide) (fun c_38 => ?_) (fun c_38 => ?_)
                      · skip
                        have c_38 := nl_ne c_38 rfl ll_0
                        refine lv_iconst (v := 0) hx hb dX11_takesOut_176 (by decide) ?_
                        have hT := hT.wk (q := 1) rfl (an_J (c := k 1) (n := 9))
                        have hT : TP D A [(h0, ob 8 [.int h0f0, .int h0f1, .int h0f2, .int h0f3, .int h0f4, .int h0f5, .ref h1, .ref h2, .int h0f8, .int h0f9, .ref h3, .ref h4, .ref h5, .ref h6, .ref h7, .ref h8, .ref h9, .int h0f17, .int h0f18, .int h0f19, .ref h10, .ref h11, .ref h12, .ref h13, .int h0f24, .int h0f25, .ref h14, .ref h15, .ref h16, .ref h17, .int h0f30, .int h0f31, .ref h18, .ref h19, .ref h20, .ref h21]), (h4, aJ (k 1) 9 anJ), (h5, aJ (k 1) 9 (zJ [3])), (h7, aJ (k 1) 4 anJ)] _ := hT
                        have hT := hT.wk (q := 2) rfl (an_J (c := k 1) (n := 9))
                        have hT : TP D A [(h0, ob 8 [.int h0f0, .int h0f1, .int h0f2, .int h0f3, .int h0f4, .int h0f5, .ref h1, .ref h2, .int h0f8, .int h0f9, .ref h3, .ref h4, .ref h5, .ref h6, .ref h7, .ref h8, .ref h9, .int h0f17, .int h0f18, .int h0f19, .ref h10, .ref h11, .ref h12, .ref h13, .int h0f24, .int h0f25, .ref h14, .ref h15, .ref h16, .ref h17, .int h0f30, .int h0f31, .ref h18, .ref h19, .ref h20, .ref h21]), (h4, aJ (k 1) 9 anJ), (h5, aJ (k 1) 9 anJ), (h7, aJ (k 1) 4 anJ)] _ := hT
                        exact tz_retZ (B := B_cX11_takesOut_ae7df D k h0 h4 h5 h7 h1 h2 h3 h6 h8 h9 h10 h11 h12 h13 h14 h15 h16 h17 h18 h19 h20 h21 x1 x2 x3 h0f0 h0f1 h0f2 h0f3 h0f4 h0f5 h0f8 h0f9 h0f17 h0f18 h0f19 h0f24 h0f25 h0f30 h0f31) (v := 0) hQ hx hb hr hlocks hS (Nat.le_of_ble_eq_true rfl) (Nat.le_of_ble_eq_true rfl) dX11_takesOut_177 (by have := li_0; omega) (Or.inl ⟨rfl, hT⟩)
                      · skip
                        have c_38 := nl_eq c_38 rfl ll_0
                        refine lv_aload_n hx hb dX11_takesOut_165 rfl (lv_at hl 3 rfl) ?_
                        refine tz_get (ci := 8) (v := .ref h4) (C := RX11) (F := TX11) (N := 36) hx hb hU iX11 hown hK hT 0 rfl rfl 11 (by decide) w796 (fun _ h9 => h9) rfl dX11_takesOut_166 ?_
                        refine lv_iconst (v := 1) hx hb dX11_takesOut_169 (by decide) ?_
                        refine tz_lald hx hb hK hT 1 rfl (by have := li_1; omega) dX11_takesOut_170 (fun v39 e_v39 => ?_)
                        have e_v39 := z_get (z := 1) e_v39 li_1 (by decide)
                        subst e_v39
                        refine lv_lconst (v := 0) hx hb dX11_takesOut_171 (by decide) ?_
                        refine W.lcmp hx hb dX11_takesOut_172 (sv_i (v := 0) (by decide +kernel) ?_)
                        refine lv_if_eq (tgt := 178) hx hb dX11_takesOut_173 (by decide) (fun _ => ?_) (fun cc => absurd (by decide +kernel) cc)
                        refine lv_iconst (v := 0) hx hb dX11_takesOut_178 (by decide) ?_
                        refine lv_istore (lv' := [(5, .int 0), (6, .long v28), (4, .int 3), (0, .ref h0), (1, .int x1), (2, .int x2), (3, .int x3)]) hx hb dX11_takesOut_179 hl (by decide) rfl (fun ls hl => ?_)
                        refine lv_iload hx hb dX11_takesOut_181 (lv_at hl 0 rfl) ?_
                        refine lv_iconst (v := 4) hx hb dX11_takesOut_183 (by decide) ?_
                        refine lv_icmp_ge (tgt := 207) hx hb dX11_takesOut_184 (by decide) (fun cc => absurd cc (by decide +kernel)) (fun _ => ?_)
                        refine lv_aload_n hx hb dX11_takesOut_187 rfl (lv_at hl 3 rfl) ?_
                        refine tz_get (ci := 8) (v := .ref h7) (C := RX11) (F := TX11) (N := 36) hx hb hU iX11 hown hK hT 0 rfl rfl 14 (by decide) w799 (fun _ h9 => h9) rfl dX11_takesOut_188 ?_
                        refine lv_iload hx hb dX11_takesOut_191 (lv_at hl 0 rfl) ?_
                        refine lv_aload_n hx hb dX11_takesOut_193 rfl (lv_at hl 3 rfl) ?_
                        refine tz_get (ci := 8) (v := .ref h5) (C := RX11) (F := TX11) (N := 36) hx hb hU iX11 hown hK hT 0 rfl rfl 12 (by decide) w797 (fun _ h9 => h9) rfl dX11_takesOut_194 ?_
                        refine lv_iload hx hb dX11_takesOut_197 (lv_at hl 0 rfl) ?_
                        refine tz_lald hx hb hK hT 2 rfl (by have := li_0; omega) dX11_takesOut_199 (fun v40 e_v40 => ?_)
                        clear e_v40
                        have hT := hT.wk (q := 3) rfl (z_of (c := k 1) (n := 4))
                        have hT : TP D A [(h0, ob 8 [.int h0f0, .int h0f1, .int h0f2, .int h0f3, .int h0f4, .int h0f5, .ref h1, .ref h2, .int h0f8, .int h0f9, .ref h3, .ref h4, .ref h5, .ref h6, .ref h7, .ref h8, .ref h9, .int h0f17, .int h0f18, .int h0f19, .ref h10, .ref h11, .ref h12, .ref h13, .int h0f24, .int h0f25, .ref h14, .ref h15, .ref h16, .ref h17, .int h0f30, .int h0f31, .ref h18, .ref h19, .ref h20, .ref h21]), (h4, aJ (k 1) 9 (zJ [1, 2, 3])), (h5, aJ (k 1) 9 (zJ [3])), (h7, aJ (k 1) 4 (zJ []))] _ := hT
                        refine tz_lastP hx hb hK hT hS 3 (zJ []) rfl (by have := li_0; omega) (z_putx (z := 0) li_0 (by decide)) dX11_takesOut_200 (fun H locs hT hS => ?_)
                        have hT : TP D A [(h0, ob 8 [.int h0f0, .int h0f1, .int h0f2, .int h0f3, .int h0f4, .int h0f5, .ref h1, .ref h2, .int h0f8, .int h0f9, .ref h3, .ref h4, .ref h5, .ref h6, .ref h7, .ref h8, .ref h9, .int h0f17, .int h0f18, .int h0f19, .ref h10, .ref h11, .ref h12, .ref h13, .int h0f24, .int h0f25, .ref h14, .ref h15, .ref h16, .ref h17, .int h0f30, .int h0f31, .ref h18, .ref h19, .ref h20, .ref h21]), (h4, aJ (k 1) 9 (zJ [1, 2, 3])), (h5, aJ (k 1) 9 (zJ [3])), (h7, aJ (k 1) 4 (zJ []))] _ := hT
                        refine lv_iinc (v := 1) (lv' := [(5, .int 1), (6, .long v28), (4, .int 3), (0, .ref h0), (1, .int x1), (2, .int x2), (3, .int x3)]) hx hb dX11_takesOut_201 hl (k := 0) rfl (by decide) (by decide) rfl (fun ls hl => ?_)
                        refine lv_goto (tgt := 181) hx hb dX11_takesOut_204 (by decide) ?_
                        refine lv_iload hx hb dX11_takesOut_181 (lv_at hl 0 rfl) ?_
                        refine lv_iconst (v := 4) hx hb dX11_takesOut_183 (by decide) ?_
                        refine lv_icmp_ge (tgt := 207) hx hb dX11_takesOut_184 (by decide) (fun cc => absurd cc (by decide +kernel)) (fun _ => ?_)
                        refine lv_aload_n hx hb dX11_takesOut_187 rfl (lv_at hl 3 rfl) ?_
                        refine tz_get (ci := 8) (v := .ref h7) (C := RX11) (F := TX11) (N := 36) hx hb hU iX11 hown hK hT 0 rfl rfl 14 (by decide) w799 (fun _ h9 => h9) rfl dX11_takesOut_188 ?_
                        refine lv_iload hx hb dX11_takesOut_191 (lv_at hl 0 rfl) ?_
                        refine lv_aload_n hx hb dX11_takesOut_193 rfl (lv_at hl 3 rfl) ?_
                        refine tz_get (ci := 8) (v := .ref h5) (C := RX11) (F := TX11) (N := 36) hx hb hU iX11 hown hK hT 0 rfl rfl 12 (by decide) w797 (fun _ h9 => h9) rfl dX11_takesOut_194 ?_
                        refine lv_iload hx hb dX11_takesOut_197 (lv_at hl 0 rfl) ?_
                        refine tz_lald hx hb hK hT 2 rfl (by have := li_1; omega) dX11_takesOut_199 (fun v41 e_v41 => ?_)
                        clear e_v41
                        refine tz_lastP hx hb hK hT hS 3 (zJ []) rfl (by have := li_1; omega) (z_putx (z := 1) li_1 (by decide)) dX11_takesOut_200 (fun H locs hT hS => ?_)
                        have hT : TP D A [(h0, ob 8 [.int h0f0, .int h0f1, .int h0f2, .int h0f3, .int h0f4, .int h0f5, .ref h1, .ref h2, .int h0f8, .int h0f9, .ref h3, .ref h4, .ref h5, .ref h6, .ref h7, .ref h8, .ref h9, .int h0f17, .int h0f18, .int h0f19, .ref h10, .ref h11, .ref h12, .ref h13, .int h0f24, .int h0f25, .ref h14, .ref h15, .ref h16, .ref h17, .int h0f30, .int h0f31, .ref h18, .ref h19, .ref h20, .ref h21]), (h4, aJ (k 1) 9 (zJ [1, 2, 3])), (h5, aJ (k 1) 9 (zJ [3])), (h7, aJ (k 1) 4 (zJ []))] _ := hT
                        refine lv_iinc (v := 2) (lv' := [(5, .int 2), (6, .long v28), (4, .int 3), (0, .ref h0), (1, .int x1), (2, .int x2), (3, .int x3)]) hx hb dX11_takesOut_201 hl (k := 0) rfl (by decide) (by decide) rfl (fun ls hl => ?_)
                        refine lv_goto (tgt := 181) hx hb dX11_takesOut_204 (by decide) ?_
                        refine lv_iload hx hb dX11_takesOut_181 (lv_at hl 0 rfl) ?_
                        refine lv_iconst (v := 4) hx hb dX11_takesOut_183 (by decide) ?_
                        refine lv_icmp_ge (tgt := 207) hx hb dX11_takesOut_184 (by decide) (fun cc => absurd cc (by decide +kernel)) (fun _ => ?_)
                        refine lv_aload_n hx hb dX11_takesOut_187 rfl (lv_at hl 3 rfl) ?_
                        refine tz_get (ci := 8) (v := .ref h7) (C := RX11) (F := TX11) (N := 36) hx hb hU iX11 hown hK hT 0 rfl rfl 14 (by decide) w799 (fun _ h9 => h9) rfl dX11_takesOut_188 ?_
                        refine lv_iload hx hb dX11_takesOut_191 (lv_at hl 0 rfl) ?_
                        refine lv_aload_n hx hb dX11_takesOut_193 rfl (lv_at hl 3 rfl) ?_
                        refine tz_get (ci := 8) (v := .ref h5) (C := RX11) (F := TX11) (N := 36) hx hb hU iX11 hown hK hT 0 rfl rfl 12 (by decide) w797 (fun _ h9 => h9) rfl dX11_takesOut_194 ?_
                        refine lv_iload hx hb dX11_takesOut_197 (lv_at hl 0 rfl) ?_
                        refine tz_lald hx hb hK hT 2 rfl (by have := li_2; omega) dX11_takesOut_199 (fun v42 e_v42 => ?_)
                        clear e_v42
                        refine tz_lastP hx hb hK hT hS 3 (zJ []) rfl (by have := li_2; omega) (z_putx (z := 2) li_2 (by decide)) dX11_takesOut_200 (fun H locs hT hS => ?_)
                        have hT : TP D A [(h0, ob 8 [.int h0f0, .int h0f1, .int h0f2, .int h0f3, .int h0f4, .int h0f5, .ref h1, .ref h2, .int h0f8, .int h0f9, .ref h3, .ref h4, .ref h5, .ref h6, .ref h7, .ref h8, .ref h9, .int h0f17, .int h0f18, .int h0f19, .ref h10, .ref h11, .ref h12, .ref h13, .int h0f24, .int h0f25, .ref h14, .ref h15, .ref h16, .ref h17, .int h0f30, .int h0f31, .ref h18, .ref h19, .ref h20, .ref h21]), (h4, aJ (k 1) 9 (zJ [1, 2, 3])), (h5, aJ (k 1) 9 (zJ [3])), (h7, aJ (k 1) 4 (zJ []))] _ := hT
                        refine lv_iinc (v := 3) (lv' := [(5, .int 3), (6, .long v28), (4, .int 3), (0, .ref h0), (1, .int x1), (2, .int x2), (3, .int x3)]) hx hb dX11_takesOut_201 hl (k := 0) rfl (by decide) (by decide) rfl (fun ls hl => ?_)
                        refine lv_goto (tgt := 181) hx hb dX11_takesOut_204 (by decide) ?_
                        refine lv_iload hx hb dX11_takesOut_181 (lv_at hl 0 rfl) ?_
                        refine lv_iconst (v := 4) hx hb dX11_takesOut_183 (by decide) ?_
                        refine lv_icmp_ge (tgt := 207) hx hb dX11_takesOut_184 (by decide) (fun cc => absurd cc (by decide +kernel)) (fun _ => ?_)
                        refine lv_aload_n hx hb dX11_takesOut_187 rfl (lv_at hl 3 rfl) ?_
                        refine tz_get (ci := 8) (v := .ref h7) (C := RX11) (F := TX11) (N := 36) hx hb hU iX11 hown hK hT 0 rfl rfl 14 (by decide) w799 (fun _ h9 => h9) rfl dX11_takesOut_188 ?_
                        refine lv_iload hx hb dX11_takesOut_191 (lv_at hl 0 rfl) ?_
                        refine lv_aload_n hx hb dX11_takesOut_193 rfl (lv_at hl 3 rfl) ?_
                        refine tz_get (ci := 8) (v := .ref h5) (C := RX11) (F := TX11) (N := 36) hx hb hU iX11 hown hK hT 0 rfl rfl 12 (by decide) w797 (fun _ h9 => h9) rfl dX11_takesOut_194 ?_
                        refine lv_iload hx hb dX11_takesOut_197 (lv_at hl 0 rfl) ?_
                        refine tz_lald hx hb hK hT 2 rfl (by have := li_3; omega) dX11_takesOut_199 (fun v43 e_v43 => ?_)
                        have e_v43 := z_get (z := 3) e_v43 li_3 (by decide)
                        subst e_v43
                        refine tz_lastP hx hb hK hT hS 3 (zJ [3]) rfl (by have := li_3; omega) (z_put0 (z := 3) li_3 (by decide)) dX11_takesOut_200 (fun H locs hT hS => ?_)
                        have hT : TP D A [(h0, ob 8 [.int h0f0, .int h0f1, .int h0f2, .int h0f3, .int h0f4, .int h0f5, .ref h1, .ref h2, .int h0f8, .int h0f9, .ref h3, .ref h4, .ref h5, .ref h6, .ref h7, .ref h8, .ref h9, .int h0f17, .int h0f18, .int h0f19, .ref h10, .ref h11, .ref h12, .ref h13, .int h0f24, .int h0f25, .ref h14, .ref h15, .ref h16, .ref h17, .int h0f30, .int h0f31, .ref h18, .ref h19, .ref h20, .ref h21]), (h4, aJ (k 1) 9 (zJ [1, 2, 3])), (h5, aJ (k 1) 9 (zJ [3])), (h7, aJ (k 1) 4 (zJ [3]))] _ := hT
                        refine lv_iinc (v := 4) (lv' := [(5, .int 4), (6, .long v28), (4, .int 3), (0, .ref h0), (1, .int x1), (2, .int x2), (3, .int x3)]) hx hb dX11_takesOut_201 hl (k := 0) rfl (by decide) (by decide) rfl (fun ls hl => ?_)
                        refine lv_goto (tgt := 181) hx hb dX11_takesOut_204 (by decide) ?_
                        refine lv_iload hx hb dX11_takesOut_181 (lv_at hl 0 rfl) ?_
                        refine lv_iconst (v := 4) hx hb dX11_takesOut_183 (by decide) ?_
                        refine lv_icmp_ge (tgt := 207) hx hb dX11_takesOut_184 (by decide) (fun _ => ?_) (fun cc => absurd (by decide +kernel) cc)
                        refine lv_iconst (v := 1) hx hb dX11_takesOut_207 (by decide) ?_
                        have hT := hT.wk (q := 1) rfl (an_J (c := k 1) (n := 9))
                        have hT : TP D A [(h0, ob 8 [.int h0f0, .int h0f1, .int h0f2, .int h0f3, .int h0f4, .int h0f5, .ref h1, .ref h2, .int h0f8, .int h0f9, .ref h3, .ref h4, .ref h5, .ref h6, .ref h7, .ref h8, .ref h9, .int h0f17, .int h0f18, .int h0f19, .ref h10, .ref h11, .ref h12, .ref h13, .int h0f24, .int h0f25, .ref h14, .ref h15, .ref h16, .ref h17, .int h0f30, .int h0f31, .ref h18, .ref h19, .ref h20, .ref h21]), (h4, aJ (k 1) 9 anJ), (h5, aJ (k 1) 9 (zJ [3])), (h7, aJ (k 1) 4 (zJ [3]))] _ := hT
                        have hT := hT.wk (q := 2) rfl (an_J (c := k 1) (n := 9))
                        have hT : TP D A [(h0, ob 8 [.int h0f0, .int h0f1, .int h0f2, .int h0f3, .int h0f4, .int h0f5, .ref h1, .ref h2, .int h0f8, .int h0f9, .ref h3, .ref h4, .ref h5, .ref h6, .ref h7, .ref h8, .ref h9, .int h0f17, .int h0f18, .int h0f19, .ref h10, .ref h11, .ref h12, .ref h13, .int h0f24, .int h0f25, .ref h14, .ref h15, .ref h16, .ref h17, .int h0f30, .int h0f31, .ref h18, .ref h19, .ref h20, .ref h21]), (h4, aJ (k 1) 9 anJ), (h5, aJ (k 1) 9 anJ), (h7, aJ (k 1) 4 (zJ [3]))] _ := hT
                        exact tz_retZ (B := B_cX11_takesOut_ae7df D k h0 h4 h5 h7 h1 h2 h3 h6 h8 h9 h10 h11 h12 h13 h14 h15 h16 h17 h18 h19 h20 h21 x1 x2 x3 h0f0 h0f1 h0f2 h0f3 h0f4 h0f5 h0f8 h0f9 h0f17 h0f18 h0f19 h0f24 h0f25 h0f30 h0f31) (v := 1) hQ hx hb hr hlocks hS (Nat.le_of_ble_eq_true rfl) (Nat.le_of_ble_eq_true rfl) dX11_takesOut_208 (by have := li_1; omega) (Or.inr (Or.inl ⟨v2, v37, (by have := li_1; omega), (by have := li_1; omega), (by have := li_1; omega), (by have := li_1; omega), (by have := li_1; omega), (by have := li_1; omega), (by have := li_1; omega), (by have := li_1; omega), (by have := li_1; omega), (by have := li_1; omega), (by have := li_1; omega), rfl, hT⟩))
                    · skip
                      have c_36 := ni_nlt c_36 li_0 hq1
                      exfalso; omega
                  · skip
                    have c_35 := ni_eq c_35 hq1 li_2
                    exfalso; omega
              · skip
                have c_26 := ni_eq c_26 hq1 li_2
                exfalso; omega
          · skip
            have c_17 := ni_eq c_17 hq1 li_2
            exfalso; omega
      · skip
        have c_4 := ni_nle c_4 hq1 li_3
        exfalso; omega
    · skip
      have c_3 := nl_eq c_3 rfl ll_0
      refine lv_iinc (v := 2) (lv' := [(4, .int 2), (0, .ref h0), (1, .int x1), (2, .int x2), (3, .int x3)]) hx hb dX11_takesOut_20 hl (k := 0) rfl (by decide) (by decide) rfl (fun ls hl => ?_)
      refine lv_goto (tgt := 3) hx hb dX11_takesOut_23 (by decide) ?_
      refine lv_iload hx hb dX11_takesOut_3 (lv_at hl 0 rfl) ?_
      refine lv_if_le (tgt := 26) hx hb dX11_takesOut_5 (by decide) (fun cc => absurd cc (by decide +kernel)) (fun _ => ?_)
      refine lv_aload_n hx hb dX11_takesOut_8 rfl (lv_at hl 1 rfl) ?_
      refine tz_get (ci := 8) (v := .ref h7) (C := RX11) (F := TX11) (N := 36) hx hb hU iX11 hown hK hT 0 rfl rfl 14 (by decide) w799 (fun _ h9 => h9) rfl dX11_takesOut_9 ?_
      refine lv_iload hx hb dX11_takesOut_12 (lv_at hl 0 rfl) ?_
      refine tz_lald hx hb hK hT 3 rfl (by have := li_2; omega) dX11_takesOut_14 (fun v44 e_v44 => ?_)
      clear e_v44
      refine lv_lconst (v := 0) hx hb dX11_takesOut_15 (by decide) ?_
      refine W.lcmp hx hb dX11_takesOut_16 ?_
      refine lv_if_ne (tgt := 26) hx hb dX11_takesOut_17 (by decide) (fun c_45 => ?_) (fun c_45 => ?_)
      · skip
        have c_45 := nl_ne c_45 rfl ll_0
        refine lv_iload hx hb dX11_takesOut_26 (lv_at hl 0 rfl) ?_
        refine lv_iload_n hx hb dX11_takesOut_28 rfl (lv_at hl 2 rfl) ?_
        refine lv_icmp_ge (tgt := 34) hx hb dX11_takesOut_29 (by decide) (fun c_46 => ?_) (fun c_46 => ?_)
        · skip
          have c_46 := ni_le c_46 hq1 li_2
          refine lv_iconst (v := 0) hx hb dX11_takesOut_34 (by decide) ?_
          refine lv_istore (lv' := [(5, .int 0), (4, .int 2), (0, .ref h0), (1, .int x1), (2, .int x2), (3, .int x3)]) hx hb dX11_takesOut_35 hl (by decide) rfl (fun ls hl => ?_)
          refine lv_iload hx hb dX11_takesOut_37 (lv_at hl 0 rfl) ?_
          refine lv_iconst (v := 4) hx hb dX11_takesOut_39 (by decide) ?_
          refine lv_icmp_ge (tgt := 71) hx hb dX11_takesOut_40 (by decide) (fun cc => absurd cc (by decide +kernel)) (fun _ => ?_)
          refine lv_aload_n hx hb dX11_takesOut_43 rfl (lv_at hl 2 rfl) ?_
          refine tz_get (ci := 8) (v := .ref h4) (C := RX11) (F := TX11) (N := 36) hx hb hU iX11 hown hK hT 0 rfl rfl 11 (by decide) w796 (fun _ h9 => h9) rfl dX11_takesOut_44 ?_
          refine lv_iload hx hb dX11_takesOut_47 (lv_at hl 0 rfl) ?_
          refine lv_aload_n hx hb dX11_takesOut_49 rfl (lv_at hl 2 rfl) ?_
          refine tz_get (ci := 8) (v := .ref h7) (C := RX11) (F := TX11) (N := 36) hx hb hU iX11 hown hK hT 0 rfl rfl 14 (by decide) w799 (fun _ h9 => h9) rfl dX11_takesOut_50 ?_
          refine lv_iload hx hb dX11_takesOut_53 (lv_at hl 0 rfl) ?_
          refine tz_lald hx hb hK hT 3 rfl (by have := li_0; omega) dX11_takesOut_55 (fun v47 e_v47 => ?_)
          clear e_v47
          have hT := hT.wk (q := 1) rfl (z_of (c := k 1) (n := 9))
          have hT : TP D A [(h0, ob 8 [.int h0f0, .int h0f1, .int h0f2, .int h0f3, .int h0f4, .int h0f5, .ref h1, .ref h2, .int h0f8, .int h0f9, .ref h3, .ref h4, .ref h5, .ref h6, .ref h7, .ref h8, .ref h9, .int h0f17, .int h0f18, .int h0f19, .ref h10, .ref h11, .ref h12, .ref h13, .int h0f24, .int h0f25, .ref h14, .ref h15, .ref h16, .ref h17, .int h0f30, .int h0f31, .ref h18, .ref h19, .ref h20, .ref h21]), (h4, aJ (k 1) 9 (zJ [])), (h5, aJ (k 1) 9 anJ), (h7, aJ (k 1) 4 anJ)] _ := hT
          refine tz_lastP hx hb hK hT hS 1 (zJ []) rfl (by have := li_0; omega) (z_putx (z := 0) li_0 (by decide)) dX11_takesOut_56 (fun H locs hT hS => ?_)
          have hT : TP D A [(h0, ob 8 [.int h0f0, .int h0f1, .int h0f2, .int h0f3, .int h0f4, .int h0f5, .ref h1, .ref h2, .int h0f8, .int h0f9, .ref h3, .ref h4, .ref h5, .ref h6, .ref h7, .ref h8, .ref h9, .int h0f17, .int h0f18, .int h0f19, .ref h10, .ref h11, .ref h12, .ref h13, .int h0f24, .int h0f25, .ref h14, .ref h15, .ref h16, .ref h17, .int h0f30, .int h0f31, .ref h18, .ref h19, .ref h20, .ref h21]), (h4, aJ (k 1) 9 (zJ [])), (h5, aJ (k 1) 9 anJ), (h7, aJ (k 1) 4 anJ)] _ := hT
          refine lv_aload_n hx hb dX11_takesOut_57 rfl (lv_at hl 2 rfl) ?_
          refine tz_get (ci := 8) (v := .ref h5) (C := RX11) (F := TX11) (N := 36) hx hb hU iX11 hown hK hT 0 rfl rfl 12 (by decide) w797 (fun _ h9 => h9) rfl dX11_takesOut_58 ?_
          refine lv_iload hx hb dX11_takesOut_61 (lv_at hl 0 rfl) ?_
          refine lv_lconst (v := 0) hx hb dX11_takesOut_63 (by decide) ?_
          have hT := hT.wk (q := 2) rfl (z_of (c := k 1) (n := 9))
          have hT : TP D A [(h0, ob 8 [.int h0f0, .int h0f1, .int h0f2, .int h0f3, .int h0f4, .int h0f5, .ref h1, .ref h2, .int h0f8, .int h0f9, .ref h3, .ref h4, .ref h5, .ref h6, .ref h7, .ref h8, .ref h9, .int h0f17, .int h0f18, .int h0f19, .ref h10, .ref h11, .ref h12, .ref h13, .int h0f24, .int h0f25, .ref h14, .ref h15, .ref h16, .ref h17, .int h0f30, .int h0f31, .ref h18, .ref h19, .ref h20, .ref h21]), (h4, aJ (k 1) 9 (zJ [])), (h5, aJ (k 1) 9 (zJ [])), (h7, aJ (k 1) 4 anJ)] _ := hT
          refine tz_lastP hx hb hK hT hS 2 (zJ [0]) rfl (by have := li_0; omega) (z_put0 (z := 0) li_0 (by decide)) dX11_takesOut_64 (fun H locs hT hS => ?_)
          have hT : TP D A [(h0, ob 8 [.int h0f0, .int h0f1, .int h0f2, .int h0f3, .int h0f4, .int h0f5, .ref h1, .ref h2, .int h0f8, .int h0f9, .ref h3, .ref h4, .ref h5, .ref h6, .ref h7, .ref h8, .ref h9, .int h0f17, .int h0f18, .int h0f19, .ref h10, .ref h11, .ref h12, .ref h13, .int h0f24, .int h0f25, .ref h14, .ref h15, .ref h16, .ref h17, .int h0f30, .int h0f31, .ref h18, .ref h19, .ref h20, .ref h21]), (h4, aJ (k 1) 9 (zJ [])), (h5, aJ (k 1) 9 (zJ [0])), (h7, aJ (k 1) 4 anJ)] _ := hT
          refine lv_iinc (v := 1) (lv' := [(5, .int 1), (4, .int 2), (0, .ref h0), (1, .int x1), (2, .int x2), (3, .int x3)]) hx hb dX11_takesOut_65 hl (k := 0) rfl (by decide) (by decide) rfl (fun ls hl => ?_)
          refine lv_goto (tgt := 37) hx hb dX11_takesOut_68 (by decide) ?_
          refine lv_iload hx hb dX11_takesOut_37 (lv_at hl 0 rfl) ?_
          refine lv_iconst (v := 4) hx hb dX11_takesOut_39 (by decide) ?_
          refine lv_icmp_ge (tgt := 71) hx hb dX11_takesOut_40 (by decide) (fun cc => absurd cc (by decide +kernel)) (fun _ => ?_)
          refine lv_aload_n hx hb dX11_takesOut_43 rfl (lv_at hl 2 rfl) ?_
          refine tz_get (ci := 8) (v := .ref h4) (C := RX11) (F := TX11) (N := 36) hx hb hU iX11 hown hK hT 0 rfl rfl 11 (by decide) w796 (fun _ h9 => h9) rfl dX11_takesOut_44 ?_
          refine lv_iload hx hb dX11_takesOut_47 (lv_at hl 0 rfl) ?_
          refine lv_aload_n hx hb dX11_takesOut_49 rfl (lv_at hl 2 rfl) ?_
          refine tz_get (ci := 8) (v := .ref h7) (C := RX11) (F := TX11) (N := 36) hx hb hU iX11 hown hK hT 0 rfl rfl 14 (by decide) w799 (fun _ h9 => h9) rfl dX11_takesOut_50 ?_
          refine lv_iload hx hb dX11_takesOut_53 (lv_at hl 0 rfl) ?_
          refine tz_lald hx hb hK hT 3 rfl (by have := li_1; omega) dX11_takesOut_55 (fun v48 e_v48 => ?_)
          clear e_v48
          refine tz_lastP hx hb hK hT hS 1 (zJ []) rfl (by have := li_1; omega) (z_putx (z := 1) li_1 (by decide)) dX11_takesOut_56 (fun H locs hT hS => ?_)
          have hT : TP D A [(h0, ob 8 [.int h0f0, .int h0f1, .int h0f2, .int h0f3, .int h0f4, .int h0f5, .ref h1, .ref h2, .int h0f8, .int h0f9, .ref h3, .ref h4, .ref h5, .ref h6, .ref h7, .ref h8, .ref h9, .int h0f17, .int h0f18, .int h0f19, .ref h10, .ref h11, .ref h12, .ref h13, .int h0f24, .int h0f25, .ref h14, .ref h15, .ref h16, .ref h17, .int h0f30, .int h0f31, .ref h18, .ref h19, .ref h20, .ref h21]), (h4, aJ (k 1) 9 (zJ [])), (h5, aJ (k 1) 9 (zJ [0])), (h7, aJ (k 1) 4 anJ)] _ := hT
          refine lv_aload_n hx hb dX11_takesOut_57 rfl (lv_at hl 2 rfl) ?_
          refine tz_get (ci := 8) (v := .ref h5) (C := RX11) (F := TX11) (N := 36) hx hb hU iX11 hown hK hT 0 rfl rfl 12 (by decide) w797 (fun _ h9 => h9) rfl dX11_takesOut_58 ?_
          refine lv_iload hx hb dX11_takesOut_61 (lv_at hl 0 rfl) ?_
          refine lv_lconst (v := 0) hx hb dX11_takesOut_63 (by decide) ?_
          refine tz_lastP hx hb hK hT hS 2 (zJ [0, 1]) rfl (by have := li_1; omega) (z_put0 (z := 1) li_1 (by decide)) dX11_takesOut_64 (fun H locs hT hS => ?_)
          have hT : TP D A [(h0, ob 8 [.int h0f0, .int h0f1, .int h0f2, .int h0f3, .int h0f4, .int h0f5, .ref h1, .ref h2, .int h0f8, .int h0f9, .ref h3, .ref h4, .ref h5, .ref h6, .ref h7, .ref h8, .ref h9, .int h0f17, .int h0f18, .int h0f19, .ref h10, .ref h11, .ref h12, .ref h13, .int h0f24, .int h0f25, .ref h14, .ref h15, .ref h16, .ref h17, .int h0f30, .int h0f31, .ref h18, .ref h19, .ref h20, .ref h21]), (h4, aJ (k 1) 9 (zJ [])), (h5, aJ (k 1) 9 (zJ [0, 1])), (h7, aJ (k 1) 4 anJ)] _ := hT
          refine lv_iinc (v := 2) (lv' := [(5, .int 2), (4, .int 2), (0, .ref h0), (1, .int x1), (2, .int x2), (3, .int x3)]) hx hb dX11_takesOut_65 hl (k := 0) rfl (by decide) (by decide) rfl (fun ls hl => ?_)
          refine lv_goto (tgt := 37) hx hb dX11_takesOut_68 (by decide) ?_
          refine lv_iload hx hb dX11_takesOut_37 (lv_at hl 0 rfl) ?_
          refine lv_iconst (v := 4) hx hb dX11_takesOut_39 (by decide) ?_
          refine lv_icmp_ge (tgt := 71) hx hb dX11_takesOut_40 (by decide) (fun cc => absurd cc (by decide +kernel)) (fun _ => ?_)
          refine lv_aload_n hx hb dX11_takesOut_43 rfl (lv_at hl 2 rfl) ?_
          refine tz_get (ci := 8) (v := .ref h4) (C := RX11) (F := TX11) (N := 36) hx hb hU iX11 hown hK hT 0 rfl rfl 11 (by decide) w796 (fun _ h9 => h9) rfl dX11_takesOut_44 ?_
          refine lv_iload hx hb dX11_takesOut_47 (lv_at hl 0 rfl) ?_
          refine lv_aload_n hx hb dX11_takesOut_49 rfl (lv_at hl 2 rfl) ?_
          refine tz_get (ci := 8) (v := .ref h7) (C := RX11) (F := TX11) (N := 36) hx hb hU iX11 hown hK hT 0 rfl rfl 14 (by decide) w799 (fun _ h9 => h9) rfl dX11_takesOut_50 ?_
          refine lv_iload hx hb dX11_takesOut_53 (lv_at hl 0 rfl) ?_
          refine tz_lald hx hb hK hT 3 rfl (by have := li_2; omega) dX11_takesOut_55 (fun v49 e_v49 => ?_)
          clear e_v49
          refine tz_lastP hx hb hK hT hS 1 (zJ []) rfl (by have := li_2; omega) (z_putx (z := 2) li_2 (by decide)) dX11_takesOut_56 (fun H locs hT hS => ?_)
          have hT : TP D A [(h0, ob 8 [.int h0f0, .int h0f1, .int h0f2, .int h0f3, .int h0f4, .int h0f5, .ref h1, .ref h2, .int h0f8, .int h0f9, .ref h3, .ref h4, .ref h5, .ref h6, .ref h7, .ref h8, .ref h9, .int h0f17, .int h0f18, .int h0f19, .ref h10, .ref h11, .ref h12, .ref h13, .int h0f24, .int h0f25, .ref h14, .ref h15, .ref h16, .ref h17, .int h0f30, .int h0f31, .ref h18, .ref h19, .ref h20, .ref h21]), (h4, aJ (k 1) 9 (zJ [])), (h5, aJ (k 1) 9 (zJ [0, 1])), (h7, aJ (k 1) 4 anJ)] _ := hT
          refine lv_aload_n hx hb dX11_takesOut_57 rfl (lv_at hl 2 rfl) ?_
          refine tz_get (ci := 8) (v := .ref h5) (C := RX11) (F := TX11) (N := 36) hx hb hU iX11 hown hK hT 0 rfl rfl 12 (by decide) w797 (fun _ h9 => h9) rfl dX11_takesOut_58 ?_
          refine lv_iload hx hb dX11_takesOut_61 (lv_at hl 0 rfl) ?_
          refine lv_lconst (v := 0) hx hb dX11_takesOut_63 (by decide) ?_
          refine tz_lastP hx hb hK hT hS 2 (zJ [0, 1, 2]) rfl (by have := li_2; omega) (z_put0 (z := 2) li_2 (by decide)) dX11_takesOut_64 (fun H locs hT hS => ?_)
          have hT : TP D A [(h0, ob 8 [.int h0f0, .int h0f1, .int h0f2, .int h0f3, .int h0f4, .int h0f5, .ref h1, .ref h2, .int h0f8, .int h0f9, .ref h3, .ref h4, .ref h5, .ref h6, .ref h7, .ref h8, .ref h9, .int h0f17, .int h0f18, .int h0f19, .ref h10, .ref h11, .ref h12, .ref h13, .int h0f24, .int h0f25, .ref h14, .ref h15, .ref h16, .ref h17, .int h0f30, .int h0f31, .ref h18, .ref h19, .ref h20, .ref h21]), (h4, aJ (k 1) 9 (zJ [])), (h5, aJ (k 1) 9 (zJ [0, 1, 2])), (h7, aJ (k 1) 4 anJ)] _ := hT
          refine lv_iinc (v := 3) (lv' := [(5, .int 3), (4, .int 2), (0, .ref h0), (1, .int x1), (2, .int x2), (3, .int x3)]) hx hb dX11_takesOut_65 hl (k := 0) rfl (by decide) (by decide) rfl (fun ls hl => ?_)
          refine lv_goto (tgt := 37) hx hb dX11_takesOut_68 (by decide) ?_
          refine lv_iload hx hb dX11_takesOut_37 (lv_at hl 0 rfl) ?_
          refine lv_iconst (v := 4) hx hb dX11_takesOut_39 (by decide) ?_
          refine lv_icmp_ge (tgt := 71) hx hb dX11_takesOut_40 (by decide) (fun cc => absurd cc (by decide +kernel)) (fun _ => ?_)
          refine lv_aload_n hx hb dX11_takesOut_43 rfl (lv_at hl 2 rfl) ?_
          refine tz_get (ci := 8) (v := .ref h4) (C := RX11) (F := TX11) (N := 36) hx hb hU iX11 hown hK hT 0 rfl rfl 11 (by decide) w796 (fun _ h9 => h9) rfl dX11_takesOut_44 ?_
          refine lv_iload hx hb dX11_takesOut_47 (lv_at hl 0 rfl) ?_
          refine lv_aload_n hx hb dX11_takesOut_49 rfl (lv_at hl 2 rfl) ?_
          refine tz_get (ci := 8) (v := .ref h7) (C := RX11) (F := TX11) (N := 36) hx hb hU iX11 hown hK hT 0 rfl rfl 14 (by decide) w799 (fun _ h9 => h9) rfl dX11_takesOut_50 ?_
          refine lv_iload hx hb dX11_takesOut_53 (lv_at hl 0 rfl) ?_
          refine tz_lald hx hb hK hT 3 rfl (by have := li_3; omega) dX11_takesOut_55 (fun v50 e_v50 => ?_)
          clear e_v50
          refine tz_lastP hx hb hK hT hS 1 (zJ []) rfl (by have := li_3; omega) (z_putx (z := 3) li_3 (by decide)) dX11_takesOut_56 (fun H locs hT hS => ?_)
          have hT : TP D A [(h0, ob 8 [.int h0f0, .int h0f1, .int h0f2, .int h0f3, .int h0f4, .int h0f5, .ref h1, .ref h2, .int h0f8, .int h0f9, .ref h3, .ref h4, .ref h5, .ref h6, .ref h7, .ref h8, .ref h9, .int h0f17, .int h0f18, .int h0f19, .ref h10, .ref h11, .ref h12, .ref h13, .int h0f24, .int h0f25, .ref h14, .ref h15, .ref h16, .ref h17, .int h0f30, .int h0f31, .ref h18, .ref h19, .ref h20, .ref h21]), (h4, aJ (k 1) 9 (zJ [])), (h5, aJ (k 1) 9 (zJ [0, 1, 2])), (h7, aJ (k 1) 4 anJ)] _ := hT
          refine lv_aload_n hx hb dX11_takesOut_57 rfl (lv_at hl 2 rfl) ?_
          refine tz_get (ci := 8) (v := .ref h5) (C := RX11) (F := TX11) (N := 36) hx hb hU iX11 hown hK hT 0 rfl rfl 12 (by decide) w797 (fun _ h9 => h9) rfl dX11_takesOut_58 ?_
          refine lv_iload hx hb dX11_takesOut_61 (lv_at hl 0 rfl) ?_
          refine lv_lconst (v := 0) hx hb dX11_takesOut_63 (by decide) ?_
          refine tz_lastP hx hb hK hT hS 2 (zJ [0, 1, 2, 3]) rfl (by have := li_3; omega) (z_put0 (z := 3) li_3 (by decide)) dX11_takesOut_64 (fun H locs hT hS => ?_)
          have hT : TP D A [(h0, ob 8 [.int h0f0, .int h0f1, .int h0f2, .int h0f3, .int h0f4, .int h0f5, .ref h1, .ref h2, .int h0f8, .int h0f9, .ref h3, .ref h4, .ref h5, .ref h6, .ref h7, .ref h8, .ref h9, .int h0f17, .int h0f18, .int h0f19, .ref h10, .ref h11, .ref h12, .ref h13, .int h0f24, .int h0f25, .ref h14, .ref h15, .ref h16, .ref h17, .int h0f30, .int h0f31, .ref h18, .ref h19, .ref h20, .ref h21]), (h4, aJ (k 1) 9 (zJ [])), (h5, aJ (k 1) 9 (zJ [0, 1, 2, 3])), (h7, aJ (k 1) 4 anJ)] _ := hT
          refine lv_iinc (v := 4) (lv' := [(5, .int 4), (4, .int 2), (0, .ref h0), (1, .int x1), (2, .int x2), (3, .int x3)]) hx hb dX11_takesOut_65 hl (k := 0) rfl (by decide) (by decide) rfl (fun ls hl => ?_)
          refine lv_goto (tgt := 37) hx hb dX11_takesOut_68 (by decide) ?_
          refine lv_iload hx hb dX11_takesOut_37 (lv_at hl 0 rfl) ?_
          refine lv_iconst (v := 4) hx hb dX11_takesOut_39 (by decide) ?_
          refine lv_icmp_ge (tgt := 71) hx hb dX11_takesOut_40 (by decide) (fun _ => ?_) (fun cc => absurd (by decide +kernel) cc)
          refine lv_iload hx hb dX11_takesOut_71 (lv_at hl 1 rfl) ?_
          refine lv_istore (lv' := [(5, .int 2), (4, .int 2), (0, .ref h0), (1, .int x1), (2, .int x2), (3, .int x3)]) hx hb dX11_takesOut_73 hl (by decide) rfl (fun ls hl => ?_)
          refine lv_iload hx hb dX11_takesOut_75 (lv_at hl 0 rfl) ?_
          refine lv_iload_n hx hb dX11_takesOut_77 rfl (lv_at hl 3 rfl) ?_
          refine lv_icmp_lt (tgt := 154) hx hb dX11_takesOut_78 (by decide) (fun c_51 => ?_) (fun c_51 => ?_)
          · skip
            have c_51 := ni_lt c_51 li_2 hq1
            exfalso; omega
          · skip
            have c_51 := ni_nlt c_51 li_2 hq1
            refine lv_aload_n hx hb dX11_takesOut_81 rfl (lv_at hl 2 rfl) ?_
            refine tz_get (ci := 8) (v := .ref h4) (C := RX11) (F := TX11) (N := 36) hx hb hU iX11 hown hK hT 0 rfl rfl 11 (by decide) w796 (fun _ h9 => h9) rfl dX11_takesOut_82 ?_
            refine lv_iload hx hb dX11_takesOut_85 (lv_at hl 0 rfl) ?_
            refine tz_lald hx hb hK hT 1 rfl (by have := li_2; omega) dX11_takesOut_87 (fun v52 e_v52 => ?_)
            clear e_v52
            refine lv_lstore (lv' := [(6, .long v52), (5, .int 2), (4, .int 2), (0, .ref h0), (1, .int x1), (2, .int x2), (3, .int x3)]) hx hb dX11_takesOut_88 hl (by decide) rfl (fun ls hl => ?_)
            refine lv_aload_n hx hb dX11_takesOut_90 rfl (lv_at hl 3 rfl) ?_
            refine tz_get (ci := 8) (v := .ref h5) (C := RX11) (F := TX11) (N := 36) hx hb hU iX11 hown hK hT 0 rfl rfl 12 (by decide) w797 (fun _ h9 => h9) rfl dX11_takesOut_91 ?_
            refine lv_iload hx hb dX11_takesOut_94 (lv_at hl 1 rfl) ?_
            refine lv_iload_n hx hb dX11_takesOut_96 rfl (lv_at hl 4 rfl) ?_
            refine lv_isub hx hb dX11_takesOut_97 (lv_topi (fun v53 e_v53 => ?_))
            have e_v53 := ai_sub e_v53 li_2 hq1 (by omega)
            refine lv_lload hx hb dX11_takesOut_98 (lv_at hl 0 rfl) ?_
            refine tz_lastP hx hb hK hT hS 2 (zJ [0, 2, 3]) rfl (by omega) (z_putx (z := 1) (show v53.toInt = 1 by omega) (by decide)) dX11_takesOut_100 (fun H locs hT hS => ?_)
            have hT : TP D A [(h0, ob 8 [.int h0f0, .int h0f1, .int h0f2, .int h0f3, .int h0f4, .int h0f5, .ref h1, .ref h2, .int h0f8, .int h0f9, .ref h3, .ref h4, .ref h5, .ref h6, .ref h7, .ref h8, .ref h9, .int h0f17, .int h0f18, .int h0f19, .ref h10, .ref h11, .ref h12, .ref h13, .int h0f24, .int h0f25, .ref h14, .ref h15, .ref h16, .ref h17, .int h0f30, .int h0f31, .ref h18, .ref h19, .ref h20, .ref h21]), (h4, aJ (k 1) 9 (zJ [])), (h5, aJ (k 1) 9 (zJ [0, 2, 3])), (h7, aJ (k 1) 4 anJ)] _ := hT
            refine lv_aload_n hx hb dX11_takesOut_101 rfl (lv_at hl 3 rfl) ?_
            refine tz_get (ci := 8) (v := .ref h4) (C := RX11) (F := TX11) (N := 36) hx hb hU iX11 hown hK hT 0 rfl rfl 11 (by decide) w796 (fun _ h9 => h9) rfl dX11_takesOut_102 ?_
            refine lv_iload hx hb dX11_takesOut_105 (lv_at hl 1 rfl) ?_
            refine lv_iload_n hx hb dX11_takesOut_107 rfl (lv_at hl 4 rfl) ?_
            refine lv_isub hx hb dX11_takesOut_108 (lv_topi (fun v54 e_v54 => ?_))
            have e_v54 := ai_sub e_v54 li_2 hq1 (by omega)
            refine lv_dup2_11 hx hb dX11_takesOut_109 rfl rfl ?_
            refine tz_lald hx hb hK hT 1 rfl (by omega) dX11_takesOut_110 (fun v55 e_v55 => ?_)
            clear e_v55
            refine lv_lload hx hb dX11_takesOut_111 (lv_at hl 0 rfl) ?_
            refine lv_iload_n hx hb dX11_takesOut_113 rfl (lv_at hl 5 rfl) ?_
            obtain ⟨v56, e_v56⟩ : ∃ x : Int64, x2.toInt64 = x := ⟨_, rfl⟩
            refine lv_i2l (v := v56) hx hb dX11_takesOut_114 e_v56 ?_
            have e_v56 := ai_i2l e_v56 rfl
            refine lv_lmul hx hb dX11_takesOut_115 (lv_topl (fun v57 e_v57 => ?_))
            refine lv_lsub hx hb dX11_takesOut_116 (lv_topl (fun v58 e_v58 => ?_))
            refine tz_lastP hx hb hK hT hS 1 (zJ []) rfl (by omega) (z_putx (z := 1) (show v54.toInt = 1 by omega) (by decide)) dX11_takesOut_117 (fun H locs hT hS => ?_)
            have hT : TP D A [(h0, ob 8 [.int h0f0, .int h0f1, .int h0f2, .int h0f3, .int h0f4, .int h0f5, .ref h1, .ref h2, .int h0f8, .int h0f9, .ref h3, .ref h4, .ref h5, .ref h6, .ref h7, .ref h8, .ref h9, .int h0f17, .int h0f18, .int h0f19, .ref h10, .ref h11, .ref h12, .ref h13, .int h0f24, .int h0f25, .ref h14, .ref h15, .ref h16, .ref h17, .int h0f30, .int h0f31, .ref h18, .ref h19, .ref h20, .ref h21]), (h4, aJ (k 1) 9 (zJ [])), (h5, aJ (k 1) 9 (zJ [0, 2, 3])), (h7, aJ (k 1) 4 anJ)] _ := hT
            refine lv_iload_n hx hb dX11_takesOut_118 rfl (lv_at hl 4 rfl) ?_
            refine lv_iconst (v := 2) hx hb dX11_takesOut_119 (by decide) ?_
            refine lv_icmp_ne (tgt := 140) hx hb dX11_takesOut_120 (by decide) (fun c_59 => ?_) (fun c_59 => ?_)
            · skip
              have c_59 := ni_ne c_59 hq1 li_2
              refine lv_aload_n hx hb dX11_takesOut_140 rfl (lv_at hl 3 rfl) ?_
              refine tz_get (ci := 8) (v := .ref h4) (C := RX11) (F := TX11) (N := 36) hx hb hU iX11 hown hK hT 0 rfl rfl 11 (by decide) w796 (fun _ h9 => h9) rfl dX11_takesOut_141 ?_
              refine lv_iload hx hb dX11_takesOut_144 (lv_at hl 1 rfl) ?_
              refine lv_lconst (v := 0) hx hb dX11_takesOut_146 (by decide) ?_
              refine tz_lastP hx hb hK hT hS 1 (zJ [2]) rfl (by have := li_2; omega) (z_put0 (z := 2) li_2 (by decide)) dX11_takesOut_147 (fun H locs hT hS => ?_)
              have hT : TP D A [(h0, ob 8 [.int h0f0, .int h0f1, .int h0f2, .int h0f3, .int h0f4, .int h0f5, .ref h1, .ref h2, .int h0f8, .int h0f9, .ref h3, .ref h4, .ref h5, .ref h6, .ref h7, .ref h8, .ref h9, .int h0f17, .int h0f18, .int h0f19, .ref h10, .ref h11, .ref h12, .ref h13, .int h0f24, .int h0f25, .ref h14, .ref h15, .ref h16, .ref h17, .int h0f30, .int h0f31, .ref h18, .ref h19, .ref h20, .ref h21]), (h4, aJ (k 1) 9 (zJ [2])), (h5, aJ (k 1) 9 (zJ [0, 2, 3])), (h7, aJ (k 1) 4 anJ)] _ := hT
              refine lv_iinc (v := 1) (lv' := [(5, .int 1), (6, .long v52), (4, .int 2), (0, .ref h0), (1, .int x1), (2, .int x2), (3, .int x3)]) hx hb dX11_takesOut_148 hl (k := 1) rfl (by decide) (by decide) rfl (fun ls hl => ?_)
              refine lv_goto (tgt := 75) hx hb dX11_takesOut_151 (by decide) ?_
              refine lv_iload hx hb dX11_takesOut_75 (lv_at hl 0 rfl) ?_
              refine lv_iload_n hx hb dX11_takesOut_77 rfl (lv_at hl 4 rfl) ?_
              refine lv_icmp_lt (tgt := 154) hx hb dX11_takesOut_78 (by decide) (fun c_60 => ?_) (fun c_60 => ?_)
              · skip
                have c_60 := ni_lt c_60 li_1 hq1
                exfalso; omega
              · skip
                have c_60 := ni_nlt c_60 li_1 hq1
                refine lv_aload_n hx hb dX11_takesOut_81 rfl (lv_at hl 3 rfl) ?_
                refine tz_get (ci := 8) (v := .ref h4) (C := RX11) (F := TX11) (N := 36) hx hb hU iX11 hown hK hT 0 rfl rfl 11 (by decide) w796 (fun _ h9 => h9) rfl dX11_takesOut_82 ?_
                refine lv_iload hx hb dX11_takesOut_85 (lv_at hl 0 rfl) ?_
                refine tz_lald hx hb hK hT 1 rfl (by have := li_1; omega) dX11_takesOut_87 (fun v61 e_v61 => ?_)
                clear e_v61
                refine lv_lstore (lv' := [(6, .long v61), (5, .int 1), (4, .int 2), (0, .ref h0), (1, .int x1), (2, .int x2), (3, .int x3)]) hx hb dX11_takesOut_88 hl (by decide) rfl (fun ls hl => ?_)
                refine lv_aload_n hx hb dX11_takesOut_90 rfl (lv_at hl 3 rfl) ?_
                refine tz_get (ci := 8) (v := .ref h5) (C := RX11) (F := TX11) (N := 36) hx hb hU iX11 hown hK hT 0 rfl rfl 12 (by decide) w797 (fun _ h9 => h9) rfl dX11_takesOut_91 ?_
                refine lv_iload hx hb dX11_takesOut_94 (lv_at hl 1 rfl) ?_
                refine lv_iload_n hx hb dX11_takesOut_96 rfl (lv_at hl 4 rfl) ?_
                refine lv_isub hx hb dX11_takesOut_97 (lv_topi (fun v62 e_v62 => ?_))
                have e_v62 := ai_sub e_v62 li_1 hq1 (by omega)
                refine lv_lload hx hb dX11_takesOut_98 (lv_at hl 0 rfl) ?_
                refine tz_lastP hx hb hK hT hS 2 (zJ [2, 3]) rfl (by omega) (z_putx (z := 0) (show v62.toInt = 0 by omega) (by decide)) dX11_takesOut_100 (fun H locs hT hS => ?_)
                have hT : TP D A [(h0, ob 8 [.int h0f0, .int h0f1, .int h0f2, .int h0f3, .int h0f4, .int h0f5, .ref h1, .ref h2, .int h0f8, .int h0f9, .ref h3, .ref h4, .ref h5, .ref h6, .ref h7, .ref h8, .ref h9, .int h0f17, .int h0f18, .int h0f19, .ref h10, .ref h11, .ref h12, .ref h13, .int h0f24, .int h0f25, .ref h14, .ref h15, .ref h16, .ref h17, .int h0f30, .int h0f31, .ref h18, .ref h19, .ref h20, .ref h21]), (h4, aJ (k 1) 9 (zJ [2])), (h5, aJ (k 1) 9 (zJ [2, 3])), (h7, aJ (k 1) 4 anJ)] _ := hT
                refine lv_aload_n hx hb dX11_takesOut_101 rfl (lv_at hl 3 rfl) ?_
                refine tz_get (ci := 8) (v := .ref h4) (C := RX11) (F := TX11) (N := 36) hx hb hU iX11 hown hK hT 0 rfl rfl 11 (by decide) w796 (fun _ h9 => h9) rfl dX11_takesOut_102 ?_
                refine lv_iload hx hb dX11_takesOut_105 (lv_at hl 1 rfl) ?_
                refine lv_iload_n hx hb dX11_takesOut_107 rfl (lv_at hl 4 rfl) ?_
                refine lv_isub hx hb dX11_takesOut_108 (lv_topi (fun v63 e_v63 => ?_))
                have e_v63 := ai_sub e_v63 li_1 hq1 (by omega)
                refine lv_dup2_11 hx hb dX11_takesOut_109 rfl rfl ?_
                refine tz_lald hx hb hK hT 1 rfl (by omega) dX11_takesOut_110 (fun v64 e_v64 => ?_)
                clear e_v64
                refine lv_lload hx hb dX11_takesOut_111 (lv_at hl 0 rfl) ?_
                refine lv_iload_n hx hb dX11_takesOut_113 rfl (lv_at hl 5 rfl) ?_
                obtain ⟨v65, e_v65⟩ : ∃ x : Int64, x2.toInt64 = x := ⟨_, rfl⟩
                refine lv_i2l (v := v65) hx hb dX11_takesOut_114 e_v65 ?_
                have e_v65 := ai_i2l e_v65 rfl
                refine lv_lmul hx hb dX11_takesOut_115 (lv_topl (fun v66 e_v66 => ?_))
                refine lv_lsub hx hb dX11_takesOut_116 (lv_topl (fun v67 e_v67 => ?_))
                refine tz_lastP hx hb hK hT hS 1 (zJ [2]) rfl (by omega) (z_putx (z := 0) (show v63.toInt = 0 by omega) (by decide)) dX11_takesOut_117 (fun H locs hT hS => ?_)
                have hT : TP D A [(h0, ob 8 [.int h0f0, .int h0f1, .int h0f2, .int h0f3, .int h0f4, .int h0f5, .ref h1, .ref h2, .int h0f8, .int h0f9, .ref h3, .ref h4, .ref h5, .ref h6, .ref h7, .ref h8, .ref h9, .int h0f17, .int h0f18, .int h0f19, .ref h10, .ref h11, .ref h12, .ref h13, .int h0f24, .int h0f25, .ref h14, .ref h15, .ref h16, .ref h17, .int h0f30, .int h0f31, .ref h18, .ref h19, .ref h20, .ref h21]), (h4, aJ (k 1) 9 (zJ [2])), (h5, aJ (k 1) 9 (zJ [2, 3])), (h7, aJ (k 1) 4 anJ)] _ := hT
                refine lv_iload_n hx hb dX11_takesOut_118 rfl (lv_at hl 4 rfl) ?_
                refine lv_iconst (v := 2) hx hb dX11_takesOut_119 (by decide) ?_
                refine lv_icmp_ne (tgt := 140) hx hb dX11_takesOut_120 (by decide) (fun c_68 => ?_) (fun c_68 => ?_)
                · skip
                  have c_68 := ni_ne c_68 hq1 li_2
                  refine lv_aload_n hx hb dX11_takesOut_140 rfl (lv_at hl 3 rfl) ?_
                  refine tz_get (ci := 8) (v := .ref h4) (C := RX11) (F := TX11) (N := 36) hx hb hU iX11 hown hK hT 0 rfl rfl 11 (by decide) w796 (fun _ h9 => h9) rfl dX11_takesOut_141 ?_
                  refine lv_iload hx hb dX11_takesOut_144 (lv_at hl 1 rfl) ?_
                  refine lv_lconst (v := 0) hx hb dX11_takesOut_146 (by decide) ?_
                  refine tz_lastP hx hb hK hT hS 1 (zJ [1, 2]) rfl (by have := li_1; omega) (z_put0 (z := 1) li_1 (by decide)) dX11_takesOut_147 (fun H locs hT hS => ?_)
                  have hT : TP D A [(h0, ob 8 [.int h0f0, .int h0f1, .int h0f2, .int h0f3, .int h0f4, .int h0f5, .ref h1, .ref h2, .int h0f8, .int h0f9, .ref h3, .ref h4, .ref h5, .ref h6, .ref h7, .ref h8, .ref h9, .int h0f17, .int h0f18, .int h0f19, .ref h10, .ref h11, .ref h12, .ref h13, .int h0f24, .int h0f25, .ref h14, .ref h15, .ref h16, .ref h17, .int h0f30, .int h0f31, .ref h18, .ref h19, .ref h20, .ref h21]), (h4, aJ (k 1) 9 (zJ [1, 2])), (h5, aJ (k 1) 9 (zJ [2, 3])), (h7, aJ (k 1) 4 anJ)] _ := hT
                  refine lv_iinc (v := 0) (lv' := [(5, .int 0), (6, .long v61), (4, .int 2), (0, .ref h0), (1, .int x1), (2, .int x2), (3, .int x3)]) hx hb dX11_takesOut_148 hl (k := 1) rfl (by decide) (by decide) rfl (fun ls hl => ?_)
                  refine lv_goto (tgt := 75) hx hb dX11_takesOut_151 (by decide) ?_
                  refine lv_iload hx hb dX11_takesOut_75 (lv_at hl 0 rfl) ?_
                  refine lv_iload_n hx hb dX11_takesOut_77 rfl (lv_at hl 4 rfl) ?_
                  refine lv_icmp_lt (tgt := 154) hx hb dX11_takesOut_78 (by decide) (fun c_69 => ?_) (fun c_69 => ?_)
                  · skip
                    have c_69 := ni_lt c_69 li_0 hq1
                    refine lv_aload_n hx hb dX11_takesOut_154 rfl (lv_at hl 3 rfl) ?_
                    refine tz_get (ci := 8) (v := .ref h4) (C := RX11) (F := TX11) (N := 36) hx hb hU iX11 hown hK hT 0 rfl rfl 11 (by decide) w796 (fun _ h9 => h9) rfl dX11_takesOut_155 ?_
                    refine lv_iconst (v := 0) hx hb dX11_takesOut_158 (by decide) ?_
                    refine tz_lald hx hb hK hT 1 rfl (by have := li_0; omega) dX11_takesOut_159 (fun v70 e_v70 => ?_)
                    clear e_v70
                    refine lv_lconst (v := 0) hx hb dX11_takesOut_160 (by decide) ?_
                    refine W.lcmp hx hb dX11_takesOut_161 ?_
                    refine lv_if_ne (tgt := 176) hx hb dX11_takesOut_162 (by decide) (fun c_71 => ?_) (fun c_71 => ?_)
                    · skip
                      have c_71 := nl_ne c_71 rfl ll_0
                      refine lv_iconst (v := 0) hx hb dX11_takesOut_176 (by decide) ?_
                      have hT := hT.wk (q := 1) rfl (an_J (c := k 1) (n := 9))
                      have hT : TP D A [(h0, ob 8 [.int h0f0, .int h0f1, .int h0f2, .int h0f3, .int h0f4, .int h0f5, .ref h1, .ref h2, .int h0f8, .int h0f9, .ref h3, .ref h4, .ref h5, .ref h6, .ref h7, .ref h8, .ref h9, .int h0f17, .int h0f18, .int h0f19, .ref h10, .ref h11, .ref h12, .ref h13, .int h0f24, .int h0f25, .ref h14, .ref h15, .ref h16, .ref h17, .int h0f30, .int h0f31, .ref h18, .ref h19, .ref h20, .ref h21]), (h4, aJ (k 1) 9 anJ), (h5, aJ (k 1) 9 (zJ [2, 3])), (h7, aJ (k 1) 4 anJ)] _ := hT
                      have hT := hT.wk (q := 2) rfl (an_J (c := k 1) (n := 9))
                      have hT : TP D A [(h0, ob 8 [.int h0f0, .int h0f1, .int h0f2, .int h0f3, .int h0f4, .int h0f5, .ref h1, .ref h2, .int h0f8, .int h0f9, .ref h3, .ref h4, .ref h5, .ref h6, .ref h7, .ref h8, .ref h9, .int h0f17, .int h0f18, .int h0f19, .ref h10, .ref h11, .ref h12, .ref h13, .int h0f24, .int h0f25, .ref h14, .ref h15, .ref h16, .ref h17, .int h0f30, .int h0f31, .ref h18, .ref h19, .ref h20, .ref h21]), (h4, aJ (k 1) 9 anJ), (h5, aJ (k 1) 9 anJ), (h7, aJ (k 1) 4 anJ)] _ := hT
                      exact tz_retZ (B := B_cX11_takesOut_ae7df D k h0 h4 h5 h7 h1 h2 h3 h6 h8 h9 h10 h11 h12 h13 h14 h15 h16 h17 h18 h19 h20 h21 x1 x2 x3 h0f0 h0f1 h0f2 h0f3 h0f4 h0f5 h0f8 h0f9 h0f17 h0f18 h0f19 h0f24 h0f25 h0f30 h0f31) (v := 0) hQ hx hb hr hlocks hS (Nat.le_of_ble_eq_true rfl) (Nat.le_of_ble_eq_true rfl) dX11_takesOut_177 (by have := li_0; omega) (Or.inl ⟨rfl, hT⟩)
                    · skip
                      have c_71 := nl_eq c_71 rfl ll_0
                      refine lv_aload_n hx hb dX11_takesOut_165 rfl (lv_at hl 3 rfl) ?_
                      refine tz_get (ci := 8) (v := .ref h4) (C := RX11) (F := TX11) (N := 36) hx hb hU iX11 hown hK hT 0 rfl rfl 11 (by decide) w796 (fun _ h9 => h9) rfl dX11_takesOut_166 ?_
                      refine lv_iconst (v := 1) hx hb dX11_takesOut_169 (by decide) ?_
                      refine tz_lald hx hb hK hT 1 rfl (by have := li_1; omega) dX11_takesOut_170 (fun v72 e_v72 => ?_)
                      have e_v72 := z_get (z := 1) e_v72 li_1 (by decide)
                      subst e_v72
                      refine lv_lconst (v := 0) hx hb dX11_takesOut_171 (by decide) ?_
                      refine W.lcmp hx hb dX11_takesOut_172 (sv_i (v := 0) (by decide +kernel) ?_)
                      refine lv_if_eq (tgt := 178) hx hb dX11_takesOut_173 (by decide) (fun _ => ?_) (fun cc => absurd (by decide +kernel) cc)
                      refine lv_iconst (v := 0) hx hb dX11_takesOut_178 (by decide) ?_
                      refine lv_istore (lv' := [(5, .int 0), (6, .long v61), (4, .int 2), (0, .ref h0), (1, .int x1), (2, .int x2), (3, .int x3)]) hx hb dX11_takesOut_179 hl (by decide) rfl (fun ls hl => ?_)
                      refine lv_iload hx hb dX11_takesOut_181 (lv_at hl 0 rfl) ?_
                      refine lv_iconst (v := 4) hx hb dX11_takesOut_183 (by decide) ?_
                      refine lv_icmp_ge (tgt := 207) hx hb dX11_takesOut_184 (by decide) (fun cc => absurd cc (by decide +kernel)) (fun _ => ?_)
                      refine lv_aload_n hx hb dX11_takesOut_187 rfl (lv_at hl 3 rfl) ?_
                      refine tz_get (ci := 8) (v := .ref h7) (C := RX11) (F := TX11) (N := 36) hx hb hU iX11 hown hK hT 0 rfl rfl 14 (by decide) w799 (fun _ h9 => h9) rfl dX11_takesOut_188 ?_
                      refine lv_iload hx hb dX11_takesOut_191 (lv_at hl 0 rfl) ?_
                      refine lv_aload_n hx hb dX11_takesOut_193 rfl (lv_at hl 3 rfl) ?_
                      refine tz_get (ci := 8) (v := .ref h5) (C := RX11) (F := TX11) (N := 36) hx hb hU iX11 hown hK hT 0 rfl rfl 12 (by decide) w797 (fun _ h9 => h9) rfl dX11_takesOut_194 ?_
                      refine lv_iload hx hb dX11_takesOut_197 (lv_at hl 0 rfl) ?_
                      refine tz_lald hx hb hK hT 2 rfl (by have := li_0; omega) dX11_takesOut_199 (fun v73 e_v73 => ?_)
                      clear e_v73
                      have hT := hT.wk (q := 3) rfl (z_of (c := k 1) (n := 4))
                      have hT : TP D A [(h0, ob 8 [.int h0f0, .int h0f1, .int h0f2, .int h0f3, .int h0f4, .int h0f5, .ref h1, .ref h2, .int h0f8, .int h0f9, .ref h3, .ref h4, .ref h5, .ref h6, .ref h7, .ref h8, .ref h9, .int h0f17, .int h0f18, .int h0f19, .ref h10, .ref h11, .ref h12, .ref h13, .int h0f24, .int h0f25, .ref h14, .ref h15, .ref h16, .ref h17, .int h0f30, .int h0f31, .ref h18, .ref h19, .ref h20, .ref h21]), (h4, aJ (k 1) 9 (zJ [1, 2])), (h5, aJ (k 1) 9 (zJ [2, 3])), (h7, aJ (k 1) 4 (zJ []))] _ := hT
                      refine tz_lastP hx hb hK hT hS 3 (zJ []) rfl (by have := li_0; omega) (z_putx (z := 0) li_0 (by decide)) dX11_takesOut_200 (fun H locs hT hS => ?_)
                      have hT : TP D A [(h0, ob 8 [.int h0f0, .int h0f1, .int h0f2, .int h0f3, .int h0f4, .int h0f5, .ref h1, .ref h2, .int h0f8, .int h0f9, .ref h3, .ref h4, .ref h5, .ref h6, .ref h7, .ref h8, .ref h9, .int h0f17, .int h0f18, .int h0f19, .ref h10, .ref h11, .ref h12, .ref h13, .int h0f24, .int h0f25, .ref h14, .ref h15, .ref h16, .ref h17, .int h0f30, .int h0f31, .ref h18, .ref h19, .ref h20, .ref h21]), (h4, aJ (k 1) 9 (zJ [1, 2])), (h5, aJ (k 1) 9 (zJ [2, 3])), (h7, aJ (k 1) 4 (zJ []))] _ := hT
                      refine lv_iinc (v := 1) (lv' := [(5, .int 1), (6, .long v61), (4, .int 2), (0, .ref h0), (1, .int x1), (2, .int x2), (3, .int x3)]) hx hb dX11_takesOut_201 hl (k := 0) rfl (by decide) (by decide) rfl (fun ls hl => ?_)
                      refine lv_goto (tgt := 181) hx hb dX11_takesOut_204 (by decide) ?_
                      refine lv_iload hx hb dX11_takesOut_181 (lv_at hl 0 rfl) ?_
                      refine lv_iconst (v := 4) hx hb dX11_takesOut_183 (by decide) ?_
                      refine lv_icmp_ge (tgt := 207) hx hb dX11_takesOut_184 (by decide) (fun cc => absurd cc (by decide +kernel)) (fun _ => ?_)
                      refine lv_aload_n hx hb dX11_takesOut_187 rfl (lv_at hl 3 rfl) ?_
                      refine tz_get (ci := 8) (v := .ref h7) (C := RX11) (F := TX11) (N := 36) hx hb hU iX11 hown hK hT 0 rfl rfl 14 (by decide) w799 (fun _ h9 => h9) rfl dX11_takesOut_188 ?_
                      refine lv_iload hx hb dX11_takesOut_191 (lv_at hl 0 rfl) ?_
                      refine lv_aload_n hx hb dX11_takesOut_193 rfl (lv_at hl 3 rfl) ?_
                      refine tz_get (ci := 8) (v := .ref h5) (C := RX11) (F := TX11) (N := 36) hx hb hU iX11 hown hK hT 0 rfl rfl 12 (by decide) w797 (fun _ h9 => h9) rfl dX11_takesOut_194 ?_
                      refine lv_iload hx hb dX11_takesOut_197 (lv_at hl 0 rfl) ?_
                      refine tz_lald hx hb hK hT 2 rfl (by have := li_1; omega) dX11_takesOut_199 (fun v74 e_v74 => ?_)
                      clear e_v74
                      refine tz_lastP hx hb hK hT hS 3 (zJ []) rfl (by have := li_1; omega) (z_putx (z := 1) li_1 (by decide)) dX11_takesOut_200 (fun H locs hT hS => ?_)
                      have hT : TP D A [(h0, ob 8 [.int h0f0, .int h0f1, .int h0f2, .int h0f3, .int h0f4, .int h0f5, .ref h1, .ref h2, .int h0f8, .int h0f9, .ref h3, .ref h4, .ref h5, .ref h6, .ref h7, .ref h8, .ref h9, .int h0f17, .int h0f18, .int h0f19, .ref h10, .ref h11, .ref h12, .ref h13, .int h0f24, .int h0f25, .ref h14, .ref h15, .ref h16, .ref h17, .int h0f30, .int h0f31, .ref h18, .ref h19, .ref h20, .ref h21]), (h4, aJ (k 1) 9 (zJ [1, 2])), (h5, aJ (k 1) 9 (zJ [2, 3])), (h7, aJ (k 1) 4 (zJ []))] _ := hT
                      refine lv_iinc (v := 2) (lv' := [(5, .int 2), (6, .long v61), (4, .int 2), (0, .ref h0), (1, .int x1), (2, .int x2), (3, .int x3)]) hx hb dX11_takesOut_201 hl (k := 0) rfl (by decide) (by decide) rfl (fun ls hl => ?_)
                      refine lv_goto (tgt := 181) hx hb dX11_takesOut_204 (by decide) ?_
                      refine lv_iload hx hb dX11_takesOut_181 (lv_at hl 0 rfl) ?_
                      refine lv_iconst (v := 4) hx hb dX11_takesOut_183 (by decide) ?_
                      refine lv_icmp_ge (tgt := 207) hx hb dX11_takesOut_184 (by decide) (fun cc => absurd cc (by decide +kernel)) (fun _ => ?_)
                      refine lv_aload_n hx hb dX11_takesOut_187 rfl (lv_at hl 3 rfl) ?_
                      refine tz_get (ci := 8) (v := .ref h7) (C := RX11) (F := TX11) (N := 36) hx hb hU iX11 hown hK hT 0 rfl rfl 14 (by decide) w799 (fun _ h9 => h9) rfl dX11_takesOut_188 ?_
                      refine lv_iload hx hb dX11_takesOut_191 (lv_at hl 0 rfl) ?_
                      refine lv_aload_n hx hb dX11_takesOut_193 rfl (lv_at hl 3 rfl) ?_
                      refine tz_get (ci := 8) (v := .ref h5) (C := RX11) (F := TX11) (N := 36) hx hb hU iX11 hown hK hT 0 rfl rfl 12 (by decide) w797 (fun _ h9 => h9) rfl dX11_takesOut_194 ?_
                      refine lv_iload hx hb dX11_takesOut_197 (lv_at hl 0 rfl) ?_
                      refine tz_lald hx hb hK hT 2 rfl (by have := li_2; omega) dX11_takesOut_199 (fun v75 e_v75 => ?_)
                      have e_v75 := z_get (z := 2) e_v75 li_2 (by decide)
                      subst e_v75
                      refine tz_lastP hx hb hK hT hS 3 (zJ [2]) rfl (by have := li_2; omega) (z_put0 (z := 2) li_2 (by decide)) dX11_takesOut_200 (fun H locs hT hS => ?_)
                      have hT : TP D A [(h0, ob 8 [.int h0f0, .int h0f1, .int h0f2, .int h0f3, .int h0f4, .int h0f5, .ref h1, .ref h2, .int h0f8, .int h0f9, .ref h3, .ref h4, .ref h5, .ref h6, .ref h7, .ref h8, .ref h9, .int h0f17, .int h0f18, .int h0f19, .ref h10, .ref h11, .ref h12, .ref h13, .int h0f24, .int h0f25, .ref h14, .ref h15, .ref h16, .ref h17, .int h0f30, .int h0f31, .ref h18, .ref h19, .ref h20, .ref h21]), (h4, aJ (k 1) 9 (zJ [1, 2])), (h5, aJ (k 1) 9 (zJ [2, 3])), (h7, aJ (k 1) 4 (zJ [2]))] _ := hT
                      refine lv_iinc (v := 3) (lv' := [(5, .int 3), (6, .long v61), (4, .int 2), (0, .ref h0), (1, .int x1), (2, .int x2), (3, .int x3)]) hx hb dX11_takesOut_201 hl (k := 0) rfl (by decide) (by decide) rfl (fun ls hl => ?_)
                      refine lv_goto (tgt := 181) hx hb dX11_takesOut_204 (by decide) ?_
                      refine lv_iload hx hb dX11_takesOut_181 (lv_at hl 0 rfl) ?_
                      refine lv_iconst (v := 4) hx hb dX11_takesOut_183 (by decide) ?_
                      refine lv_icmp_ge (tgt := 207) hx hb dX11_takesOut_184 (by decide) (fun cc => absurd cc (by decide +kernel)) (fun _ => ?_)
                      refine lv_aload_n hx hb dX11_takesOut_187 rfl (lv_at hl 3 rfl) ?_
                      refine tz_get (ci := 8) (v := .ref h7) (C := RX11) (F := TX11) (N := 36) hx hb hU iX11 hown hK hT 0 rfl rfl 14 (by decide) w799 (fun _ h9 => h9) rfl dX11_takesOut_188 ?_
                      refine lv_iload hx hb dX11_takesOut_191 (lv_at hl 0 rfl) ?_
                      refine lv_aload_n hx hb dX11_takesOut_193 rfl (lv_at hl 3 rfl) ?_
                      refine tz_get (ci := 8) (v := .ref h5) (C := RX11) (F := TX11) (N := 36) hx hb hU iX11 hown hK hT 0 rfl rfl 12 (by decide) w797 (fun _ h9 => h9) rfl dX11_takesOut_194 ?_
                      refine lv_iload hx hb dX11_takesOut_197 (lv_at hl 0 rfl) ?_
                      refine tz_lald hx hb hK hT 2 rfl (by have := li_3; omega) dX11_takesOut_199 (fun v76 e_v76 => ?_)
                      have e_v76 := z_get (z := 3) e_v76 li_3 (by decide)
                      subst e_v76
                      refine tz_lastP hx hb hK hT hS 3 (zJ [2, 3]) rfl (by have := li_3; omega) (z_put0 (z := 3) li_3 (by decide)) dX11_takesOut_200 (fun H locs hT hS => ?_)
                      have hT : TP D A [(h0, ob 8 [.int h0f0, .int h0f1, .int h0f2, .int h0f3, .int h0f4, .int h0f5, .ref h1, .ref h2, .int h0f8, .int h0f9, .ref h3, .ref h4, .ref h5, .ref h6, .ref h7, .ref h8, .ref h9, .int h0f17, .int h0f18, .int h0f19, .ref h10, .ref h11, .ref h12, .ref h13, .int h0f24, .int h0f25, .ref h14, .ref h15, .ref h16, .ref h17, .int h0f30, .int h0f31, .ref h18, .ref h19, .ref h20, .ref h21]), (h4, aJ (k 1) 9 (zJ [1, 2])), (h5, aJ (k 1) 9 (zJ [2, 3])), (h7, aJ (k 1) 4 (zJ [2, 3]))] _ := hT
                      refine lv_iinc (v := 4) (lv' := [(5, .int 4), (6, .long v61), (4, .int 2), (0, .ref h0), (1, .int x1), (2, .int x2), (3, .int x3)]) hx hb dX11_takesOut_201 hl (k := 0) rfl (by decide) (by decide) rfl (fun ls hl => ?_)
                      refine lv_goto (tgt := 181) hx hb dX11_takesOut_204 (by decide) ?_
                      refine lv_iload hx hb dX11_takesOut_181 (lv_at hl 0 rfl) ?_
                      refine lv_iconst (v := 4) hx hb dX11_takesOut_183 (by decide) ?_
                      refine lv_icmp_ge (tgt := 207) hx hb dX11_takesOut_184 (by decide) (fun _ => ?_) (fun cc => absurd (by decide +kernel) cc)
                      refine lv_iconst (v := 1) hx hb dX11_takesOut_207 (by decide) ?_
                      have hT := hT.wk (q := 1) rfl (an_J (c := k 1) (n := 9))
                      have hT : TP D A [(h0, ob 8 [.int h0f0, .int h0f1, .int h0f2, .int h0f3, .int h0f4, .int h0f5, .ref h1, .ref h2, .int h0f8, .int h0f9, .ref h3, .ref h4, .ref h5, .ref h6, .ref h7, .ref h8, .ref h9, .int h0f17, .int h0f18, .int h0f19, .ref h10, .ref h11, .ref h12, .ref h13, .int h0f24, .int h0f25, .ref h14, .ref h15, .ref h16, .ref h17, .int h0f30, .int h0f31, .ref h18, .ref h19, .ref h20, .ref h21]), (h4, aJ (k 1) 9 anJ), (h5, aJ (k 1) 9 (zJ [2, 3])), (h7, aJ (k 1) 4 (zJ [2, 3]))] _ := hT
                      have hT := hT.wk (q := 2) rfl (an_J (c := k 1) (n := 9))
                      have hT : TP D A [(h0, ob 8 [.int h0f0, .int h0f1, .int h0f2, .int h0f3, .int h0f4, .int h0f5, .ref h1, .ref h2, .int h0f8, .int h0f9, .ref h3, .ref h4, .ref h5, .ref h6, .ref h7, .ref h8, .ref h9, .int h0f17, .int h0f18, .int h0f19, .ref h10, .ref h11, .ref h12, .ref h13, .int h0f24, .int h0f25, .ref h14, .ref h15, .ref h16, .ref h17, .int h0f30, .int h0f31, .ref h18, .ref h19, .ref h20, .ref h21]), (h4, aJ (k 1) 9 anJ), (h5, aJ (k 1) 9 anJ), (h7, aJ (k 1) 4 (zJ [2, 3]))] _ := hT
                      have hT := hT.wk (q := 3) rfl (z_sub (c := k 1) (n := 4) (l := [2, 3]) (m := [3]) (by decide))
                      have hT : TP D A [(h0, ob 8 [.int h0f0, .int h0f1, .int h0f2, .int h0f3, .int h0f4, .int h0f5, .ref h1, .ref h2, .int h0f8, .int h0f9, .ref h3, .ref h4, .ref h5, .ref h6, .ref h7, .ref h8, .ref h9, .int h0f17, .int h0f18, .int h0f19, .ref h10, .ref h11, .ref h12, .ref h13, .int h0f24, .int h0f25, .ref h14, .ref h15, .ref h16, .ref h17, .int h0f30, .int h0f31, .ref h18, .ref h19, .ref h20, .ref h21]), (h4, aJ (k 1) 9 anJ), (h5, aJ (k 1) 9 anJ), (h7, aJ (k 1) 4 (zJ [3]))] _ := hT
                      exact tz_retZ (B := B_cX11_takesOut_ae7df D k h0 h4 h5 h7 h1 h2 h3 h6 h8 h9 h10 h11 h12 h13 h14 h15 h16 h17 h18 h19 h20 h21 x1 x2 x3 h0f0 h0f1 h0f2 h0f3 h0f4 h0f5 h0f8 h0f9 h0f17 h0f18 h0f19 h0f24 h0f25 h0f30 h0f31) (v := 1) hQ hx hb hr hlocks hS (Nat.le_of_ble_eq_true rfl) (Nat.le_of_ble_eq_true rfl) dX11_takesOut_208 (by have := li_1; omega) (Or.inr (Or.inr (Or.inl ⟨v2, v44, v70, (by have := li_1; omega), (by have := li_1; omega), (by have := li_1; omega), (by have := li_1; omega), (by have := li_1; omega), (by have := li_1; omega), (by have := li_1; omega), (by have := li_1; omega), (by have := li_1; omega), (by have := li_1; omega), (by have := li_1; omega), (by have := li_1; omega), rfl, hT⟩)))
                  · skip
                    have c_69 := ni_nlt c_69 li_0 hq1
                    exfalso; omega
                · skip
                  have c_68 := ni_eq c_68 hq1 li_2
                  exfalso; omega
            · skip
              have c_59 := ni_eq c_59 hq1 li_2
              exfalso; omega
        · skip
          have c_46 := ni_nle c_46 hq1 li_2
          exfalso; omega
      · skip
        have c_45 := nl_eq c_45 rfl ll_0
        refine lv_iinc (v := 1) (lv' := [(4, .int 1), (0, .ref h0), (1, .int x1), (2, .int x2), (3, .int x3)]) hx hb dX11_takesOut_20 hl (k := 0) rfl (by decide) (by decide) rfl (fun ls hl => ?_)
        refine lv_goto (tgt := 3) hx hb dX11_takesOut_23 (by decide) ?_
        refine lv_iload hx hb dX11_takesOut_3 (lv_at hl 0 rfl) ?_
        refine lv_if_le (tgt := 26) hx hb dX11_takesOut_5 (by decide) (fun cc => absurd cc (by decide +kernel)) (fun _ => ?_)
        refine lv_aload_n hx hb dX11_takesOut_8 rfl (lv_at hl 1 rfl) ?_
        refine tz_get (ci := 8) (v := .ref h7) (C := RX11) (F := TX11) (N := 36) hx hb hU iX11 hown hK hT 0 rfl rfl 14 (by decide) w799 (fun _ h9 => h9) rfl dX11_takesOut_9 ?_
        refine lv_iload hx hb dX11_takesOut_12 (lv_at hl 0 rfl) ?_
        refine tz_lald hx hb hK hT 3 rfl (by have := li_1; omega) dX11_takesOut_14 (fun v77 e_v77 => ?_)
        clear e_v77
        refine lv_lconst (v := 0) hx hb dX11_takesOut_15 (by decide) ?_
        refine W.lcmp hx hb dX11_takesOut_16 ?_
        refine lv_if_ne (tgt := 26) hx hb dX11_takesOut_17 (by decide) (fun c_78 => ?_) (fun c_78 => ?_)
        · skip
          have c_78 := nl_ne c_78 rfl ll_0
          refine lv_iload hx hb dX11_takesOut_26 (lv_at hl 0 rfl) ?_
          refine lv_iload_n hx hb dX11_takesOut_28 rfl (lv_at hl 2 rfl) ?_
          refine lv_icmp_ge (tgt := 34) hx hb dX11_takesOut_29 (by decide) (fun c_79 => ?_) (fun c_79 => ?_)
          · skip
            have c_79 := ni_le c_79 hq1 li_1
            refine lv_iconst (v := 0) hx hb dX11_takesOut_34 (by decide) ?_
            refine lv_istore (lv' := [(5, .int 0), (4, .int 1), (0, .ref h0), (1, .int x1), (2, .int x2), (3, .int x3)]) hx hb dX11_takesOut_35 hl (by decide) rfl (fun ls hl => ?_)
            refine lv_iload hx hb dX11_takesOut_37 (lv_at hl 0 rfl) ?_
            refine lv_iconst (v := 4) hx hb dX11_takesOut_39 (by decide) ?_
            refine lv_icmp_ge (tgt := 71) hx hb dX11_takesOut_40 (by decide) (fun cc => absurd cc (by decide +kernel)) (fun _ => ?_)
            refine lv_aload_n hx hb dX11_takesOut_43 rfl (lv_at hl 2 rfl) ?_
            refine tz_get (ci := 8) (v := .ref h4) (C := RX11) (F := TX11) (N := 36) hx hb hU iX11 hown hK hT 0 rfl rfl 11 (by decide) w796 (fun _ h9 => h9) rfl dX11_takesOut_44 ?_
            refine lv_iload hx hb dX11_takesOut_47 (lv_at hl 0 rfl) ?_
            refine lv_aload_n hx hb dX11_takesOut_49 rfl (lv_at hl 2 rfl) ?_
            refine tz_get (ci := 8) (v := .ref h7) (C := RX11) (F := TX11) (N := 36) hx hb hU iX11 hown hK hT 0 rfl rfl 14 (by decide) w799 (fun _ h9 => h9) rfl dX11_takesOut_50 ?_
            refine lv_iload hx hb dX11_takesOut_53 (lv_at hl 0 rfl) ?_
            refine tz_lald hx hb hK hT 3 rfl (by have := li_0; omega) dX11_takesOut_55 (fun v80 e_v80 => ?_)
            clear e_v80
            have hT := hT.wk (q := 1) rfl (z_of (c := k 1) (n := 9))
            have hT : TP D A [(h0, ob 8 [.int h0f0, .int h0f1, .int h0f2, .int h0f3, .int h0f4, .int h0f5, .ref h1, .ref h2, .int h0f8, .int h0f9, .ref h3, .ref h4, .ref h5, .ref h6, .ref h7, .ref h8, .ref h9, .int h0f17, .int h0f18, .int h0f19, .ref h10, .ref h11, .ref h12, .ref h13, .int h0f24, .int h0f25, .ref h14, .ref h15, .ref h16, .ref h17, .int h0f30, .int h0f31, .ref h18, .ref h19, .ref h20, .ref h21]), (h4, aJ (k 1) 9 (zJ [])), (h5, aJ (k 1) 9 anJ), (h7, aJ (k 1) 4 anJ)] _ := hT
            refine tz_lastP hx hb hK hT hS 1 (zJ []) rfl (by have := li_0; omega) (z_putx (z := 0) li_0 (by decide)) dX11_takesOut_56 (fun H locs hT hS => ?_)
            have hT : TP D A [(h0, ob 8 [.int h0f0, .int h0f1, .int h0f2, .int h0f3, .int h0f4, .int h0f5, .ref h1, .ref h2, .int h0f8, .int h0f9, .ref h3, .ref h4, .ref h5, .ref h6, .ref h7, .ref h8, .ref h9, .int h0f17, .int h0f18, .int h0f19, .ref h10, .ref h11, .ref h12, .ref h13, .int h0f24, .int h0f25, .ref h14, .ref h15, .ref h16, .ref h17, .int h0f30, .int h0f31, .ref h18, .ref h19, .ref h20, .ref h21]), (h4, aJ (k 1) 9 (zJ [])), (h5, aJ (k 1) 9 anJ), (h7, aJ (k 1) 4 anJ)] _ := hT
            refine lv_aload_n hx hb dX11_takesOut_57 rfl (lv_at hl 2 rfl) ?_
            refine tz_get (ci := 8) (v := .ref h5) (C := RX11) (F := TX11) (N := 36) hx hb hU iX11 hown hK hT 0 rfl rfl 12 (by decide) w797 (fun _ h9 => h9) rfl dX11_takesOut_58 ?_
            refine lv_iload hx hb dX11_takesOut_61 (lv_at hl 0 rfl) ?_
            refine lv_lconst (v := 0) hx hb dX11_takesOut_63 (by decide) ?_
            have hT := hT.wk (q := 2) rfl (z_of (c := k 1) (n := 9))
            have hT : TP D A [(h0, ob 8 [.int h0f0, .int h0f1, .int h0f2, .int h0f3, .int h0f4, .int h0f5, .ref h1, .ref h2, .int h0f8, .int h0f9, .ref h3, .ref h4, .ref h5, .ref h6, .ref h7, .ref h8, .ref h9, .int h0f17, .int h0f18, .int h0f19, .ref h10, .ref h11, .ref h12, .ref h13, .int h0f24, .int h0f25, .ref h14, .ref h15, .ref h16, .ref h17, .int h0f30, .int h0f31, .ref h18, .ref h19, .ref h20, .ref h21]), (h4, aJ (k 1) 9 (zJ [])), (h5, aJ (k 1) 9 (zJ [])), (h7, aJ (k 1) 4 anJ)] _ := hT
            refine tz_lastP hx hb hK hT hS 2 (zJ [0]) rfl (by have := li_0; omega) (z_put0 (z := 0) li_0 (by decide)) dX11_takesOut_64 (fun H locs hT hS => ?_)
            have hT : TP D A [(h0, ob 8 [.int h0f0, .int h0f1, .int h0f2, .int h0f3, .int h0f4, .int h0f5, .ref h1, .ref h2, .int h0f8, .int h0f9, .ref h3, .ref h4, .ref h5, .ref h6, .ref h7, .ref h8, .ref h9, .int h0f17, .int h0f18, .int h0f19, .ref h10, .ref h11, .ref h12, .ref h13, .int h0f24, .int h0f25, .ref h14, .ref h15, .ref h16, .ref h17, .int h0f30, .int h0f31, .ref h18, .ref h19, .ref h20, .ref h21]), (h4, aJ (k 1) 9 (zJ [])), (h5, aJ (k 1) 9 (zJ [0])), (h7, aJ (k 1) 4 anJ)] _ := hT
            refine lv_iinc (v := 1) (lv' := [(5, .int 1), (4, .int 1), (0, .ref h0), (1, .int x1), (2, .int x2), (3, .int x3)]) hx hb dX11_takesOut_65 hl (k := 0) rfl (by decide) (by decide) rfl (fun ls hl => ?_)
            refine lv_goto (tgt := 37) hx hb dX11_takesOut_68 (by decide) ?_
            refine lv_iload hx hb dX11_takesOut_37 (lv_at hl 0 rfl) ?_
            refine lv_iconst (v := 4) hx hb dX11_takesOut_39 (by decide) ?_
            refine lv_icmp_ge (tgt := 71) hx hb dX11_takesOut_40 (by decide) (fun cc => absurd cc (by decide +kernel)) (fun _ => ?_)
            refine lv_aload_n hx hb dX11_takesOut_43 rfl (lv_at hl 2 rfl) ?_
            refine tz_get (ci := 8) (v := .ref h4) (C := RX11) (F := TX11) (N := 36) hx hb hU iX11 hown hK hT 0 rfl rfl 11 (by decide) w796 (fun _ h9 => h9) rfl dX11_takesOut_44 ?_
            refine lv_iload hx hb dX11_takesOut_47 (lv_at hl 0 rfl) ?_
            refine lv_aload_n hx hb dX11_takesOut_49 rfl (lv_at hl 2 rfl) ?_
            refine tz_get (ci := 8) (v := .ref h7) (C := RX11) (F := TX11) (N := 36) hx hb hU iX11 hown hK hT 0 rfl rfl 14 (by decide) w799 (fun _ h9 => h9) rfl dX11_takesOut_50 ?_
            refine lv_iload hx hb dX11_takesOut_53 (lv_at hl 0 rfl) ?_
            refine tz_lald hx hb hK hT 3 rfl (by have := li_1; omega) dX11_takesOut_55 (fun v81 e_v81 => ?_)
            clear e_v81
            refine tz_lastP hx hb hK hT hS 1 (zJ []) rfl (by have := li_1; omega) (z_putx (z := 1) li_1 (by decide)) dX11_takesOut_56 (fun H locs hT hS => ?_)
            have hT : TP D A [(h0, ob 8 [.int h0f0, .int h0f1, .int h0f2, .int h0f3, .int h0f4, .int h0f5, .ref h1, .ref h2, .int h0f8, .int h0f9, .ref h3, .ref h4, .ref h5, .ref h6, .ref h7, .ref h8, .ref h9, .int h0f17, .int h0f18, .int h0f19, .ref h10, .ref h11, .ref h12, .ref h13, .int h0f24, .int h0f25, .ref h14, .ref h15, .ref h16, .ref h17, .int h0f30, .int h0f31, .ref h18, .ref h19, .ref h20, .ref h21]), (h4, aJ (k 1) 9 (zJ [])), (h5, aJ (k 1) 9 (zJ [0])), (h7, aJ (k 1) 4 anJ)] _ := hT
            refine lv_aload_n hx hb dX11_takesOut_57 rfl (lv_at hl 2 rfl) ?_
            refine tz_get (ci := 8) (v := .ref h5) (C := RX11) (F := TX11) (N := 36) hx hb hU iX11 hown hK hT 0 rfl rfl 12 (by decide) w797 (fun _ h9 => h9) rfl dX11_takesOut_58 ?_
            refine lv_iload hx hb dX11_takesOut_61 (lv_at hl 0 rfl) ?_
            refine lv_lconst (v := 0) hx hb dX11_takesOut_63 (by decide) ?_
            refine tz_lastP hx hb hK hT hS 2 (zJ [0, 1]) rfl (by have := li_1; omega) (z_put0 (z := 1) li_1 (by decide)) dX11_takesOut_64 (fun H locs hT hS => ?_)
            have hT : TP D A [(h0, ob 8 [.int h0f0, .int h0f1, .int h0f2, .int h0f3, .int h0f4, .int h0f5, .ref h1, .ref h2, .int h0f8, .int h0f9, .ref h3, .ref h4, .ref h5, .ref h6, .ref h7, .ref h8, .ref h9, .int h0f17, .int h0f18, .int h0f19, .ref h10, .ref h11, .ref h12, .ref h13, .int h0f24, .int h0f25, .ref h14, .ref h15, .ref h16, .ref h17, .int h0f30, .int h0f31, .ref h18, .ref h19, .ref h20, .ref h21]), (h4, aJ (k 1) 9 (zJ [])), (h5, aJ (k 1) 9 (zJ [0, 1])), (h7, aJ (k 1) 4 anJ)] _ := hT
            refine lv_iinc (v := 2) (lv' := [(5, .int 2), (4, .int 1), (0, .ref h0), (1, .int x1), (2, .int x2), (3, .int x3)]) hx hb dX11_takesOut_65 hl (k := 0) rfl (by decide) (by decide) rfl (fun ls hl => ?_)
            refine lv_goto (tgt := 37) hx hb dX11_takesOut_68 (by decide) ?_
            refine lv_iload hx hb dX11_takesOut_37 (lv_at hl 0 rfl) ?_
            refine lv_iconst (v := 4) hx hb dX11_takesOut_39 (by decide) ?_
            refine lv_icmp_ge (tgt := 71) hx hb dX11_takesOut_40 (by decide) (fun cc => absurd cc (by decide +kernel)) (fun _ => ?_)
            refine lv_aload_n hx hb dX11_takesOut_43 rfl (lv_at hl 2 rfl) ?_
            refine tz_get (ci := 8) (v := .ref h4) (C := RX11) (F := TX11) (N := 36) hx hb hU iX11 hown hK hT 0 rfl rfl 11 (by decide) w796 (fun _ h9 => h9) rfl dX11_takesOut_44 ?_
            refine lv_iload hx hb dX11_takesOut_47 (lv_at hl 0 rfl) ?_
            refine lv_aload_n hx hb dX11_takesOut_49 rfl (lv_at hl 2 rfl) ?_
            refine tz_get (ci := 8) (v := .ref h7) (C := RX11) (F := TX11) (N := 36) hx hb hU iX11 hown hK hT 0 rfl rfl 14 (by decide) w799 (fun _ h9 => h9) rfl dX11_takesOut_50 ?_
            refine lv_iload hx hb dX11_takesOut_53 (lv_at hl 0 rfl) ?_
            refine tz_lald hx hb hK hT 3 rfl (by have := li_2; omega) dX11_takesOut_55 (fun v82 e_v82 => ?_)
            clear e_v82
            refine tz_lastP hx hb hK hT hS 1 (zJ []) rfl (by have := li_2; omega) (z_putx (z := 2) li_2 (by decide)) dX11_takesOut_56 (fun H locs hT hS => ?_)
            have hT : TP D A [(h0, ob 8 [.int h0f0, .int h0f1, .int h0f2, .int h0f3, .int h0f4, .int h0f5, .ref h1, .ref h2, .int h0f8, .int h0f9, .ref h3, .ref h4, .ref h5, .ref h6, .ref h7, .ref h8, .ref h9, .int h0f17, .int h0f18, .int h0f19, .ref h10, .ref h11, .ref h12, .ref h13, .int h0f24, .int h0f25, .ref h14, .ref h15, .ref h16, .ref h17, .int h0f30, .int h0f31, .ref h18, .ref h19, .ref h20, .ref h21]), (h4, aJ (k 1) 9 (zJ [])), (h5, aJ (k 1) 9 (zJ [0, 1])), (h7, aJ (k 1) 4 anJ)] _ := hT
            refine lv_aload_n hx hb dX11_takesOut_57 rfl (lv_at hl 2 rfl) ?_
            refine tz_get (ci := 8) (v := .ref h5) (C := RX11) (F := TX11) (N := 36) hx hb hU iX11 hown hK hT 0 rfl rfl 12 (by decide) w797 (fun _ h9 => h9) rfl dX11_takesOut_58 ?_
            refine lv_iload hx hb dX11_takesOut_61 (lv_at hl 0 rfl) ?_
            refine lv_lconst (v := 0) hx hb dX11_takesOut_63 (by decide) ?_
            refine tz_lastP hx hb hK hT hS 2 (zJ [0, 1, 2]) rfl (by have := li_2; omega) (z_put0 (z := 2) li_2 (by decide)) dX11_takesOut_64 (fun H locs hT hS => ?_)
            have hT : TP D A [(h0, ob 8 [.int h0f0, .int h0f1, .int h0f2, .int h0f3, .int h0f4, .int h0f5, .ref h1, .ref h2, .int h0f8, .int h0f9, .ref h3, .ref h4, .ref h5, .ref h6, .ref h7, .ref h8, .ref h9, .int h0f17, .int h0f18, .int h0f19, .ref h10, .ref h11, .ref h12, .ref h13, .int h0f24, .int h0f25, .ref h14, .ref h15, .ref h16, .ref h17, .int h0f30, .int h0f31, .ref h18, .ref h19, .ref h20, .ref h21]), (h4, aJ (k 1) 9 (zJ [])), (h5, aJ (k 1) 9 (zJ [0, 1, 2])), (h7, aJ (k 1) 4 anJ)] _ := hT
            refine lv_iinc (v := 3) (lv' := [(5, .int 3), (4, .int 1), (0, .ref h0), (1, .int x1), (2, .int x2), (3, .int x3)]) hx hb dX11_takesOut_65 hl (k := 0) rfl (by decide) (by decide) rfl (fun ls hl => ?_)
            refine lv_goto (tgt := 37) hx hb dX11_takesOut_68 (by decide) ?_
            refine lv_iload hx hb dX11_takesOut_37 (lv_at hl 0 rfl) ?_
            refine lv_iconst (v := 4) hx hb dX11_takesOut_39 (by decide) ?_
            refine lv_icmp_ge (tgt := 71) hx hb dX11_takesOut_40 (by decide) (fun cc => absurd cc (by decide +kernel)) (fun _ => ?_)
            refine lv_aload_n hx hb dX11_takesOut_43 rfl (lv_at hl 2 rfl) ?_
            refine tz_get (ci := 8) (v := .ref h4) (C := RX11) (F := TX11) (N := 36) hx hb hU iX11 hown hK hT 0 rfl rfl 11 (by decide) w796 (fun _ h9 => h9) rfl dX11_takesOut_44 ?_
            refine lv_iload hx hb dX11_takesOut_47 (lv_at hl 0 rfl) ?_
            refine lv_aload_n hx hb dX11_takesOut_49 rfl (lv_at hl 2 rfl) ?_
            refine tz_get (ci := 8) (v := .ref h7) (C := RX11) (F := TX11) (N := 36) hx hb hU iX11 hown hK hT 0 rfl rfl 14 (by decide) w799 (fun _ h9 => h9) rfl dX11_takesOut_50 ?_
            refine lv_iload hx hb dX11_takesOut_53 (lv_at hl 0 rfl) ?_
            refine tz_lald hx hb hK hT 3 rfl (by have := li_3; omega) dX11_takesOut_55 (fun v83 e_v83 => ?_)
            clear e_v83
            refine tz_lastP hx hb hK hT hS 1 (zJ []) rfl (by have := li_3; omega) (z_putx (z := 3) li_3 (by decide)) dX11_takesOut_56 (fun H locs hT hS => ?_)
            have hT : TP D A [(h0, ob 8 [.int h0f0, .int h0f1, .int h0f2, .int h0f3, .int h0f4, .int h0f5, .ref h1, .ref h2, .int h0f8, .int h0f9, .ref h3, .ref h4, .ref h5, .ref h6, .ref h7, .ref h8, .ref h9, .int h0f17, .int h0f18, .int h0f19, .ref h10, .ref h11, .ref h12, .ref h13, .int h0f24, .int h0f25, .ref h14, .ref h15, .ref h16, .ref h17, .int h0f30, .int h0f31, .ref h18, .ref h19, .ref h20, .ref h21]), (h4, aJ (k 1) 9 (zJ [])), (h5, aJ (k 1) 9 (zJ [0, 1, 2])), (h7, aJ (k 1) 4 anJ)] _ := hT
            refine lv_aload_n hx hb dX11_takesOut_57 rfl (lv_at hl 2 rfl) ?_
            refine tz_get (ci := 8) (v := .ref h5) (C := RX11) (F := TX11) (N := 36) hx hb hU iX11 hown hK hT 0 rfl rfl 12 (by decide) w797 (fun _ h9 => h9) rfl dX11_takesOut_58 ?_
            refine lv_iload hx hb dX11_takesOut_61 (lv_at hl 0 rfl) ?_
            refine lv_lconst (v := 0) hx hb dX11_takesOut_63 (by decide) ?_
            refine tz_lastP hx hb hK hT hS 2 (zJ [0, 1, 2, 3]) rfl (by have := li_3; omega) (z_put0 (z := 3) li_3 (by decide)) dX11_takesOut_64 (fun H locs hT hS => ?_)
            have hT : TP D A [(h0, ob 8 [.int h0f0, .int h0f1, .int h0f2, .int h0f3, .int h0f4, .int h0f5, .ref h1, .ref h2, .int h0f8, .int h0f9, .ref h3, .ref h4, .ref h5, .ref h6, .ref h7, .ref h8, .ref h9, .int h0f17, .int h0f18, .int h0f19, .ref h10, .ref h11, .ref h12, .ref h13, .int h0f24, .int h0f25, .ref h14, .ref h15, .ref h16, .ref h17, .int h0f30, .int h0f31, .ref h18, .ref h19, .ref h20, .ref h21]), (h4, aJ (k 1) 9 (zJ [])), (h5, aJ (k 1) 9 (zJ [0, 1, 2, 3])), (h7, aJ (k 1) 4 anJ)] _ := hT
            refine lv_iinc (v := 4) (lv' := [(5, .int 4), (4, .int 1), (0, .ref h0), (1, .int x1), (2, .int x2), (3, .int x3)]) hx hb dX11_takesOut_65 hl (k := 0) rfl (by decide) (by decide) rfl (fun ls hl => ?_)
            refine lv_goto (tgt := 37) hx hb dX11_takesOut_68 (by decide) ?_
            refine lv_iload hx hb dX11_takesOut_37 (lv_at hl 0 rfl) ?_
            refine lv_iconst (v := 4) hx hb dX11_takesOut_39 (by decide) ?_
            refine lv_icmp_ge (tgt := 71) hx hb dX11_takesOut_40 (by decide) (fun _ => ?_) (fun cc => absurd (by decide +kernel) cc)
            refine lv_iload hx hb dX11_takesOut_71 (lv_at hl 1 rfl) ?_
            refine lv_istore (lv' := [(5, .int 1), (4, .int 1), (0, .ref h0), (1, .int x1), (2, .int x2), (3, .int x3)]) hx hb dX11_takesOut_73 hl (by decide) rfl (fun ls hl => ?_)
            refine lv_iload hx hb dX11_takesOut_75 (lv_at hl 0 rfl) ?_
            refine lv_iload_n hx hb dX11_takesOut_77 rfl (lv_at hl 3 rfl) ?_
            refine lv_icmp_lt (tgt := 154) hx hb dX11_takesOut_78 (by decide) (fun c_84 => ?_) (fun c_84 => ?_)
            · skip
              have c_84 := ni_lt c_84 li_1 hq1
              exfalso; omega
            · skip
              have c_84 := ni_nlt c_84 li_1 hq1
              refine lv_aload_n hx hb dX11_takesOut_81 rfl (lv_at hl 2 rfl) ?_
              refine tz_get (ci := 8) (v := .ref h4) (C := RX11) (F := TX11) (N := 36) hx hb hU iX11 hown hK hT 0 rfl rfl 11 (by decide) w796 (fun _ h9 => h9) rfl dX11_takesOut_82 ?_
              refine lv_iload hx hb dX11_takesOut_85 (lv_at hl 0 rfl) ?_
              refine tz_lald hx hb hK hT 1 rfl (by have := li_1; omega) dX11_takesOut_87 (fun v85 e_v85 => ?_)
              clear e_v85
              refine lv_lstore (lv' := [(6, .long v85), (5, .int 1), (4, .int 1), (0, .ref h0), (1, .int x1), (2, .int x2), (3, .int x3)]) hx hb dX11_takesOut_88 hl (by decide) rfl (fun ls hl => ?_)
              refine lv_aload_n hx hb dX11_takesOut_90 rfl (lv_at hl 3 rfl) ?_
              refine tz_get (ci := 8) (v := .ref h5) (C := RX11) (F := TX11) (N := 36) hx hb hU iX11 hown hK hT 0 rfl rfl 12 (by decide) w797 (fun _ h9 => h9) rfl dX11_takesOut_91 ?_
              refine lv_iload hx hb dX11_takesOut_94 (lv_at hl 1 rfl) ?_
              refine lv_iload_n hx hb dX11_takesOut_96 rfl (lv_at hl 4 rfl) ?_
              refine lv_isub hx hb dX11_takesOut_97 (lv_topi (fun v86 e_v86 => ?_))
              have e_v86 := ai_sub e_v86 li_1 hq1 (by omega)
              refine lv_lload hx hb dX11_takesOut_98 (lv_at hl 0 rfl) ?_
              refine tz_lastP hx hb hK hT hS 2 (zJ [1, 2, 3]) rfl (by omega) (z_putx (z := 0) (show v86.toInt = 0 by omega) (by decide)) dX11_takesOut_100 (fun H locs hT hS => ?_)
              have hT : TP D A [(h0, ob 8 [.int h0f0, .int h0f1, .int h0f2, .int h0f3, .int h0f4, .int h0f5, .ref h1, .ref h2, .int h0f8, .int h0f9, .ref h3, .ref h4, .ref h5, .ref h6, .ref h7, .ref h8, .ref h9, .int h0f17, .int h0f18, .int h0f19, .ref h10, .ref h11, .ref h12, .ref h13, .int h0f24, .int h0f25, .ref h14, .ref h15, .ref h16, .ref h17, .int h0f30, .int h0f31, .ref h18, .ref h19, .ref h20, .ref h21]), (h4, aJ (k 1) 9 (zJ [])), (h5, aJ (k 1) 9 (zJ [1, 2, 3])), (h7, aJ (k 1) 4 anJ)] _ := hT
              refine lv_aload_n hx hb dX11_takesOut_101 rfl (lv_at hl 3 rfl) ?_
              refine tz_get (ci := 8) (v := .ref h4) (C := RX11) (F := TX11) (N := 36) hx hb hU iX11 hown hK hT 0 rfl rfl 11 (by decide) w796 (fun _ h9 => h9) rfl dX11_takesOut_102 ?_
              refine lv_iload hx hb dX11_takesOut_105 (lv_at hl 1 rfl) ?_
              refine lv_iload_n hx hb dX11_takesOut_107 rfl (lv_at hl 4 rfl) ?_
              refine lv_isub hx hb dX11_takesOut_108 (lv_topi (fun v87 e_v87 => ?_))
              have e_v87 := ai_sub e_v87 li_1 hq1 (by omega)
              refine lv_dup2_11 hx hb dX11_takesOut_109 rfl rfl ?_
              refine tz_lald hx hb hK hT 1 rfl (by omega) dX11_takesOut_110 (fun v88 e_v88 => ?_)
              clear e_v88
              refine lv_lload hx hb dX11_takesOut_111 (lv_at hl 0 rfl) ?_
              refine lv_iload_n hx hb dX11_takesOut_113 rfl (lv_at hl 5 rfl) ?_
              obtain ⟨v89, e_v89⟩ : ∃ x : Int64, x2.toInt64 = x := ⟨_, rfl⟩
              refine lv_i2l (v := v89) hx hb dX11_takesOut_114 e_v89 ?_
              have e_v89 := ai_i2l e_v89 rfl
              refine lv_lmul hx hb dX11_takesOut_115 (lv_topl (fun v90 e_v90 => ?_))
              refine lv_lsub hx hb dX11_takesOut_116 (lv_topl (fun v91 e_v91 => ?_))
              refine tz_lastP hx hb hK hT hS 1 (zJ []) rfl (by omega) (z_putx (z := 0) (show v87.toInt = 0 by omega) (by decide)) dX11_takesOut_117 (fun H locs hT hS => ?_)
              have hT : TP D A [(h0, ob 8 [.int h0f0, .int h0f1, .int h0f2, .int h0f3, .int h0f4, .int h0f5, .ref h1, .ref h2, .int h0f8, .int h0f9, .ref h3, .ref h4, .ref h5, .ref h6, .ref h7, .ref h8, .ref h9, .int h0f17, .int h0f18, .int h0f19, .ref h10, .ref h11, .ref h12, .ref h13, .int h0f24, .int h0f25, .ref h14, .ref h15, .ref h16, .ref h17, .int h0f30, .int h0f31, .ref h18, .ref h19, .ref h20, .ref h21]), (h4, aJ (k 1) 9 (zJ [])), (h5, aJ (k 1) 9 (zJ [1, 2, 3])), (h7, aJ (k 1) 4 anJ)] _ := hT
              refine lv_iload_n hx hb dX11_takesOut_118 rfl (lv_at hl 4 rfl) ?_
              refine lv_iconst (v := 2) hx hb dX11_takesOut_119 (by decide) ?_
              refine lv_icmp_ne (tgt := 140) hx hb dX11_takesOut_120 (by decide) (fun c_92 => ?_) (fun c_92 => ?_)
              · skip
                have c_92 := ni_ne c_92 hq1 li_2
                refine lv_aload_n hx hb dX11_takesOut_140 rfl (lv_at hl 3 rfl) ?_
                refine tz_get (ci := 8) (v := .ref h4) (C := RX11) (F := TX11) (N := 36) hx hb hU iX11 hown hK hT 0 rfl rfl 11 (by decide) w796 (fun _ h9 => h9) rfl dX11_takesOut_141 ?_
                refine lv_iload hx hb dX11_takesOut_144 (lv_at hl 1 rfl) ?_
                refine lv_lconst (v := 0) hx hb dX11_takesOut_146 (by decide) ?_
                refine tz_lastP hx hb hK hT hS 1 (zJ [1]) rfl (by have := li_1; omega) (z_put0 (z := 1) li_1 (by decide)) dX11_takesOut_147 (fun H locs hT hS => ?_)
                have hT : TP D A [(h0, ob 8 [.int h0f0, .int h0f1, .int h0f2, .int h0f3, .int h0f4, .int h0f5, .ref h1, .ref h2, .int h0f8, .int h0f9, .ref h3, .ref h4, .ref h5, .ref h6, .ref h7, .ref h8, .ref h9, .int h0f17, .int h0f18, .int h0f19, .ref h10, .ref h11, .ref h12, .ref h13, .int h0f24, .int h0f25, .ref h14, .ref h15, .ref h16, .ref h17, .int h0f30, .int h0f31, .ref h18, .ref h19, .ref h20, .ref h21]), (h4, aJ (k 1) 9 (zJ [1])), (h5, aJ (k 1) 9 (zJ [1, 2, 3])), (h7, aJ (k 1) 4 anJ)] _ := hT
                refine lv_iinc (v := 0) (lv' := [(5, .int 0), (6, .long v85), (4, .int 1), (0, .ref h0), (1, .int x1), (2, .int x2), (3, .int x3)]) hx hb dX11_takesOut_148 hl (k := 1) rfl (by decide) (by decide) rfl (fun ls hl => ?_)
                refine lv_goto (tgt := 75) hx hb dX11_takesOut_151 (by decide) ?_
                refine lv_iload hx hb dX11_takesOut_75 (lv_at hl 0 rfl) ?_
                refine lv_iload_n hx hb dX11_takesOut_77 rfl (lv_at hl 4 rfl) ?_
                refine lv_icmp_lt (tgt := 154) hx hb dX11_takesOut_78 (by decide) (fun c_93 => ?_) (fun c_93 => ?_)
                · skip
                  have c_93 := ni_lt c_93 li_0 hq1
                  refine lv_aload_n hx hb dX11_takesOut_154 rfl (lv_at hl 3 rfl) ?_
                  refine tz_get (ci := 8) (v := .ref h4) (C := RX11) (F := TX11) (N := 36) hx hb hU iX11 hown hK hT 0 rfl rfl 11 (by decide) w796 (fun _ h9 => h9) rfl dX11_takesOut_155 ?_
                  refine lv_iconst (v := 0) hx hb dX11_takesOut_158 (by decide) ?_
                  refine tz_lald hx hb hK hT 1 rfl (by have := li_0; omega) dX11_takesOut_159 (fun v94 e_v94 => ?_)
                  clear e_v94
                  refine lv_lconst (v := 0) hx hb dX11_takesOut_160 (by decide) ?_
                  refine W.lcmp hx hb dX11_takesOut_161 ?_
                  refine lv_if_ne (tgt := 176) hx hb dX11_takesOut_162 (by decide) (fun c_95 => ?_) (fun c_95 => ?_)
                  · skip
                    have c_95 := nl_ne c_95 rfl ll_0
                    refine lv_iconst (v := 0) hx hb dX11_takesOut_176 (by decide) ?_
                    have hT := hT.wk (q := 1) rfl (an_J (c := k 1) (n := 9))
                    have hT : TP D A [(h0, ob 8 [.int h0f0, .int h0f1, .int h0f2, .int h0f3, .int h0f4, .int h0f5, .ref h1, .ref h2, .int h0f8, .int h0f9, .ref h3, .ref h4, .ref h5, .ref h6, .ref h7, .ref h8, .ref h9, .int h0f17, .int h0f18, .int h0f19, .ref h10, .ref h11, .ref h12, .ref h13, .int h0f24, .int h0f25, .ref h14, .ref h15, .ref h16, .ref h17, .int h0f30, .int h0f31, .ref h18, .ref h19, .ref h20, .ref h21]), (h4, aJ (k 1) 9 anJ), (h5, aJ (k 1) 9 (zJ [1, 2, 3])), (h7, aJ (k 1) 4 anJ)] _ := hT
                    have hT := hT.wk (q := 2) rfl (an_J (c := k 1) (n := 9))
                    have hT : TP D A [(h0, ob 8 [.int h0f0, .int h0f1, .int h0f2, .int h0f3, .int h0f4, .int h0f5, .ref h1, .ref h2, .int h0f8, .int h0f9, .ref h3, .ref h4, .ref h5, .ref h6, .ref h7, .ref h8, .ref h9, .int h0f17, .int h0f18, .int h0f19, .ref h10, .ref h11, .ref h12, .ref h13, .int h0f24, .int h0f25, .ref h14, .ref h15, .ref h16, .ref h17, .int h0f30, .int h0f31, .ref h18, .ref h19, .ref h20, .ref h21]), (h4, aJ (k 1) 9 anJ), (h5, aJ (k 1) 9 anJ), (h7, aJ (k 1) 4 anJ)] _ := hT
                    exact tz_retZ (B := B_cX11_takesOut_ae7df D k h0 h4 h5 h7 h1 h2 h3 h6 h8 h9 h10 h11 h12 h13 h14 h15 h16 h17 h18 h19 h20 h21 x1 x2 x3 h0f0 h0f1 h0f2 h0f3 h0f4 h0f5 h0f8 h0f9 h0f17 h0f18 h0f19 h0f24 h0f25 h0f30 h0f31) (v := 0) hQ hx hb hr hlocks hS (Nat.le_of_ble_eq_true rfl) (Nat.le_of_ble_eq_true rfl) dX11_takesOut_177 (by have := li_0; omega) (Or.inl ⟨rfl, hT⟩)
                  · skip
                    have c_95 := nl_eq c_95 rfl ll_0
                    refine lv_aload_n hx hb dX11_takesOut_165 rfl (lv_at hl 3 rfl) ?_
                    refine tz_get (ci := 8) (v := .ref h4) (C := RX11) (F := TX11) (N := 36) hx hb hU iX11 hown hK hT 0 rfl rfl 11 (by decide) w796 (fun _ h9 => h9) rfl dX11_takesOut_166 ?_
                    refine lv_iconst (v := 1) hx hb dX11_takesOut_169 (by decide) ?_
                    refine tz_lald hx hb hK hT 1 rfl (by have := li_1; omega) dX11_takesOut_170 (fun v96 e_v96 => ?_)
                    have e_v96 := z_get (z := 1) e_v96 li_1 (by decide)
                    subst e_v96
                    refine lv_lconst (v := 0) hx hb dX11_takesOut_171 (by decide) ?_
                    refine W.lcmp hx hb dX11_takesOut_172 (sv_i (v := 0) (by decide +kernel) ?_)
                    refine lv_if_eq (tgt := 178) hx hb dX11_takesOut_173 (by decide) (fun _ => ?_) (fun cc => absurd (by decide +kernel) cc)
                    refine lv_iconst (v := 0) hx hb dX11_takesOut_178 (by decide) ?_
                    refine lv_istore (lv' := [(5, .int 0), (6, .long v85), (4, .int 1), (0, .ref h0), (1, .int x1), (2, .int x2), (3, .int x3)]) hx hb dX11_takesOut_179 hl (by decide) rfl (fun ls hl => ?_)
                    refine lv_iload hx hb dX11_takesOut_181 (lv_at hl 0 rfl) ?_
                    refine lv_iconst (v := 4) hx hb dX11_takesOut_183 (by decide) ?_
                    refine lv_icmp_ge (tgt := 207) hx hb dX11_takesOut_184 (by decide) (fun cc => absurd cc (by decide +kernel)) (fun _ => ?_)
                    refine lv_aload_n hx hb dX11_takesOut_187 rfl (lv_at hl 3 rfl) ?_
                    refine tz_get (ci := 8) (v := .ref h7) (C := RX11) (F := TX11) (N := 36) hx hb hU iX11 hown hK hT 0 rfl rfl 14 (by decide) w799 (fun _ h9 => h9) rfl dX11_takesOut_188 ?_
                    refine lv_iload hx hb dX11_takesOut_191 (lv_at hl 0 rfl) ?_
                    refine lv_aload_n hx hb dX11_takesOut_193 rfl (lv_at hl 3 rfl) ?_
                    refine tz_get (ci := 8) (v := .ref h5) (C := RX11) (F := TX11) (N := 36) hx hb hU iX11 hown hK hT 0 rfl rfl 12 (by decide) w797 (fun _ h9 => h9) rfl dX11_takesOut_194 ?_
                    refine lv_iload hx hb dX11_takesOut_197 (lv_at hl 0 rfl) ?_
                    refine tz_lald hx hb hK hT 2 rfl (by have := li_0; omega) dX11_takesOut_199 (fun v97 e_v97 => ?_)
                    clear e_v97
                    have hT := hT.wk (q := 3) rfl (z_of (c := k 1) (n := 4))
                    have hT : TP D A [(h0, ob 8 [.int h0f0, .int h0f1, .int h0f2, .int h0f3, .int h0f4, .int h0f5, .ref h1, .ref h2, .int h0f8, .int h0f9, .ref h3, .ref h4, .ref h5, .ref h6, .ref h7, .ref h8, .ref h9, .int h0f17, .int h0f18, .int h0f19, .ref h10, .ref h11, .ref h12, .ref h13, .int h0f24, .int h0f25, .ref h14, .ref h15, .ref h16, .ref h17, .int h0f30, .int h0f31, .ref h18, .ref h19, .ref h20, .ref h21]), (h4, aJ (k 1) 9 (zJ [1])), (h5, aJ (k 1) 9 (zJ [1, 2, 3])), (h7, aJ (k 1) 4 (zJ []))] _ := hT
                    refine tz_lastP hx hb hK hT hS 3 (zJ []) rfl (by have := li_0; omega) (z_putx (z := 0) li_0 (by decide)) dX11_takesOut_200 (fun H locs hT hS => ?_)
                    have hT : TP D A [(h0, ob 8 [.int h0f0, .int h0f1, .int h0f2, .int h0f3, .int h0f4, .int h0f5, .ref h1, .ref h2, .int h0f8, .int h0f9, .ref h3, .ref h4, .ref h5, .ref h6, .ref h7, .ref h8, .ref h9, .int h0f17, .int h0f18, .int h0f19, .ref h10, .ref h11, .ref h12, .ref h13, .int h0f24, .int h0f25, .ref h14, .ref h15, .ref h16, .ref h17, .int h0f30, .int h0f31, .ref h18, .ref h19, .ref h20, .ref h21]), (h4, aJ (k 1) 9 (zJ [1])), (h5, aJ (k 1) 9 (zJ [1, 2, 3])), (h7, aJ (k 1) 4 (zJ []))] _ := hT
                    refine lv_iinc (v := 1) (lv' := [(5, .int 1), (6, .long v85), (4, .int 1), (0, .ref h0), (1, .int x1), (2, .int x2), (3, .int x3)]) hx hb dX11_takesOut_201 hl (k := 0) rfl (by decide) (by decide) rfl (fun ls hl => ?_)
                    refine lv_goto (tgt := 181) hx hb dX11_takesOut_204 (by decide) ?_
                    refine lv_iload hx hb dX11_takesOut_181 (lv_at hl 0 rfl) ?_
                    refine lv_iconst (v := 4) hx hb dX11_takesOut_183 (by decide) ?_
                    refine lv_icmp_ge (tgt := 207) hx hb dX11_takesOut_184 (by decide) (fun cc => absurd cc (by decide +kernel)) (fun _ => ?_)
                    refine lv_aload_n hx hb dX11_takesOut_187 rfl (lv_at hl 3 rfl) ?_
                    refine tz_get (ci := 8) (v := .ref h7) (C := RX11) (F := TX11) (N := 36) hx hb hU iX11 hown hK hT 0 rfl rfl 14 (by decide) w799 (fun _ h9 => h9) rfl dX11_takesOut_188 ?_
                    refine lv_iload hx hb dX11_takesOut_191 (lv_at hl 0 rfl) ?_
                    refine lv_aload_n hx hb dX11_takesOut_193 rfl (lv_at hl 3 rfl) ?_
                    refine tz_get (ci := 8) (v := .ref h5) (C := RX11) (F := TX11) (N := 36) hx hb hU iX11 hown hK hT 0 rfl rfl 12 (by decide) w797 (fun _ h9 => h9) rfl dX11_takesOut_194 ?_
                    refine lv_iload hx hb dX11_takesOut_197 (lv_at hl 0 rfl) ?_
                    refine tz_lald hx hb hK hT 2 rfl (by have := li_1; omega) dX11_takesOut_199 (fun v98 e_v98 => ?_)
                    have e_v98 := z_get (z := 1) e_v98 li_1 (by decide)
                    subst e_v98
                    refine tz_lastP hx hb hK hT hS 3 (zJ [1]) rfl (by have := li_1; omega) (z_put0 (z := 1) li_1 (by decide)) dX11_takesOut_200 (fun H locs hT hS => ?_)
                    have hT : TP D A [(h0, ob 8 [.int h0f0, .int h0f1, .int h0f2, .int h0f3, .int h0f4, .int h0f5, .ref h1, .ref h2, .int h0f8, .int h0f9, .ref h3, .ref h4, .ref h5, .ref h6, .ref h7, .ref h8, .ref h9, .int h0f17, .int h0f18, .int h0f19, .ref h10, .ref h11, .ref h12, .ref h13, .int h0f24, .int h0f25, .ref h14, .ref h15, .ref h16, .ref h17, .int h0f30, .int h0f31, .ref h18, .ref h19, .ref h20, .ref h21]), (h4, aJ (k 1) 9 (zJ [1])), (h5, aJ (k 1) 9 (zJ [1, 2, 3])), (h7, aJ (k 1) 4 (zJ [1]))] _ := hT
                    refine lv_iinc (v := 2) (lv' := [(5, .int 2), (6, .long v85), (4, .int 1), (0, .ref h0), (1, .int x1), (2, .int x2), (3, .int x3)]) hx hb dX11_takesOut_201 hl (k := 0) rfl (by decide) (by decide) rfl (fun ls hl => ?_)
                    refine lv_goto (tgt := 181) hx hb dX11_takesOut_204 (by decide) ?_
                    refine lv_iload hx hb dX11_takesOut_181 (lv_at hl 0 rfl) ?_
                    refine lv_iconst (v := 4) hx hb dX11_takesOut_183 (by decide) ?_
                    refine lv_icmp_ge (tgt := 207) hx hb dX11_takesOut_184 (by decide) (fun cc => absurd cc (by decide +kernel)) (fun _ => ?_)
                    refine lv_aload_n hx hb dX11_takesOut_187 rfl (lv_at hl 3 rfl) ?_
                    refine tz_get (ci := 8) (v := .ref h7) (C := RX11) (F := TX11) (N := 36) hx hb hU iX11 hown hK hT 0 rfl rfl 14 (by decide) w799 (fun _ h9 => h9) rfl dX11_takesOut_188 ?_
                    refine lv_iload hx hb dX11_takesOut_191 (lv_at hl 0 rfl) ?_
                    refine lv_aload_n hx hb dX11_takesOut_193 rfl (lv_at hl 3 rfl) ?_
                    refine tz_get (ci := 8) (v := .ref h5) (C := RX11) (F := TX11) (N := 36) hx hb hU iX11 hown hK hT 0 rfl rfl 12 (by decide) w797 (fun _ h9 => h9) rfl dX11_takesOut_194 ?_
                    refine lv_iload hx hb dX11_takesOut_197 (lv_at hl 0 rfl) ?_
                    refine tz_lald hx hb hK hT 2 rfl (by have := li_2; omega) dX11_takesOut_199 (fun v99 e_v99 => ?_)
                    have e_v99 := z_get (z := 2) e_v99 li_2 (by decide)
                    subst e_v99
                    refine tz_lastP hx hb hK hT hS 3 (zJ [1, 2]) rfl (by have := li_2; omega) (z_put0 (z := 2) li_2 (by decide)) dX11_takesOut_200 (fun H locs hT hS => ?_)
                    have hT : TP D A [(h0, ob 8 [.int h0f0, .int h0f1, .int h0f2, .int h0f3, .int h0f4, .int h0f5, .ref h1, .ref h2, .int h0f8, .int h0f9, .ref h3, .ref h4, .ref h5, .ref h6, .ref h7, .ref h8, .ref h9, .int h0f17, .int h0f18, .int h0f19, .ref h10, .ref h11, .ref h12, .ref h13, .int h0f24, .int h0f25, .ref h14, .ref h15, .ref h16, .ref h17, .int h0f30, .int h0f31, .ref h18, .ref h19, .ref h20, .ref h21]), (h4, aJ (k 1) 9 (zJ [1])), (h5, aJ (k 1) 9 (zJ [1, 2, 3])), (h7, aJ (k 1) 4 (zJ [1, 2]))] _ := hT
                    refine lv_iinc (v := 3) (lv' := [(5, .int 3), (6, .long v85), (4, .int 1), (0, .ref h0), (1, .int x1), (2, .int x2), (3, .int x3)]) hx hb dX11_takesOut_201 hl (k := 0) rfl (by decide) (by decide) rfl (fun ls hl => ?_)
                    refine lv_goto (tgt := 181) hx hb dX11_takesOut_204 (by decide) ?_
                    refine lv_iload hx hb dX11_takesOut_181 (lv_at hl 0 rfl) ?_
                    refine lv_iconst (v := 4) hx hb dX11_takesOut_183 (by decide) ?_
                    refine lv_icmp_ge (tgt := 207) hx hb dX11_takesOut_184 (by decide) (fun cc => absurd cc (by decide +kernel)) (fun _ => ?_)
                    refine lv_aload_n hx hb dX11_takesOut_187 rfl (lv_at hl 3 rfl) ?_
                    refine tz_get (ci := 8) (v := .ref h7) (C := RX11) (F := TX11) (N := 36) hx hb hU iX11 hown hK hT 0 rfl rfl 14 (by decide) w799 (fun _ h9 => h9) rfl dX11_takesOut_188 ?_
                    refine lv_iload hx hb dX11_takesOut_191 (lv_at hl 0 rfl) ?_
                    refine lv_aload_n hx hb dX11_takesOut_193 rfl (lv_at hl 3 rfl) ?_
                    refine tz_get (ci := 8) (v := .ref h5) (C := RX11) (F := TX11) (N := 36) hx hb hU iX11 hown hK hT 0 rfl rfl 12 (by decide) w797 (fun _ h9 => h9) rfl dX11_takesOut_194 ?_
                    refine lv_iload hx hb dX11_takesOut_197 (lv_at hl 0 rfl) ?_
                    refine tz_lald hx hb hK hT 2 rfl (by have := li_3; omega) dX11_takesOut_199 (fun v100 e_v100 => ?_)
                    have e_v100 := z_get (z := 3) e_v100 li_3 (by decide)
                    subst e_v100
                    refine tz_lastP hx hb hK hT hS 3 (zJ [1, 2, 3]) rfl (by have := li_3; omega) (z_put0 (z := 3) li_3 (by decide)) dX11_takesOut_200 (fun H locs hT hS => ?_)
                    have hT : TP D A [(h0, ob 8 [.int h0f0, .int h0f1, .int h0f2, .int h0f3, .int h0f4, .int h0f5, .ref h1, .ref h2, .int h0f8, .int h0f9, .ref h3, .ref h4, .ref h5, .ref h6, .ref h7, .ref h8, .ref h9, .int h0f17, .int h0f18, .int h0f19, .ref h10, .ref h11, .ref h12, .ref h13, .int h0f24, .int h0f25, .ref h14, .ref h15, .ref h16, .ref h17, .int h0f30, .int h0f31, .ref h18, .ref h19, .ref h20, .ref h21]), (h4, aJ (k 1) 9 (zJ [1])), (h5, aJ (k 1) 9 (zJ [1, 2, 3])), (h7, aJ (k 1) 4 (zJ [1, 2, 3]))] _ := hT
                    refine lv_iinc (v := 4) (lv' := [(5, .int 4), (6, .long v85), (4, .int 1), (0, .ref h0), (1, .int x1), (2, .int x2), (3, .int x3)]) hx hb dX11_takesOut_201 hl (k := 0) rfl (by decide) (by decide) rfl (fun ls hl => ?_)
                    refine lv_goto (tgt := 181) hx hb dX11_takesOut_204 (by decide) ?_
                    refine lv_iload hx hb dX11_takesOut_181 (lv_at hl 0 rfl) ?_
                    refine lv_iconst (v := 4) hx hb dX11_takesOut_183 (by decide) ?_
                    refine lv_icmp_ge (tgt := 207) hx hb dX11_takesOut_184 (by decide) (fun _ => ?_) (fun cc => absurd (by decide +kernel) cc)
                    refine lv_iconst (v := 1) hx hb dX11_takesOut_207 (by decide) ?_
                    have hT := hT.wk (q := 1) rfl (an_J (c := k 1) (n := 9))
                    have hT : TP D A [(h0, ob 8 [.int h0f0, .int h0f1, .int h0f2, .int h0f3, .int h0f4, .int h0f5, .ref h1, .ref h2, .int h0f8, .int h0f9, .ref h3, .ref h4, .ref h5, .ref h6, .ref h7, .ref h8, .ref h9, .int h0f17, .int h0f18, .int h0f19, .ref h10, .ref h11, .ref h12, .ref h13, .int h0f24, .int h0f25, .ref h14, .ref h15, .ref h16, .ref h17, .int h0f30, .int h0f31, .ref h18, .ref h19, .ref h20, .ref h21]), (h4, aJ (k 1) 9 anJ), (h5, aJ (k 1) 9 (zJ [1, 2, 3])), (h7, aJ (k 1) 4 (zJ [1, 2, 3]))] _ := hT
                    have hT := hT.wk (q := 2) rfl (an_J (c := k 1) (n := 9))
                    have hT : TP D A [(h0, ob 8 [.int h0f0, .int h0f1, .int h0f2, .int h0f3, .int h0f4, .int h0f5, .ref h1, .ref h2, .int h0f8, .int h0f9, .ref h3, .ref h4, .ref h5, .ref h6, .ref h7, .ref h8, .ref h9, .int h0f17, .int h0f18, .int h0f19, .ref h10, .ref h11, .ref h12, .ref h13, .int h0f24, .int h0f25, .ref h14, .ref h15, .ref h16, .ref h17, .int h0f30, .int h0f31, .ref h18, .ref h19, .ref h20, .ref h21]), (h4, aJ (k 1) 9 anJ), (h5, aJ (k 1) 9 anJ), (h7, aJ (k 1) 4 (zJ [1, 2, 3]))] _ := hT
                    have hT := hT.wk (q := 3) rfl (z_sub (c := k 1) (n := 4) (l := [1, 2, 3]) (m := [3]) (by decide))
                    have hT : TP D A [(h0, ob 8 [.int h0f0, .int h0f1, .int h0f2, .int h0f3, .int h0f4, .int h0f5, .ref h1, .ref h2, .int h0f8, .int h0f9, .ref h3, .ref h4, .ref h5, .ref h6, .ref h7, .ref h8, .ref h9, .int h0f17, .int h0f18, .int h0f19, .ref h10, .ref h11, .ref h12, .ref h13, .int h0f24, .int h0f25, .ref h14, .ref h15, .ref h16, .ref h17, .int h0f30, .int h0f31, .ref h18, .ref h19, .ref h20, .ref h21]), (h4, aJ (k 1) 9 anJ), (h5, aJ (k 1) 9 anJ), (h7, aJ (k 1) 4 (zJ [3]))] _ := hT
                    exact tz_retZ (B := B_cX11_takesOut_ae7df D k h0 h4 h5 h7 h1 h2 h3 h6 h8 h9 h10 h11 h12 h13 h14 h15 h16 h17 h18 h19 h20 h21 x1 x2 x3 h0f0 h0f1 h0f2 h0f3 h0f4 h0f5 h0f8 h0f9 h0f17 h0f18 h0f19 h0f24 h0f25 h0f30 h0f31) (v := 1) hQ hx hb hr hlocks hS (Nat.le_of_ble_eq_true rfl) (Nat.le_of_ble_eq_true rfl) dX11_takesOut_208 (by have := li_1; omega) (Or.inr (Or.inr (Or.inr (Or.inl ⟨v2, v44, v77, v94, (by have := li_1; omega), (by have := li_1; omega), (by have := li_1; omega), (by have := li_1; omega), (by have := li_1; omega), (by have := li_1; omega), (by have := li_1; omega), (by have := li_1; omega), (by have := li_1; omega), (by have := li_1; omega), (by have := li_1; omega), (by have := li_1; omega), (by have := li_1; omega), rfl, hT⟩))))
                · skip
                  have c_93 := ni_nlt c_93 li_0 hq1
                  exfalso; omega
              · skip
                have c_92 := ni_eq c_92 hq1 li_2
                exfalso; omega
          · skip
            have c_79 := ni_nle c_79 hq1 li_1
            exfalso; omega
        · skip
          have c_78 := nl_eq c_78 rfl ll_0
          refine lv_iinc (v := 0) (lv' := [(4, .int 0), (0, .ref h0), (1, .int x1), (2, .int x2), (3, .int x3)]) hx hb dX11_takesOut_20 hl (k := 0) rfl (by decide) (by decide) rfl (fun ls hl => ?_)
          refine lv_goto (tgt := 3) hx hb dX11_takesOut_23 (by decide) ?_
          refine lv_iload hx hb dX11_takesOut_3 (lv_at hl 0 rfl) ?_
          refine lv_if_le (tgt := 26) hx hb dX11_takesOut_5 (by decide) (fun _ => ?_) (fun cc => absurd (by decide +kernel) cc)
          refine lv_iload hx hb dX11_takesOut_26 (lv_at hl 0 rfl) ?_
          refine lv_iload_n hx hb dX11_takesOut_28 rfl (lv_at hl 2 rfl) ?_
          refine lv_icmp_ge (tgt := 34) hx hb dX11_takesOut_29 (by decide) (fun c_101 => ?_) (fun c_101 => ?_)
          · skip
            have c_101 := ni_le c_101 hq1 li_0
            exfalso; omega
          · skip
            have c_101 := ni_nle c_101 hq1 li_0
            refine lv_iconst (v := 0) hx hb dX11_takesOut_32 (by decide) ?_
            exact tz_retZ (B := B_cX11_takesOut_ae7df D k h0 h4 h5 h7 h1 h2 h3 h6 h8 h9 h10 h11 h12 h13 h14 h15 h16 h17 h18 h19 h20 h21 x1 x2 x3 h0f0 h0f1 h0f2 h0f3 h0f4 h0f5 h0f8 h0f9 h0f17 h0f18 h0f19 h0f24 h0f25 h0f30 h0f31) (v := 0) hQ hx hb hr hlocks hS (Nat.le_of_ble_eq_true rfl) (Nat.le_of_ble_eq_true rfl) dX11_takesOut_33 (by have := li_0; omega) (Or.inl ⟨rfl, hT⟩)
  · skip
    refine lv_iconst (v := 3) hx hb dX11_takesOut_0 (by decide) ?_
    refine lv_istore (lv' := [(4, .int 3), (0, .ref h0), (1, .int x1), (2, .int x2), (3, .int x3)]) hx hb dX11_takesOut_1 hl (by decide) rfl (fun ls hl => ?_)
    refine lv_iload hx hb dX11_takesOut_3 (lv_at hl 0 rfl) ?_
    refine lv_if_le (tgt := 26) hx hb dX11_takesOut_5 (by decide) (fun cc => absurd cc (by decide +kernel)) (fun _ => ?_)
    refine lv_aload_n hx hb dX11_takesOut_8 rfl (lv_at hl 1 rfl) ?_
    refine tz_get (ci := 8) (v := .ref h7) (C := RX11) (F := TX11) (N := 36) hx hb hU iX11 hown hK hT 0 rfl rfl 14 (by decide) w799 (fun _ h9 => h9) rfl dX11_takesOut_9 ?_
    refine lv_iload hx hb dX11_takesOut_12 (lv_at hl 0 rfl) ?_
    refine tz_lald hx hb hK hT 3 rfl (by have := li_3; omega) dX11_takesOut_14 (fun v102 e_v102 => ?_)
    clear e_v102
    refine lv_lconst (v := 0) hx hb dX11_takesOut_15 (by decide) ?_
    refine W.lcmp hx hb dX11_takesOut_16 ?_
    refine lv_if_ne (tgt := 26) hx hb dX11_takesOut_17 (by decide) (fun c_103 => ?_) (fun c_103 => ?_)
    · skip
      have c_103 := nl_ne c_103 rfl ll_0
      refine lv_iload hx hb dX11_takesOut_26 (lv_at hl 0 rfl) ?_
      refine lv_iload_n hx hb dX11_takesOut_28 rfl (lv_at hl 2 rfl) ?_
      refine lv_icmp_ge (tgt := 34) hx hb dX11_takesOut_29 (by decide) (fun c_104 => ?_) (fun c_104 => ?_)
      · skip
        have c_104 := ni_le c_104 hq1 li_3
        refine lv_iconst (v := 0) hx hb dX11_takesOut_34 (by decide) ?_
        refine lv_istore (lv' := [(5, .int 0), (4, .int 3), (0, .ref h0), (1, .int x1), (2, .int x2), (3, .int x3)]) hx hb dX11_takesOut_35 hl (by decide) rfl (fun ls hl => ?_)
        refine lv_iload hx hb dX11_takesOut_37 (lv_at hl 0 rfl) ?_
        refine lv_iconst (v := 4) hx hb dX11_takesOut_39 (by decide) ?_
        refine lv_icmp_ge (tgt := 71) hx hb dX11_takesOut_40 (by decide) (fun cc => absurd cc (by decide +kernel)) (fun _ => ?_)
        refine lv_aload_n hx hb dX11_takesOut_43 rfl (lv_at hl 2 rfl) ?_
        refine tz_get (ci := 8) (v := .ref h4) (C := RX11) (F := TX11) (N := 36) hx hb hU iX11 hown hK hT 0 rfl rfl 11 (by decide) w796 (fun _ h9 => h9) rfl dX11_takesOut_44 ?_
        refine lv_iload hx hb dX11_takesOut_47 (lv_at hl 0 rfl) ?_
        refine lv_aload_n hx hb dX11_takesOut_49 rfl (lv_at hl 2 rfl) ?_
        refine tz_get (ci := 8) (v := .ref h7) (C := RX11) (F := TX11) (N := 36) hx hb hU iX11 hown hK hT 0 rfl rfl 14 (by decide) w799 (fun _ h9 => h9) rfl dX11_takesOut_50 ?_
        refine lv_iload hx hb dX11_takesOut_53 (lv_at hl 0 rfl) ?_
        refine tz_lald hx hb hK hT 3 rfl (by have := li_0; omega) dX11_takesOut_55 (fun v105 e_v105 => ?_)
        clear e_v105
        have hT := hT.wk (q := 1) rfl (z_of (c := k 1) (n := 9))
        have hT : TP D A [(h0, ob 8 [.int h0f0, .int h0f1, .int h0f2, .int h0f3, .int h0f4, .int h0f5, .ref h1, .ref h2, .int h0f8, .int h0f9, .ref h3, .ref h4, .ref h5, .ref h6, .ref h7, .ref h8, .ref h9, .int h0f17, .int h0f18, .int h0f19, .ref h10, .ref h11, .ref h12, .ref h13, .int h0f24, .int h0f25, .ref h14, .ref h15, .ref h16, .ref h17, .int h0f30, .int h0f31, .ref h18, .ref h19, .ref h20, .ref h21]), (h4, aJ (k 1) 9 (zJ [])), (h5, aJ (k 1) 9 anJ), (h7, aJ (k 1) 4 anJ)] _ := hT
        refine tz_lastP hx hb hK hT hS 1 (zJ []) rfl (by have := li_0; omega) (z_putx (z := 0) li_0 (by decide)) dX11_takesOut_56 (fun H locs hT hS => ?_)
        have hT : TP D A [(h0, ob 8 [.int h0f0, .int h0f1, .int h0f2, .int h0f3, .int h0f4, .int h0f5, .ref h1, .ref h2, .int h0f8, .int h0f9, .ref h3, .ref h4, .ref h5, .ref h6, .ref h7, .ref h8, .ref h9, .int h0f17, .int h0f18, .int h0f19, .ref h10, .ref h11, .ref h12, .ref h13, .int h0f24, .int h0f25, .ref h14, .ref h15, .ref h16, .ref h17, .int h0f30, .int h0f31, .ref h18, .ref h19, .ref h20, .ref h21]), (h4, aJ (k 1) 9 (zJ [])), (h5, aJ (k 1) 9 anJ), (h7, aJ (k 1) 4 anJ)] _ := hT
        refine lv_aload_n hx hb dX11_takesOut_57 rfl (lv_at hl 2 rfl) ?_
        refine tz_get (ci := 8) (v := .ref h5) (C := RX11) (F := TX11) (N := 36) hx hb hU iX11 hown hK hT 0 rfl rfl 12 (by decide) w797 (fun _ h9 => h9) rfl dX11_takesOut_58 ?_
        refine lv_iload hx hb dX11_takesOut_61 (lv_at hl 0 rfl) ?_
        refine lv_lconst (v := 0) hx hb dX11_takesOut_63 (by decide) ?_
        have hT := hT.wk (q := 2) rfl (z_of (c := k 1) (n := 9))
        have hT : TP D A [(h0, ob 8 [.int h0f0, .int h0f1, .int h0f2, .int h0f3, .int h0f4, .int h0f5, .ref h1, .ref h2, .int h0f8, .int h0f9, .ref h3, .ref h4, .ref h5, .ref h6, .ref h7, .ref h8, .ref h9, .int h0f17, .int h0f18, .int h0f19, .ref h10, .ref h11, .ref h12, .ref h13, .int h0f24, .int h0f25, .ref h14, .ref h15, .ref h16, .ref h17, .int h0f30, .int h0f31, .ref h18, .ref h19, .ref h20, .ref h21]), (h4, aJ (k 1) 9 (zJ [])), (h5, aJ (k 1) 9 (zJ [])), (h7, aJ (k 1) 4 anJ)] _ := hT
        refine tz_lastP hx hb hK hT hS 2 (zJ [0]) rfl (by have := li_0; omega) (z_put0 (z := 0) li_0 (by decide)) dX11_takesOut_64 (fun H locs hT hS => ?_)
        have hT : TP D A [(h0, ob 8 [.int h0f0, .int h0f1, .int h0f2, .int h0f3, .int h0f4, .int h0f5, .ref h1, .ref h2, .int h0f8, .int h0f9, .ref h3, .ref h4, .ref h5, .ref h6, .ref h7, .ref h8, .ref h9, .int h0f17, .int h0f18, .int h0f19, .ref h10, .ref h11, .ref h12, .ref h13, .int h0f24, .int h0f25, .ref h14, .ref h15, .ref h16, .ref h17, .int h0f30, .int h0f31, .ref h18, .ref h19, .ref h20, .ref h21]), (h4, aJ (k 1) 9 (zJ [])), (h5, aJ (k 1) 9 (zJ [0])), (h7, aJ (k 1) 4 anJ)] _ := hT
        refine lv_iinc (v := 1) (lv' := [(5, .int 1), (4, .int 3), (0, .ref h0), (1, .int x1), (2, .int x2), (3, .int x3)]) hx hb dX11_takesOut_65 hl (k := 0) rfl (by decide) (by decide) rfl (fun ls hl => ?_)
        refine lv_goto (tgt := 37) hx hb dX11_takesOut_68 (by decide) ?_
        refine lv_iload hx hb dX11_takesOut_37 (lv_at hl 0 rfl) ?_
        refine lv_iconst (v := 4) hx hb dX11_takesOut_39 (by decide) ?_
        refine lv_icmp_ge (tgt := 71) hx hb dX11_takesOut_40 (by decide) (fun cc => absurd cc (by decide +kernel)) (fun _ => ?_)
        refine lv_aload_n hx hb dX11_takesOut_43 rfl (lv_at hl 2 rfl) ?_
        refine tz_get (ci := 8) (v := .ref h4) (C := RX11) (F := TX11) (N := 36) hx hb hU iX11 hown hK hT 0 rfl rfl 11 (by decide) w796 (fun _ h9 => h9) rfl dX11_takesOut_44 ?_
        refine lv_iload hx hb dX11_takesOut_47 (lv_at hl 0 rfl) ?_
        refine lv_aload_n hx hb dX11_takesOut_49 rfl (lv_at hl 2 rfl) ?_
        refine tz_get (ci := 8) (v := .ref h7) (C := RX11) (F := TX11) (N := 36) hx hb hU iX11 hown hK hT 0 rfl rfl 14 (by decide) w799 (fun _ h9 => h9) rfl dX11_takesOut_50 ?_
        refine lv_iload hx hb dX11_takesOut_53 (lv_at hl 0 rfl) ?_
        refine tz_lald hx hb hK hT 3 rfl (by have := li_1; omega) dX11_takesOut_55 (fun v106 e_v106 => ?_)
        clear e_v106
        refine tz_lastP hx hb hK hT hS 1 (zJ []) rfl (by have := li_1; omega) (z_putx (z := 1) li_1 (by decide)) dX11_takesOut_56 (fun H locs hT hS => ?_)
        have hT : TP D A [(h0, ob 8 [.int h0f0, .int h0f1, .int h0f2, .int h0f3, .int h0f4, .int h0f5, .ref h1, .ref h2, .int h0f8, .int h0f9, .ref h3, .ref h4, .ref h5, .ref h6, .ref h7, .ref h8, .ref h9, .int h0f17, .int h0f18, .int h0f19, .ref h10, .ref h11, .ref h12, .ref h13, .int h0f24, .int h0f25, .ref h14, .ref h15, .ref h16, .ref h17, .int h0f30, .int h0f31, .ref h18, .ref h19, .ref h20, .ref h21]), (h4, aJ (k 1) 9 (zJ [])), (h5, aJ (k 1) 9 (zJ [0])), (h7, aJ (k 1) 4 anJ)] _ := hT
        refine lv_aload_n hx hb dX11_takesOut_57 rfl (lv_at hl 2 rfl) ?_
        refine tz_get (ci := 8) (v := .ref h5) (C := RX11) (F := TX11) (N := 36) hx hb hU iX11 hown hK hT 0 rfl rfl 12 (by decide) w797 (fun _ h9 => h9) rfl dX11_takesOut_58 ?_
        refine lv_iload hx hb dX11_takesOut_61 (lv_at hl 0 rfl) ?_
        refine lv_lconst (v := 0) hx hb dX11_takesOut_63 (by decide) ?_
        refine tz_lastP hx hb hK hT hS 2 (zJ [0, 1]) rfl (by have := li_1; omega) (z_put0 (z := 1) li_1 (by decide)) dX11_takesOut_64 (fun H locs hT hS => ?_)
        have hT : TP D A [(h0, ob 8 [.int h0f0, .int h0f1, .int h0f2, .int h0f3, .int h0f4, .int h0f5, .ref h1, .ref h2, .int h0f8, .int h0f9, .ref h3, .ref h4, .ref h5, .ref h6, .ref h7, .ref h8, .ref h9, .int h0f17, .int h0f18, .int h0f19, .ref h10, .ref h11, .ref h12, .ref h13, .int h0f24, .int h0f25, .ref h14, .ref h15, .ref h16, .ref h17, .int h0f30, .int h0f31, .ref h18, .ref h19, .ref h20, .ref h21]), (h4, aJ (k 1) 9 (zJ [])), (h5, aJ (k 1) 9 (zJ [0, 1])), (h7, aJ (k 1) 4 anJ)] _ := hT
        refine lv_iinc (v := 2) (lv' := [(5, .int 2), (4, .int 3), (0, .ref h0), (1, .int x1), (2, .int x2), (3, .int x3)]) hx hb dX11_takesOut_65 hl (k := 0) rfl (by decide) (by decide) rfl (fun ls hl => ?_)
        refine lv_goto (tgt := 37) hx hb dX11_takesOut_68 (by decide) ?_
        refine lv_iload hx hb dX11_takesOut_37 (lv_at hl 0 rfl) ?_
        refine lv_iconst (v := 4) hx hb dX11_takesOut_39 (by decide) ?_
        refine lv_icmp_ge (tgt := 71) hx hb dX11_takesOut_40 (by decide) (fun cc => absurd cc (by decide +kernel)) (fun _ => ?_)
        refine lv_aload_n hx hb dX11_takesOut_43 rfl (lv_at hl 2 rfl) ?_
        refine tz_get (ci := 8) (v := .ref h4) (C := RX11) (F := TX11) (N := 36) hx hb hU iX11 hown hK hT 0 rfl rfl 11 (by decide) w796 (fun _ h9 => h9) rfl dX11_takesOut_44 ?_
        refine lv_iload hx hb dX11_takesOut_47 (lv_at hl 0 rfl) ?_
        refine lv_aload_n hx hb dX11_takesOut_49 rfl (lv_at hl 2 rfl) ?_
        refine tz_get (ci := 8) (v := .ref h7) (C := RX11) (F := TX11) (N := 36) hx hb hU iX11 hown hK hT 0 rfl rfl 14 (by decide) w799 (fun _ h9 => h9) rfl dX11_takesOut_50 ?_
        refine lv_iload hx hb dX11_takesOut_53 (lv_at hl 0 rfl) ?_
        refine tz_lald hx hb hK hT 3 rfl (by have := li_2; omega) dX11_takesOut_55 (fun v107 e_v107 => ?_)
        clear e_v107
        refine tz_lastP hx hb hK hT hS 1 (zJ []) rfl (by have := li_2; omega) (z_putx (z := 2) li_2 (by decide)) dX11_takesOut_56 (fun H locs hT hS => ?_)
        have hT : TP D A [(h0, ob 8 [.int h0f0, .int h0f1, .int h0f2, .int h0f3, .int h0f4, .int h0f5, .ref h1, .ref h2, .int h0f8, .int h0f9, .ref h3, .ref h4, .ref h5, .ref h6, .ref h7, .ref h8, .ref h9, .int h0f17, .int h0f18, .int h0f19, .ref h10, .ref h11, .ref h12, .ref h13, .int h0f24, .int h0f25, .ref h14, .ref h15, .ref h16, .ref h17, .int h0f30, .int h0f31, .ref h18, .ref h19, .ref h20, .ref h21]), (h4, aJ (k 1) 9 (zJ [])), (h5, aJ (k 1) 9 (zJ [0, 1])), (h7, aJ (k 1) 4 anJ)] _ := hT
        refine lv_aload_n hx hb dX11_takesOut_57 rfl (lv_at hl 2 rfl) ?_
        refine tz_get (ci := 8) (v := .ref h5) (C := RX11) (F := TX11) (N := 36) hx hb hU iX11 hown hK hT 0 rfl rfl 12 (by decide) w797 (fun _ h9 => h9) rfl dX11_takesOut_58 ?_
        refine lv_iload hx hb dX11_takesOut_61 (lv_at hl 0 rfl) ?_
        refine lv_lconst (v := 0) hx hb dX11_takesOut_63 (by decide) ?_
        refine tz_lastP hx hb hK hT hS 2 (zJ [0, 1, 2]) rfl (by have := li_2; omega) (z_put0 (z := 2) li_2 (by decide)) dX11_takesOut_64 (fun H locs hT hS => ?_)
        have hT : TP D A [(h0, ob 8 [.int h0f0, .int h0f1, .int h0f2, .int h0f3, .int h0f4, .int h0f5, .ref h1, .ref h2, .int h0f8, .int h0f9, .ref h3, .ref h4, .ref h5, .ref h6, .ref h7, .ref h8, .ref h9, .int h0f17, .int h0f18, .int h0f19, .ref h10, .ref h11, .ref h12, .ref h13, .int h0f24, .int h0f25, .ref h14, .ref h15, .ref h16, .ref h17, .int h0f30, .int h0f31, .ref h18, .ref h19, .ref h20, .ref h21]), (h4, aJ (k 1) 9 (zJ [])), (h5, aJ (k 1) 9 (zJ [0, 1, 2])), (h7, aJ (k 1) 4 anJ)] _ := hT
        refine lv_iinc (v := 3) (lv' := [(5, .int 3), (4, .int 3), (0, .ref h0), (1, .int x1), (2, .int x2), (3, .int x3)]) hx hb dX11_takesOut_65 hl (k := 0) rfl (by decide) (by decide) rfl (fun ls hl => ?_)
        refine lv_goto (tgt := 37) hx hb dX11_takesOut_68 (by decide) ?_
        refine lv_iload hx hb dX11_takesOut_37 (lv_at hl 0 rfl) ?_
        refine lv_iconst (v := 4) hx hb dX11_takesOut_39 (by decide) ?_
        refine lv_icmp_ge (tgt := 71) hx hb dX11_takesOut_40 (by decide) (fun cc => absurd cc (by decide +kernel)) (fun _ => ?_)
        refine lv_aload_n hx hb dX11_takesOut_43 rfl (lv_at hl 2 rfl) ?_
        refine tz_get (ci := 8) (v := .ref h4) (C := RX11) (F := TX11) (N := 36) hx hb hU iX11 hown hK hT 0 rfl rfl 11 (by decide) w796 (fun _ h9 => h9) rfl dX11_takesOut_44 ?_
        refine lv_iload hx hb dX11_takesOut_47 (lv_at hl 0 rfl) ?_
        refine lv_aload_n hx hb dX11_takesOut_49 rfl (lv_at hl 2 rfl) ?_
        refine tz_get (ci := 8) (v := .ref h7) (C := RX11) (F := TX11) (N := 36) hx hb hU iX11 hown hK hT 0 rfl rfl 14 (by decide) w799 (fun _ h9 => h9) rfl dX11_takesOut_50 ?_
        refine lv_iload hx hb dX11_takesOut_53 (lv_at hl 0 rfl) ?_
        refine tz_lald hx hb hK hT 3 rfl (by have := li_3; omega) dX11_takesOut_55 (fun v108 e_v108 => ?_)
        clear e_v108
        refine tz_lastP hx hb hK hT hS 1 (zJ []) rfl (by have := li_3; omega) (z_putx (z := 3) li_3 (by decide)) dX11_takesOut_56 (fun H locs hT hS => ?_)
        have hT : TP D A [(h0, ob 8 [.int h0f0, .int h0f1, .int h0f2, .int h0f3, .int h0f4, .int h0f5, .ref h1, .ref h2, .int h0f8, .int h0f9, .ref h3, .ref h4, .ref h5, .ref h6, .ref h7, .ref h8, .ref h9, .int h0f17, .int h0f18, .int h0f19, .ref h10, .ref h11, .ref h12, .ref h13, .int h0f24, .int h0f25, .ref h14, .ref h15, .ref h16, .ref h17, .int h0f30, .int h0f31, .ref h18, .ref h19, .ref h20, .ref h21]), (h4, aJ (k 1) 9 (zJ [])), (h5, aJ (k 1) 9 (zJ [0, 1, 2])), (h7, aJ (k 1) 4 anJ)] _ := hT
        refine lv_aload_n hx hb dX11_takesOut_57 rfl (lv_at hl 2 rfl) ?_
        refine tz_get (ci := 8) (v := .ref h5) (C := RX11) (F := TX11) (N := 36) hx hb hU iX11 hown hK hT 0 rfl rfl 12 (by decide) w797 (fun _ h9 => h9) rfl dX11_takesOut_58 ?_
        refine lv_iload hx hb dX11_takesOut_61 (lv_at hl 0 rfl) ?_
        refine lv_lconst (v := 0) hx hb dX11_takesOut_63 (by decide) ?_
        refine tz_lastP hx hb hK hT hS 2 (zJ [0, 1, 2, 3]) rfl (by have := li_3; omega) (z_put0 (z := 3) li_3 (by decide)) dX11_takesOut_64 (fun H locs hT hS => ?_)
        have hT : TP D A [(h0, ob 8 [.int h0f0, .int h0f1, .int h0f2, .int h0f3, .int h0f4, .int h0f5, .ref h1, .ref h2, .int h0f8, .int h0f9, .ref h3, .ref h4, .ref h5, .ref h6, .ref h7, .ref h8, .ref h9, .int h0f17, .int h0f18, .int h0f19, .ref h10, .ref h11, .ref h12, .ref h13, .int h0f24, .int h0f25, .ref h14, .ref h15, .ref h16, .ref h17, .int h0f30, .int h0f31, .ref h18, .ref h19, .ref h20, .ref h21]), (h4, aJ (k 1) 9 (zJ [])), (h5, aJ (k 1) 9 (zJ [0, 1, 2, 3])), (h7, aJ (k 1) 4 anJ)] _ := hT
        refine lv_iinc (v := 4) (lv' := [(5, .int 4), (4, .int 3), (0, .ref h0), (1, .int x1), (2, .int x2), (3, .int x3)]) hx hb dX11_takesOut_65 hl (k := 0) rfl (by decide) (by decide) rfl (fun ls hl => ?_)
        refine lv_goto (tgt := 37) hx hb dX11_takesOut_68 (by decide) ?_
        refine lv_iload hx hb dX11_takesOut_37 (lv_at hl 0 rfl) ?_
        refine lv_iconst (v := 4) hx hb dX11_takesOut_39 (by decide) ?_
        refine lv_icmp_ge (tgt := 71) hx hb dX11_takesOut_40 (by decide) (fun _ => ?_) (fun cc => absurd (by decide +kernel) cc)
        refine lv_iload hx hb dX11_takesOut_71 (lv_at hl 1 rfl) ?_
        refine lv_istore (lv' := [(5, .int 3), (4, .int 3), (0, .ref h0), (1, .int x1), (2, .int x2), (3, .int x3)]) hx hb dX11_takesOut_73 hl (by decide) rfl (fun ls hl => ?_)
        refine lv_iload hx hb dX11_takesOut_75 (lv_at hl 0 rfl) ?_
        refine lv_iload_n hx hb dX11_takesOut_77 rfl (lv_at hl 3 rfl) ?_
        refine lv_icmp_lt (tgt := 154) hx hb dX11_takesOut_78 (by decide) (fun c_109 => ?_) (fun c_109 => ?_)
        · skip
          have c_109 := ni_lt c_109 li_3 hq1
          exfalso; omega
        · skip
          have c_109 := ni_nlt c_109 li_3 hq1
          refine lv_aload_n hx hb dX11_takesOut_81 rfl (lv_at hl 2 rfl) ?_
          refine tz_get (ci := 8) (v := .ref h4) (C := RX11) (F := TX11) (N := 36) hx hb hU iX11 hown hK hT 0 rfl rfl 11 (by decide) w796 (fun _ h9 => h9) rfl dX11_takesOut_82 ?_
          refine lv_iload hx hb dX11_takesOut_85 (lv_at hl 0 rfl) ?_
          refine tz_lald hx hb hK hT 1 rfl (by have := li_3; omega) dX11_takesOut_87 (fun v110 e_v110 => ?_)
          clear e_v110
          refine lv_lstore (lv' := [(6, .long v110), (5, .int 3), (4, .int 3), (0, .ref h0), (1, .int x1), (2, .int x2), (3, .int x3)]) hx hb dX11_takesOut_88 hl (by decide) rfl (fun ls hl => ?_)
          refine lv_aload_n hx hb dX11_takesOut_90 rfl (lv_at hl 3 rfl) ?_
          refine tz_get (ci := 8) (v := .ref h5) (C := RX11) (F := TX11) (N := 36) hx hb hU iX11 hown hK hT 0 rfl rfl 12 (by decide) w797 (fun _ h9 => h9) rfl dX11_takesOut_91 ?_
          refine lv_iload hx hb dX11_takesOut_94 (lv_at hl 1 rfl) ?_
          refine lv_iload_n hx hb dX11_takesOut_96 rfl (lv_at hl 4 rfl) ?_
          refine lv_isub hx hb dX11_takesOut_97 (lv_topi (fun v111 e_v111 => ?_))
          have e_v111 := ai_sub e_v111 li_3 hq1 (by omega)
          refine lv_lload hx hb dX11_takesOut_98 (lv_at hl 0 rfl) ?_
          refine tz_lastP hx hb hK hT hS 2 (zJ [0, 2, 3]) rfl (by omega) (z_putx (z := 1) (show v111.toInt = 1 by omega) (by decide)) dX11_takesOut_100 (fun H locs hT hS => ?_)
          have hT : TP D A [(h0, ob 8 [.int h0f0, .int h0f1, .int h0f2, .int h0f3, .int h0f4, .int h0f5, .ref h1, .ref h2, .int h0f8, .int h0f9, .ref h3, .ref h4, .ref h5, .ref h6, .ref h7, .ref h8, .ref h9, .int h0f17, .int h0f18, .int h0f19, .ref h10, .ref h11, .ref h12, .ref h13, .int h0f24, .int h0f25, .ref h14, .ref h15, .ref h16, .ref h17, .int h0f30, .int h0f31, .ref h18, .ref h19, .ref h20, .ref h21]), (h4, aJ (k 1) 9 (zJ [])), (h5, aJ (k 1) 9 (zJ [0, 2, 3])), (h7, aJ (k 1) 4 anJ)] _ := hT
          refine lv_aload_n hx hb dX11_takesOut_101 rfl (lv_at hl 3 rfl) ?_
          refine tz_get (ci := 8) (v := .ref h4) (C := RX11) (F := TX11) (N := 36) hx hb hU iX11 hown hK hT 0 rfl rfl 11 (by decide) w796 (fun _ h9 => h9) rfl dX11_takesOut_102 ?_
          refine lv_iload hx hb dX11_takesOut_105 (lv_at hl 1 rfl) ?_
          refine lv_iload_n hx hb dX11_takesOut_107 rfl (lv_at hl 4 rfl) ?_
          refine lv_isub hx hb dX11_takesOut_108 (lv_topi (fun v112 e_v112 => ?_))
          have e_v112 := ai_sub e_v112 li_3 hq1 (by omega)
          refine lv_dup2_11 hx hb dX11_takesOut_109 rfl rfl ?_
          refine tz_lald hx hb hK hT 1 rfl (by omega) dX11_takesOut_110 (fun v113 e_v113 => ?_)
          clear e_v113
          refine lv_lload hx hb dX11_takesOut_111 (lv_at hl 0 rfl) ?_
          refine lv_iload_n hx hb dX11_takesOut_113 rfl (lv_at hl 5 rfl) ?_
          obtain ⟨v114, e_v114⟩ : ∃ x : Int64, x2.toInt64 = x := ⟨_, rfl⟩
          refine lv_i2l (v := v114) hx hb dX11_takesOut_114 e_v114 ?_
          have e_v114 := ai_i2l e_v114 rfl
          refine lv_lmul hx hb dX11_takesOut_115 (lv_topl (fun v115 e_v115 => ?_))
          refine lv_lsub hx hb dX11_takesOut_116 (lv_topl (fun v116 e_v116 => ?_))
          refine tz_lastP hx hb hK hT hS 1 (zJ []) rfl (by omega) (z_putx (z := 1) (show v112.toInt = 1 by omega) (by decide)) dX11_takesOut_117 (fun H locs hT hS => ?_)
          have hT : TP D A [(h0, ob 8 [.int h0f0, .int h0f1, .int h0f2, .int h0f3, .int h0f4, .int h0f5, .ref h1, .ref h2, .int h0f8, .int h0f9, .ref h3, .ref h4, .ref h5, .ref h6, .ref h7, .ref h8, .ref h9, .int h0f17, .int h0f18, .int h0f19, .ref h10, .ref h11, .ref h12, .ref h13, .int h0f24, .int h0f25, .ref h14, .ref h15, .ref h16, .ref h17, .int h0f30, .int h0f31, .ref h18, .ref h19, .ref h20, .ref h21]), (h4, aJ (k 1) 9 (zJ [])), (h5, aJ (k 1) 9 (zJ [0, 2, 3])), (h7, aJ (k 1) 4 anJ)] _ := hT
          refine lv_iload_n hx hb dX11_takesOut_118 rfl (lv_at hl 4 rfl) ?_
          refine lv_iconst (v := 2) hx hb dX11_takesOut_119 (by decide) ?_
          refine lv_icmp_ne (tgt := 140) hx hb dX11_takesOut_120 (by decide) (fun c_117 => ?_) (fun c_117 => ?_)
          · skip
            have c_117 := ni_ne c_117 hq1 li_2
            exfalso; omega
          · skip
            have c_117 := ni_eq c_117 hq1 li_2
            refine lv_aload_n hx hb dX11_takesOut_123 rfl (lv_at hl 3 rfl) ?_
            refine tz_get (ci := 8) (v := .ref h4) (C := RX11) (F := TX11) (N := 36) hx hb hU iX11 hown hK hT 0 rfl rfl 11 (by decide) w796 (fun _ h9 => h9) rfl dX11_takesOut_124 ?_
            refine lv_iload hx hb dX11_takesOut_127 (lv_at hl 1 rfl) ?_
            refine lv_iconst (v := 1) hx hb dX11_takesOut_129 (by decide) ?_
            refine lv_isub hx hb dX11_takesOut_130 (sv_i (v := 2) (by decide +kernel) ?_)
            refine lv_dup2_11 hx hb dX11_takesOut_131 rfl rfl ?_
            refine tz_lald hx hb hK hT 1 rfl (by have := li_2; omega) dX11_takesOut_132 (fun v118 e_v118 => ?_)
            clear e_v118
            refine lv_lload hx hb dX11_takesOut_133 (lv_at hl 0 rfl) ?_
            refine lv_iload_n hx hb dX11_takesOut_135 rfl (lv_at hl 6 rfl) ?_
            obtain ⟨v119, e_v119⟩ : ∃ x : Int64, x3.toInt64 = x := ⟨_, rfl⟩
            refine lv_i2l (v := v119) hx hb dX11_takesOut_136 e_v119 ?_
            have e_v119 := ai_i2l e_v119 rfl
            refine lv_lmul hx hb dX11_takesOut_137 (lv_topl (fun v120 e_v120 => ?_))
            refine lv_lsub hx hb dX11_takesOut_138 (lv_topl (fun v121 e_v121 => ?_))
            refine tz_lastP hx hb hK hT hS 1 (zJ []) rfl (by have := li_2; omega) (z_putx (z := 2) li_2 (by decide)) dX11_takesOut_139 (fun H locs hT hS => ?_)
            have hT : TP D A [(h0, ob 8 [.int h0f0, .int h0f1, .int h0f2, .int h0f3, .int h0f4, .int h0f5, .ref h1, .ref h2, .int h0f8, .int h0f9, .ref h3, .ref h4, .ref h5, .ref h6, .ref h7, .ref h8, .ref h9, .int h0f17, .int h0f18, .int h0f19, .ref h10, .ref h11, .ref h12, .ref h13, .int h0f24, .int h0f25, .ref h14, .ref h15, .ref h16, .ref h17, .int h0f30, .int h0f31, .ref h18, .ref h19, .ref h20, .ref h21]), (h4, aJ (k 1) 9 (zJ [])), (h5, aJ (k 1) 9 (zJ [0, 2, 3])), (h7, aJ (k 1) 4 anJ)] _ := hT
            refine lv_aload_n hx hb dX11_takesOut_140 rfl (lv_at hl 3 rfl) ?_
            refine tz_get (ci := 8) (v := .ref h4) (C := RX11) (F := TX11) (N := 36) hx hb hU iX11 hown hK hT 0 rfl rfl 11 (by decide) w796 (fun _ h9 => h9) rfl dX11_takesOut_141 ?_
            refine lv_iload hx hb dX11_takesOut_144 (lv_at hl 1 rfl) ?_
            refine lv_lconst (v := 0) hx hb dX11_takesOut_146 (by decide) ?_
            refine tz_lastP hx hb hK hT hS 1 (zJ [3]) rfl (by have := li_3; omega) (z_put0 (z := 3) li_3 (by decide)) dX11_takesOut_147 (fun H locs hT hS => ?_)
            have hT : TP D A [(h0, ob 8 [.int h0f0, .int h0f1, .int h0f2, .int h0f3, .int h0f4, .int h0f5, .ref h1, .ref h2, .int h0f8, .int h0f9, .ref h3, .ref h4, .ref h5, .ref h6, .ref h7, .ref h8, .ref h9, .int h0f17, .int h0f18, .int h0f19, .ref h10, .ref h11, .ref h12, .ref h13, .int h0f24, .int h0f25, .ref h14, .ref h15, .ref h16, .ref h17, .int h0f30, .int h0f31, .ref h18, .ref h19, .ref h20, .ref h21]), (h4, aJ (k 1) 9 (zJ [3])), (h5, aJ (k 1) 9 (zJ [0, 2, 3])), (h7, aJ (k 1) 4 anJ)] _ := hT
            refine lv_iinc (v := 2) (lv' := [(5, .int 2), (6, .long v110), (4, .int 3), (0, .ref h0), (1, .int x1), (2, .int x2), (3, .int x3)]) hx hb dX11_takesOut_148 hl (k := 1) rfl (by decide) (by decide) rfl (fun ls hl => ?_)
            refine lv_goto (tgt := 75) hx hb dX11_takesOut_151 (by decide) ?_
            refine lv_iload hx hb dX11_takesOut_75 (lv_at hl 0 rfl) ?_
            refine lv_iload_n hx hb dX11_takesOut_77 rfl (lv_at hl 4 rfl) ?_
            refine lv_icmp_lt (tgt := 154) hx hb dX11_takesOut_78 (by decide) (fun c_122 => ?_) (fun c_122 => ?_)
            · skip
              have c_122 := ni_lt c_122 li_2 hq1
              exfalso; omega
            · skip
              have c_122 := ni_nlt c_122 li_2 hq1
              refine lv_aload_n hx hb dX11_takesOut_81 rfl (lv_at hl 3 rfl) ?_
              refine tz_get (ci := 8) (v := .ref h4) (C := RX11) (F := TX11) (N := 36) hx hb hU iX11 hown hK hT 0 rfl rfl 11 (by decide) w796 (fun _ h9 => h9) rfl dX11_takesOut_82 ?_
              refine lv_iload hx hb dX11_takesOut_85 (lv_at hl 0 rfl) ?_
              refine tz_lald hx hb hK hT 1 rfl (by have := li_2; omega) dX11_takesOut_87 (fun v123 e_v123 => ?_)
              clear e_v123
              refine lv_lstore (lv' := [(6, .long v123), (5, .int 2), (4, .int 3), (0, .ref h0), (1, .int x1), (2, .int x2), (3, .int x3)]) hx hb dX11_takesOut_88 hl (by decide) rfl (fun ls hl => ?_)
              refine lv_aload_n hx hb dX11_takesOut_90 rfl (lv_at hl 3 rfl) ?_
              refine tz_get (ci := 8) (v := .ref h5) (C := RX11) (F := TX11) (N := 36) hx hb hU iX11 hown hK hT 0 rfl rfl 12 (by decide) w797 (fun _ h9 => h9) rfl dX11_takesOut_91 ?_
              refine lv_iload hx hb dX11_takesOut_94 (lv_at hl 1 rfl) ?_
              refine lv_iload_n hx hb dX11_takesOut_96 rfl (lv_at hl 4 rfl) ?_
              refine lv_isub hx hb dX11_takesOut_97 (lv_topi (fun v124 e_v124 => ?_))
              have e_v124 := ai_sub e_v124 li_2 hq1 (by omega)
              refine lv_lload hx hb dX11_takesOut_98 (lv_at hl 0 rfl) ?_
              refine tz_lastP hx hb hK hT hS 2 (zJ [2, 3]) rfl (by omega) (z_putx (z := 0) (show v124.toInt = 0 by omega) (by decide)) dX11_takesOut_100 (fun H locs hT hS => ?_)
              have hT : TP D A [(h0, ob 8 [.int h0f0, .int h0f1, .int h0f2, .int h0f3, .int h0f4, .int h0f5, .ref h1, .ref h2, .int h0f8, .int h0f9, .ref h3, .ref h4, .ref h5, .ref h6, .ref h7, .ref h8, .ref h9, .int h0f17, .int h0f18, .int h0f19, .ref h10, .ref h11, .ref h12, .ref h13, .int h0f24, .int h0f25, .ref h14, .ref h15, .ref h16, .ref h17, .int h0f30, .int h0f31, .ref h18, .ref h19, .ref h20, .ref h21]), (h4, aJ (k 1) 9 (zJ [3])), (h5, aJ (k 1) 9 (zJ [2, 3])), (h7, aJ (k 1) 4 anJ)] _ := hT
              refine lv_aload_n hx hb dX11_takesOut_101 rfl (lv_at hl 3 rfl) ?_
              refine tz_get (ci := 8) (v := .ref h4) (C := RX11) (F := TX11) (N := 36) hx hb hU iX11 hown hK hT 0 rfl rfl 11 (by decide) w796 (fun _ h9 => h9) rfl dX11_takesOut_102 ?_
              refine lv_iload hx hb dX11_takesOut_105 (lv_at hl 1 rfl) ?_
              refine lv_iload_n hx hb dX11_takesOut_107 rfl (lv_at hl 4 rfl) ?_
              refine lv_isub hx hb dX11_takesOut_108 (lv_topi (fun v125 e_v125 => ?_))
              have e_v125 := ai_sub e_v125 li_2 hq1 (by omega)
              refine lv_dup2_11 hx hb dX11_takesOut_109 rfl rfl ?_
              refine tz_lald hx hb hK hT 1 rfl (by omega) dX11_takesOut_110 (fun v126 e_v126 => ?_)
              clear e_v126
              refine lv_lload hx hb dX11_takesOut_111 (lv_at hl 0 rfl) ?_
              refine lv_iload_n hx hb dX11_takesOut_113 rfl (lv_at hl 5 rfl) ?_
              obtain ⟨v127, e_v127⟩ : ∃ x : Int64, x2.toInt64 = x := ⟨_, rfl⟩
              refine lv_i2l (v := v127) hx hb dX11_takesOut_114 e_v127 ?_
              have e_v127 := ai_i2l e_v127 rfl
              refine lv_lmul hx hb dX11_takesOut_115 (lv_topl (fun v128 e_v128 => ?_))
              refine lv_lsub hx hb dX11_takesOut_116 (lv_topl (fun v129 e_v129 => ?_))
              refine tz_lastP hx hb hK hT hS 1 (zJ [3]) rfl (by omega) (z_putx (z := 0) (show v125.toInt = 0 by omega) (by decide)) dX11_takesOut_117 (fun H locs hT hS => ?_)
              have hT : TP D A [(h0, ob 8 [.int h0f0, .int h0f1, .int h0f2, .int h0f3, .int h0f4, .int h0f5, .ref h1, .ref h2, .int h0f8, .int h0f9, .ref h3, .ref h4, .ref h5, .ref h6, .ref h7, .ref h8, .ref h9, .int h0f17, .int h0f18, .int h0f19, .ref h10, .ref h11, .ref h12, .ref h13, .int h0f24, .int h0f25, .ref h14, .ref h15, .ref h16, .ref h17, .int h0f30, .int h0f31, .ref h18, .ref h19, .ref h20, .ref h21]), (h4, aJ (k 1) 9 (zJ [3])), (h5, aJ (k 1) 9 (zJ [2, 3])), (h7, aJ (k 1) 4 anJ)] _ := hT
              refine lv_iload_n hx hb dX11_takesOut_118 rfl (lv_at hl 4 rfl) ?_
              refine lv_iconst (v := 2) hx hb dX11_takesOut_119 (by decide) ?_
              refine lv_icmp_ne (tgt := 140) hx hb dX11_takesOut_120 (by decide) (fun c_130 => ?_) (fun c_130 => ?_)
              · skip
                have c_130 := ni_ne c_130 hq1 li_2
                exfalso; omega
              · skip
                have c_130 := ni_eq c_130 hq1 li_2
                refine lv_aload_n hx hb dX11_takesOut_123 rfl (lv_at hl 3 rfl) ?_
                refine tz_get (ci := 8) (v := .ref h4) (C := RX11) (F := TX11) (N := 36) hx hb hU iX11 hown hK hT 0 rfl rfl 11 (by decide) w796 (fun _ h9 => h9) rfl dX11_takesOut_124 ?_
                refine lv_iload hx hb dX11_takesOut_127 (lv_at hl 1 rfl) ?_
                refine lv_iconst (v := 1) hx hb dX11_takesOut_129 (by decide) ?_
                refine lv_isub hx hb dX11_takesOut_130 (sv_i (v := 1) (by decide +kernel) ?_)
                refine lv_dup2_11 hx hb dX11_takesOut_131 rfl rfl ?_
                refine tz_lald hx hb hK hT 1 rfl (by have := li_1; omega) dX11_takesOut_132 (fun v131 e_v131 => ?_)
                clear e_v131
                refine lv_lload hx hb dX11_takesOut_133 (lv_at hl 0 rfl) ?_
                refine lv_iload_n hx hb dX11_takesOut_135 rfl (lv_at hl 6 rfl) ?_
                obtain ⟨v132, e_v132⟩ : ∃ x : Int64, x3.toInt64 = x := ⟨_, rfl⟩
                refine lv_i2l (v := v132) hx hb dX11_takesOut_136 e_v132 ?_
                have e_v132 := ai_i2l e_v132 rfl
                refine lv_lmul hx hb dX11_takesOut_137 (lv_topl (fun v133 e_v133 => ?_))
                refine lv_lsub hx hb dX11_takesOut_138 (lv_topl (fun v134 e_v134 => ?_))
                refine tz_lastP hx hb hK hT hS 1 (zJ [3]) rfl (by have := li_1; omega) (z_putx (z := 1) li_1 (by decide)) dX11_takesOut_139 (fun H locs hT hS => ?_)
                have hT : TP D A [(h0, ob 8 [.int h0f0, .int h0f1, .int h0f2, .int h0f3, .int h0f4, .int h0f5, .ref h1, .ref h2, .int h0f8, .int h0f9, .ref h3, .ref h4, .ref h5, .ref h6, .ref h7, .ref h8, .ref h9, .int h0f17, .int h0f18, .int h0f19, .ref h10, .ref h11, .ref h12, .ref h13, .int h0f24, .int h0f25, .ref h14, .ref h15, .ref h16, .ref h17, .int h0f30, .int h0f31, .ref h18, .ref h19, .ref h20, .ref h21]), (h4, aJ (k 1) 9 (zJ [3])), (h5, aJ (k 1) 9 (zJ [2, 3])), (h7, aJ (k 1) 4 anJ)] _ := hT
                refine lv_aload_n hx hb dX11_takesOut_140 rfl (lv_at hl 3 rfl) ?_
                refine tz_get (ci := 8) (v := .ref h4) (C := RX11) (F := TX11) (N := 36) hx hb hU iX11 hown hK hT 0 rfl rfl 11 (by decide) w796 (fun _ h9 => h9) rfl dX11_takesOut_141 ?_
                refine lv_iload hx hb dX11_takesOut_144 (lv_at hl 1 rfl) ?_
                refine lv_lconst (v := 0) hx hb dX11_takesOut_146 (by decide) ?_
                refine tz_lastP hx hb hK hT hS 1 (zJ [2, 3]) rfl (by have := li_2; omega) (z_put0 (z := 2) li_2 (by decide)) dX11_takesOut_147 (fun H locs hT hS => ?_)
                have hT : TP D A [(h0, ob 8 [.int h0f0, .int h0f1, .int h0f2, .int h0f3, .int h0f4, .int h0f5, .ref h1, .ref h2, .int h0f8, .int h0f9, .ref h3, .ref h4, .ref h5, .ref h6, .ref h7, .ref h8, .ref h9, .int h0f17, .int h0f18, .int h0f19, .ref h10, .ref h11, .ref h12, .ref h13, .int h0f24, .int h0f25, .ref h14, .ref h15, .ref h16, .ref h17, .int h0f30, .int h0f31, .ref h18, .ref h19, .ref h20, .ref h21]), (h4, aJ (k 1) 9 (zJ [2, 3])), (h5, aJ (k 1) 9 (zJ [2, 3])), (h7, aJ (k 1) 4 anJ)] _ := hT
                refine lv_iinc (v := 1) (lv' := [(5, .int 1), (6, .long v123), (4, .int 3), (0, .ref h0), (1, .int x1), (2, .int x2), (3, .int x3)]) hx hb dX11_takesOut_148 hl (k := 1) rfl (by decide) (by decide) rfl (fun ls hl => ?_)
                refine lv_goto (tgt := 75) hx hb dX11_takesOut_151 (by decide) ?_
                refine lv_iload hx hb dX11_takesOut_75 (lv_at hl 0 rfl) ?_
                refine lv_iload_n hx hb dX11_takesOut_77 rfl (lv_at hl 4 rfl) ?_
                refine lv_icmp_lt (tgt := 154) hx hb dX11_takesOut_78 (by decide) (fun c_135 => ?_) (fun c_135 => ?_)
                · skip
                  have c_135 := ni_lt c_135 li_1 hq1
                  refine lv_aload_n hx hb dX11_takesOut_154 rfl (lv_at hl 3 rfl) ?_
                  refine tz_get (ci := 8) (v := .ref h4) (C := RX11) (F := TX11) (N := 36) hx hb hU iX11 hown hK hT 0 rfl rfl 11 (by decide) w796 (fun _ h9 => h9) rfl dX11_takesOut_155 ?_
                  refine lv_iconst (v := 0) hx hb dX11_takesOut_158 (by decide) ?_
                  refine tz_lald hx hb hK hT 1 rfl (by have := li_0; omega) dX11_takesOut_159 (fun v136 e_v136 => ?_)
                  clear e_v136
                  refine lv_lconst (v := 0) hx hb dX11_takesOut_160 (by decide) ?_
                  refine W.lcmp hx hb dX11_takesOut_161 ?_
                  refine lv_if_ne (tgt := 176) hx hb dX11_takesOut_162 (by decide) (fun c_137 => ?_) (fun c_137 => ?_)
                  · skip
                    have c_137 := nl_ne c_137 rfl ll_0
                    refine lv_iconst (v := 0) hx hb dX11_takesOut_176 (by decide) ?_
                    have hT := hT.wk (q := 1) rfl (an_J (c := k 1) (n := 9))
                    have hT : TP D A [(h0, ob 8 [.int h0f0, .int h0f1, .int h0f2, .int h0f3, .int h0f4, .int h0f5, .ref h1, .ref h2, .int h0f8, .int h0f9, .ref h3, .ref h4, .ref h5, .ref h6, .ref h7, .ref h8, .ref h9, .int h0f17, .int h0f18, .int h0f19, .ref h10, .ref h11, .ref h12, .ref h13, .int h0f24, .int h0f25, .ref h14, .ref h15, .ref h16, .ref h17, .int h0f30, .int h0f31, .ref h18, .ref h19, .ref h20, .ref h21]), (h4, aJ (k 1) 9 anJ), (h5, aJ (k 1) 9 (zJ [2, 3])), (h7, aJ (k 1) 4 anJ)] _ := hT
                    have hT := hT.wk (q := 2) rfl (an_J (c := k 1) (n := 9))
                    have hT : TP D A [(h0, ob 8 [.int h0f0, .int h0f1, .int h0f2, .int h0f3, .int h0f4, .int h0f5, .ref h1, .ref h2, .int h0f8, .int h0f9, .ref h3, .ref h4, .ref h5, .ref h6, .ref h7, .ref h8, .ref h9, .int h0f17, .int h0f18, .int h0f19, .ref h10, .ref h11, .ref h12, .ref h13, .int h0f24, .int h0f25, .ref h14, .ref h15, .ref h16, .ref h17, .int h0f30, .int h0f31, .ref h18, .ref h19, .ref h20, .ref h21]), (h4, aJ (k 1) 9 anJ), (h5, aJ (k 1) 9 anJ), (h7, aJ (k 1) 4 anJ)] _ := hT
                    exact tz_retZ (B := B_cX11_takesOut_ae7df D k h0 h4 h5 h7 h1 h2 h3 h6 h8 h9 h10 h11 h12 h13 h14 h15 h16 h17 h18 h19 h20 h21 x1 x2 x3 h0f0 h0f1 h0f2 h0f3 h0f4 h0f5 h0f8 h0f9 h0f17 h0f18 h0f19 h0f24 h0f25 h0f30 h0f31) (v := 0) hQ hx hb hr hlocks hS (Nat.le_of_ble_eq_true rfl) (Nat.le_of_ble_eq_true rfl) dX11_takesOut_177 (by have := li_0; omega) (Or.inl ⟨rfl, hT⟩)
                  · skip
                    have c_137 := nl_eq c_137 rfl ll_0
                    refine lv_aload_n hx hb dX11_takesOut_165 rfl (lv_at hl 3 rfl) ?_
                    refine tz_get (ci := 8) (v := .ref h4) (C := RX11) (F := TX11) (N := 36) hx hb hU iX11 hown hK hT 0 rfl rfl 11 (by decide) w796 (fun _ h9 => h9) rfl dX11_takesOut_166 ?_
                    refine lv_iconst (v := 1) hx hb dX11_takesOut_169 (by decide) ?_
                    refine tz_lald hx hb hK hT 1 rfl (by have := li_1; omega) dX11_takesOut_170 (fun v138 e_v138 => ?_)
                    clear e_v138
                    refine lv_lconst (v := 0) hx hb dX11_takesOut_171 (by decide) ?_
                    refine W.lcmp hx hb dX11_takesOut_172 ?_
                    refine lv_if_eq (tgt := 178) hx hb dX11_takesOut_173 (by decide) (fun c_139 => ?_) (fun c_139 => ?_)
                    · skip
                      have c_139 := nl_eq c_139 rfl ll_0
                      refine lv_iconst (v := 0) hx hb dX11_takesOut_178 (by decide) ?_
                      refine lv_istore (lv' := [(5, .int 0), (6, .long v123), (4, .int 3), (0, .ref h0), (1, .int x1), (2, .int x2), (3, .int x3)]) hx hb dX11_takesOut_179 hl (by decide) rfl (fun ls hl => ?_)
                      refine lv_iload hx hb dX11_takesOut_181 (lv_at hl 0 rfl) ?_
                      refine lv_iconst (v := 4) hx hb dX11_takesOut_183 (by decide) ?_
                      refine lv_icmp_ge (tgt := 207) hx hb dX11_takesOut_184 (by decide) (fun cc => absurd cc (by decide +kernel)) (fun _ => ?_)
                      refine lv_aload_n hx hb dX11_takesOut_187 rfl (lv_at hl 3 rfl) ?_
                      refine tz_get (ci := 8) (v := .ref h7) (C := RX11) (F := TX11) (N := 36) hx hb hU iX11 hown hK hT 0 rfl rfl 14 (by decide) w799 (fun _ h9 => h9) rfl dX11_takesOut_188 ?_
                      refine lv_iload hx hb dX11_takesOut_191 (lv_at hl 0 rfl) ?_
                      refine lv_aload_n hx hb dX11_takesOut_193 rfl (lv_at hl 3 rfl) ?_
                      refine tz_get (ci := 8) (v := .ref h5) (C := RX11) (F := TX11) (N := 36) hx hb hU iX11 hown hK hT 0 rfl rfl 12 (by decide) w797 (fun _ h9 => h9) rfl dX11_takesOut_194 ?_
                      refine lv_iload hx hb dX11_takesOut_197 (lv_at hl 0 rfl) ?_
                      refine tz_lald hx hb hK hT 2 rfl (by have := li_0; omega) dX11_takesOut_199 (fun v140 e_v140 => ?_)
                      clear e_v140
                      have hT := hT.wk (q := 3) rfl (z_of (c := k 1) (n := 4))
                      have hT : TP D A [(h0, ob 8 [.int h0f0, .int h0f1, .int h0f2, .int h0f3, .int h0f4, .int h0f5, .ref h1, .ref h2, .int h0f8, .int h0f9, .ref h3, .ref h4, .ref h5, .ref h6, .ref h7, .ref h8, .ref h9, .int h0f17, .int h0f18, .int h0f19, .ref h10, .ref h11, .ref h12, .ref h13, .int h0f24, .int h0f25, .ref h14, .ref h15, .ref h16, .ref h17, .int h0f30, .int h0f31, .ref h18, .ref h19, .ref h20, .ref h21]), (h4, aJ (k 1) 9 (zJ [2, 3])), (h5, aJ (k 1) 9 (zJ [2, 3])), (h7, aJ (k 1) 4 (zJ []))] _ := hT
                      refine tz_lastP hx hb hK hT hS 3 (zJ []) rfl (by have := li_0; omega) (z_putx (z := 0) li_0 (by decide)) dX11_takesOut_200 (fun H locs hT hS => ?_)
                      have hT : TP D A [(h0, ob 8 [.int h0f0, .int h0f1, .int h0f2, .int h0f3, .int h0f4, .int h0f5, .ref h1, .ref h2, .int h0f8, .int h0f9, .ref h3, .ref h4, .ref h5, .ref h6, .ref h7, .ref h8, .ref h9, .int h0f17, .int h0f18, .int h0f19, .ref h10, .ref h11, .ref h12, .ref h13, .int h0f24, .int h0f25, .ref h14, .ref h15, .ref h16, .ref h17, .int h0f30, .int h0f31, .ref h18, .ref h19, .ref h20, .ref h21]), (h4, aJ (k 1) 9 (zJ [2, 3])), (h5, aJ (k 1) 9 (zJ [2, 3])), (h7, aJ (k 1) 4 (zJ []))] _ := hT
                      refine lv_iinc (v := 1) (lv' := [(5, .int 1), (6, .long v123), (4, .int 3), (0, .ref h0), (1, .int x1), (2, .int x2), (3, .int x3)]) hx hb dX11_takesOut_201 hl (k := 0) rfl (by decide) (by decide) rfl (fun ls hl => ?_)
                      refine lv_goto (tgt := 181) hx hb dX11_takesOut_204 (by decide) ?_
                      refine lv_iload hx hb dX11_takesOut_181 (lv_at hl 0 rfl) ?_
                      refine lv_iconst (v := 4) hx hb dX11_takesOut_183 (by decide) ?_
                      refine lv_icmp_ge (tgt := 207) hx hb dX11_takesOut_184 (by decide) (fun cc => absurd cc (by decide +kernel)) (fun _ => ?_)
                      refine lv_aload_n hx hb dX11_takesOut_187 rfl (lv_at hl 3 rfl) ?_
                      refine tz_get (ci := 8) (v := .ref h7) (C := RX11) (F := TX11) (N := 36) hx hb hU iX11 hown hK hT 0 rfl rfl 14 (by decide) w799 (fun _ h9 => h9) rfl dX11_takesOut_188 ?_
                      refine lv_iload hx hb dX11_takesOut_191 (lv_at hl 0 rfl) ?_
                      refine lv_aload_n hx hb dX11_takesOut_193 rfl (lv_at hl 3 rfl) ?_
                      refine tz_get (ci := 8) (v := .ref h5) (C := RX11) (F := TX11) (N := 36) hx hb hU iX11 hown hK hT 0 rfl rfl 12 (by decide) w797 (fun _ h9 => h9) rfl dX11_takesOut_194 ?_
                      refine lv_iload hx hb dX11_takesOut_197 (lv_at hl 0 rfl) ?_
                      refine tz_lald hx hb hK hT 2 rfl (by have := li_1; omega) dX11_takesOut_199 (fun v141 e_v141 => ?_)
                      clear e_v141
                      refine tz_lastP hx hb hK hT hS 3 (zJ []) rfl (by have := li_1; omega) (z_putx (z := 1) li_1 (by decide)) dX11_takesOut_200 (fun H locs hT hS => ?_)
                      have hT : TP D A [(h0, ob 8 [.int h0f0, .int h0f1, .int h0f2, .int h0f3, .int h0f4, .int h0f5, .ref h1, .ref h2, .int h0f8, .int h0f9, .ref h3, .ref h4, .ref h5, .ref h6, .ref h7, .ref h8, .ref h9, .int h0f17, .int h0f18, .int h0f19, .ref h10, .ref h11, .ref h12, .ref h13, .int h0f24, .int h0f25, .ref h14, .ref h15, .ref h16, .ref h17, .int h0f30, .int h0f31, .ref h18, .ref h19, .ref h20, .ref h21]), (h4, aJ (k 1) 9 (zJ [2, 3])), (h5, aJ (k 1) 9 (zJ [2, 3])), (h7, aJ (k 1) 4 (zJ []))] _ := hT
                      refine lv_iinc (v := 2) (lv' := [(5, .int 2), (6, .long v123), (4, .int 3), (0, .ref h0), (1, .int x1), (2, .int x2), (3, .int x3)]) hx hb dX11_takesOut_201 hl (k := 0) rfl (by decide) (by decide) rfl (fun ls hl => ?_)
                      refine lv_goto (tgt := 181) hx hb dX11_takesOut_204 (by decide) ?_
                      refine lv_iload hx hb dX11_takesOut_181 (lv_at hl 0 rfl) ?_
                      refine lv_iconst (v := 4) hx hb dX11_takesOut_183 (by decide) ?_
                      refine lv_icmp_ge (tgt := 207) hx hb dX11_takesOut_184 (by decide) (fun cc => absurd cc (by decide +kernel)) (fun _ => ?_)
                      refine lv_aload_n hx hb dX11_takesOut_187 rfl (lv_at hl 3 rfl) ?_
                      refine tz_get (ci := 8) (v := .ref h7) (C := RX11) (F := TX11) (N := 36) hx hb hU iX11 hown hK hT 0 rfl rfl 14 (by decide) w799 (fun _ h9 => h9) rfl dX11_takesOut_188 ?_
                      refine lv_iload hx hb dX11_takesOut_191 (lv_at hl 0 rfl) ?_
                      refine lv_aload_n hx hb dX11_takesOut_193 rfl (lv_at hl 3 rfl) ?_
                      refine tz_get (ci := 8) (v := .ref h5) (C := RX11) (F := TX11) (N := 36) hx hb hU iX11 hown hK hT 0 rfl rfl 12 (by decide) w797 (fun _ h9 => h9) rfl dX11_takesOut_194 ?_
                      refine lv_iload hx hb dX11_takesOut_197 (lv_at hl 0 rfl) ?_
                      refine tz_lald hx hb hK hT 2 rfl (by have := li_2; omega) dX11_takesOut_199 (fun v142 e_v142 => ?_)
                      have e_v142 := z_get (z := 2) e_v142 li_2 (by decide)
                      subst e_v142
                      refine tz_lastP hx hb hK hT hS 3 (zJ [2]) rfl (by have := li_2; omega) (z_put0 (z := 2) li_2 (by decide)) dX11_takesOut_200 (fun H locs hT hS => ?_)
                      have hT : TP D A [(h0, ob 8 [.int h0f0, .int h0f1, .int h0f2, .int h0f3, .int h0f4, .int h0f5, .ref h1, .ref h2, .int h0f8, .int h0f9, .ref h3, .ref h4, .ref h5, .ref h6, .ref h7, .ref h8, .ref h9, .int h0f17, .int h0f18, .int h0f19, .ref h10, .ref h11, .ref h12, .ref h13, .int h0f24, .int h0f25, .ref h14, .ref h15, .ref h16, .ref h17, .int h0f30, .int h0f31, .ref h18, .ref h19, .ref h20, .ref h21]), (h4, aJ (k 1) 9 (zJ [2, 3])), (h5, aJ (k 1) 9 (zJ [2, 3])), (h7, aJ (k 1) 4 (zJ [2]))] _ := hT
                      refine lv_iinc (v := 3) (lv' := [(5, .int 3), (6, .long v123), (4, .int 3), (0, .ref h0), (1, .int x1), (2, .int x2), (3, .int x3)]) hx hb dX11_takesOut_201 hl (k := 0) rfl (by decide) (by decide) rfl (fun ls hl => ?_)
                      refine lv_goto (tgt := 181) hx hb dX11_takesOut_204 (by decide) ?_
                      refine lv_iload hx hb dX11_takesOut_181 (lv_at hl 0 rfl) ?_
                      refine lv_iconst (v := 4) hx hb dX11_takesOut_183 (by decide) ?_
                      refine lv_icmp_ge (tgt := 207) hx hb dX11_takesOut_184 (by decide) (fun cc => absurd cc (by decide +kernel)) (fun _ => ?_)
                      refine lv_aload_n hx hb dX11_takesOut_187 rfl (lv_at hl 3 rfl) ?_
                      refine tz_get (ci := 8) (v := .ref h7) (C := RX11) (F := TX11) (N := 36) hx hb hU iX11 hown hK hT 0 rfl rfl 14 (by decide) w799 (fun _ h9 => h9) rfl dX11_takesOut_188 ?_
                      refine lv_iload hx hb dX11_takesOut_191 (lv_at hl 0 rfl) ?_
                      refine lv_aload_n hx hb dX11_takesOut_193 rfl (lv_at hl 3 rfl) ?_
                      refine tz_get (ci := 8) (v := .ref h5) (C := RX11) (F := TX11) (N := 36) hx hb hU iX11 hown hK hT 0 rfl rfl 12 (by decide) w797 (fun _ h9 => h9) rfl dX11_takesOut_194 ?_
                      refine lv_iload hx hb dX11_takesOut_197 (lv_at hl 0 rfl) ?_
                      refine tz_lald hx hb hK hT 2 rfl (by have := li_3; omega) dX11_takesOut_199 (fun v143 e_v143 => ?_)
                      have e_v143 := z_get (z := 3) e_v143 li_3 (by decide)
                      subst e_v143
                      refine tz_lastP hx hb hK hT hS 3 (zJ [2, 3]) rfl (by have := li_3; omega) (z_put0 (z := 3) li_3 (by decide)) dX11_takesOut_200 (fun H locs hT hS => ?_)
                      have hT : TP D A [(h0, ob 8 [.int h0f0, .int h0f1, .int h0f2, .int h0f3, .int h0f4, .int h0f5, .ref h1, .ref h2, .int h0f8, .int h0f9, .ref h3, .ref h4, .ref h5, .ref h6, .ref h7, .ref h8, .ref h9, .int h0f17, .int h0f18, .int h0f19, .ref h10, .ref h11, .ref h12, .ref h13, .int h0f24, .int h0f25, .ref h14, .ref h15, .ref h16, .ref h17, .int h0f30, .int h0f31, .ref h18, .ref h19, .ref h20, .ref h21]), (h4, aJ (k 1) 9 (zJ [2, 3])), (h5, aJ (k 1) 9 (zJ [2, 3])), (h7, aJ (k 1) 4 (zJ [2, 3]))] _ := hT
                      refine lv_iinc (v := 4) (lv' := [(5, .int 4), (6, .long v123), (4, .int 3), (0, .ref h0), (1, .int x1), (2, .int x2), (3, .int x3)]) hx hb dX11_takesOut_201 hl (k := 0) rfl (by decide) (by decide) rfl (fun ls hl => ?_)
                      refine lv_goto (tgt := 181) hx hb dX11_takesOut_204 (by decide) ?_
                      refine lv_iload hx hb dX11_takesOut_181 (lv_at hl 0 rfl) ?_
                      refine lv_iconst (v := 4) hx hb dX11_takesOut_183 (by decide) ?_
                      refine lv_icmp_ge (tgt := 207) hx hb dX11_takesOut_184 (by decide) (fun _ => ?_) (fun cc => absurd (by decide +kernel) cc)
                      refine lv_iconst (v := 1) hx hb dX11_takesOut_207 (by decide) ?_
                      have hT := hT.wk (q := 1) rfl (an_J (c := k 1) (n := 9))
                      have hT : TP D A [(h0, ob 8 [.int h0f0, .int h0f1, .int h0f2, .int h0f3, .int h0f4, .int h0f5, .ref h1, .ref h2, .int h0f8, .int h0f9, .ref h3, .ref h4, .ref h5, .ref h6, .ref h7, .ref h8, .ref h9, .int h0f17, .int h0f18, .int h0f19, .ref h10, .ref h11, .ref h12, .ref h13, .int h0f24, .int h0f25, .ref h14, .ref h15, .ref h16, .ref h17, .int h0f30, .int h0f31, .ref h18, .ref h19, .ref h20, .ref h21]), (h4, aJ (k 1) 9 anJ), (h5, aJ (k 1) 9 (zJ [2, 3])), (h7, aJ (k 1) 4 (zJ [2, 3]))] _ := hT
                      have hT := hT.wk (q := 2) rfl (an_J (c := k 1) (n := 9))
                      have hT : TP D A [(h0, ob 8 [.int h0f0, .int h0f1, .int h0f2, .int h0f3, .int h0f4, .int h0f5, .ref h1, .ref h2, .int h0f8, .int h0f9, .ref h3, .ref h4, .ref h5, .ref h6, .ref h7, .ref h8, .ref h9, .int h0f17, .int h0f18, .int h0f19, .ref h10, .ref h11, .ref h12, .ref h13, .int h0f24, .int h0f25, .ref h14, .ref h15, .ref h16, .ref h17, .int h0f30, .int h0f31, .ref h18, .ref h19, .ref h20, .ref h21]), (h4, aJ (k 1) 9 anJ), (h5, aJ (k 1) 9 anJ), (h7, aJ (k 1) 4 (zJ [2, 3]))] _ := hT
                      have hT := hT.wk (q := 3) rfl (z_sub (c := k 1) (n := 4) (l := [2, 3]) (m := [3]) (by decide))
                      have hT : TP D A [(h0, ob 8 [.int h0f0, .int h0f1, .int h0f2, .int h0f3, .int h0f4, .int h0f5, .ref h1, .ref h2, .int h0f8, .int h0f9, .ref h3, .ref h4, .ref h5, .ref h6, .ref h7, .ref h8, .ref h9, .int h0f17, .int h0f18, .int h0f19, .ref h10, .ref h11, .ref h12, .ref h13, .int h0f24, .int h0f25, .ref h14, .ref h15, .ref h16, .ref h17, .int h0f30, .int h0f31, .ref h18, .ref h19, .ref h20, .ref h21]), (h4, aJ (k 1) 9 anJ), (h5, aJ (k 1) 9 anJ), (h7, aJ (k 1) 4 (zJ [3]))] _ := hT
                      exact tz_retZ (B := B_cX11_takesOut_ae7df D k h0 h4 h5 h7 h1 h2 h3 h6 h8 h9 h10 h11 h12 h13 h14 h15 h16 h17 h18 h19 h20 h21 x1 x2 x3 h0f0 h0f1 h0f2 h0f3 h0f4 h0f5 h0f8 h0f9 h0f17 h0f18 h0f19 h0f24 h0f25 h0f30 h0f31) (v := 1) hQ hx hb hr hlocks hS (Nat.le_of_ble_eq_true rfl) (Nat.le_of_ble_eq_true rfl) dX11_takesOut_208 (by have := li_1; omega) (Or.inr (Or.inr (Or.inr (Or.inr (Or.inl ⟨v102, v136, v138, (by have := li_1; omega), (by have := li_1; omega), (by have := li_1; omega), (by have := li_1; omega), (by have := li_1; omega), (by have := li_1; omega), (by have := li_1; omega), (by have := li_1; omega), (by have := li_1; omega), (by have := li_1; omega), (by have := li_1; omega), rfl, hT⟩)))))
                    · skip
                      have c_139 := nl_ne c_139 rfl ll_0
                      refine lv_iconst (v := 0) hx hb dX11_takesOut_176 (by decide) ?_
                      have hT := hT.wk (q := 1) rfl (an_J (c := k 1) (n := 9))
                      have hT : TP D A [(h0, ob 8 [.int h0f0, .int h0f1, .int h0f2, .int h0f3, .int h0f4, .int h0f5, .ref h1, .ref h2, .int h0f8, .int h0f9, .ref h3, .ref h4, .ref h5, .ref h6, .ref h7, .ref h8, .ref h9, .int h0f17, .int h0f18, .int h0f19, .ref h10, .ref h11, .ref h12, .ref h13, .int h0f24, .int h0f25, .ref h14, .ref h15, .ref h16, .ref h17, .int h0f30, .int h0f31, .ref h18, .ref h19, .ref h20, .ref h21]), (h4, aJ (k 1) 9 anJ), (h5, aJ (k 1) 9 (zJ [2, 3])), (h7, aJ (k 1) 4 anJ)] _ := hT
                      have hT := hT.wk (q := 2) rfl (an_J (c := k 1) (n := 9))
                      have hT : TP D A [(h0, ob 8 [.int h0f0, .int h0f1, .int h0f2, .int h0f3, .int h0f4, .int h0f5, .ref h1, .ref h2, .int h0f8, .int h0f9, .ref h3, .ref h4, .ref h5, .ref h6, .ref h7, .ref h8, .ref h9, .int h0f17, .int h0f18, .int h0f19, .ref h10, .ref h11, .ref h12, .ref h13, .int h0f24, .int h0f25, .ref h14, .ref h15, .ref h16, .ref h17, .int h0f30, .int h0f31, .ref h18, .ref h19, .ref h20, .ref h21]), (h4, aJ (k 1) 9 anJ), (h5, aJ (k 1) 9 anJ), (h7, aJ (k 1) 4 anJ)] _ := hT
                      exact tz_retZ (B := B_cX11_takesOut_ae7df D k h0 h4 h5 h7 h1 h2 h3 h6 h8 h9 h10 h11 h12 h13 h14 h15 h16 h17 h18 h19 h20 h21 x1 x2 x3 h0f0 h0f1 h0f2 h0f3 h0f4 h0f5 h0f8 h0f9 h0f17 h0f18 h0f19 h0f24 h0f25 h0f30 h0f31) (v := 0) hQ hx hb hr hlocks hS (Nat.le_of_ble_eq_true rfl) (Nat.le_of_ble_eq_true rfl) dX11_takesOut_177 (by have := li_0; omega) (Or.inl ⟨rfl, hT⟩)
                · skip
                  have c_135 := ni_nlt c_135 li_1 hq1
                  exfalso; omega
      · skip
        have c_104 := ni_nle c_104 hq1 li_3
        exfalso; omega
    · skip
      have c_103 := nl_eq c_103 rfl ll_0
      refine lv_iinc (v := 2) (lv' := [(4, .int 2), (0, .ref h0), (1, .int x1), (2, .int x2), (3, .int x3)]) hx hb dX11_takesOut_20 hl (k := 0) rfl (by decide) (by decide) rfl (fun ls hl => ?_)
      refine lv_goto (tgt := 3) hx hb dX11_takesOut_23 (by decide) ?_
      refine lv_iload hx hb dX11_takesOut_3 (lv_at hl 0 rfl) ?_
      refine lv_if_le (tgt := 26) hx hb dX11_takesOut_5 (by decide) (fun cc => absurd cc (by decide +kernel)) (fun _ => ?_)
      refine lv_aload_n hx hb dX11_takesOut_8 rfl (lv_at hl 1 rfl) ?_
      refine tz_get (ci := 8) (v := .ref h7) (C := RX11) (F := TX11) (N := 36) hx hb hU iX11 hown hK hT 0 rfl rfl 14 (by decide) w799 (fun _ h9 => h9) rfl dX11_takesOut_9 ?_
      refine lv_iload hx hb dX11_takesOut_12 (lv_at hl 0 rfl) ?_
      refine tz_lald hx hb hK hT 3 rfl (by have := li_2; omega) dX11_takesOut_14 (fun v144 e_v144 => ?_)
      clear e_v144
      refine lv_lconst (v := 0) hx hb dX11_takesOut_15 (by decide) ?_
      refine W.lcmp hx hb dX11_takesOut_16 ?_
      refine lv_if_ne (tgt := 26) hx hb dX11_takesOut_17 (by decide) (fun c_145 => ?_) (fun c_145 => ?_)
      · skip
        have c_145 := nl_ne c_145 rfl ll_0
        refine lv_iload hx hb dX11_takesOut_26 (lv_at hl 0 rfl) ?_
        refine lv_iload_n hx hb dX11_takesOut_28 rfl (lv_at hl 2 rfl) ?_
        refine lv_icmp_ge (tgt := 34) hx hb dX11_takesOut_29 (by decide) (fun c_146 => ?_) (fun c_146 => ?_)
        · skip
          have c_146 := ni_le c_146 hq1 li_2
          refine lv_iconst (v := 0) hx hb dX11_takesOut_34 (by decide) ?_
          refine lv_istore (lv' := [(5, .int 0), (4, .int 2), (0, .ref h0), (1, .int x1), (2, .int x2), (3, .int x3)]) hx hb dX11_takesOut_35 hl (by decide) rfl (fun ls hl => ?_)
          refine lv_iload hx hb dX11_takesOut_37 (lv_at hl 0 rfl) ?_
          refine lv_iconst (v := 4) hx hb dX11_takesOut_39 (by decide) ?_
          refine lv_icmp_ge (tgt := 71) hx hb dX11_takesOut_40 (by decide) (fun cc => absurd cc (by decide +kernel)) (fun _ => ?_)
          refine lv_aload_n hx hb dX11_takesOut_43 rfl (lv_at hl 2 rfl) ?_
          refine tz_get (ci := 8) (v := .ref h4) (C := RX11) (F := TX11) (N := 36) hx hb hU iX11 hown hK hT 0 rfl rfl 11 (by decide) w796 (fun _ h9 => h9) rfl dX11_takesOut_44 ?_
          refine lv_iload hx hb dX11_takesOut_47 (lv_at hl 0 rfl) ?_
          refine lv_aload_n hx hb dX11_takesOut_49 rfl (lv_at hl 2 rfl) ?_
          refine tz_get (ci := 8) (v := .ref h7) (C := RX11) (F := TX11) (N := 36) hx hb hU iX11 hown hK hT 0 rfl rfl 14 (by decide) w799 (fun _ h9 => h9) rfl dX11_takesOut_50 ?_
          refine lv_iload hx hb dX11_takesOut_53 (lv_at hl 0 rfl) ?_
          refine tz_lald hx hb hK hT 3 rfl (by have := li_0; omega) dX11_takesOut_55 (fun v147 e_v147 => ?_)
          clear e_v147
          have hT := hT.wk (q := 1) rfl (z_of (c := k 1) (n := 9))
          have hT : TP D A [(h0, ob 8 [.int h0f0, .int h0f1, .int h0f2, .int h0f3, .int h0f4, .int h0f5, .ref h1, .ref h2, .int h0f8, .int h0f9, .ref h3, .ref h4, .ref h5, .ref h6, .ref h7, .ref h8, .ref h9, .int h0f17, .int h0f18, .int h0f19, .ref h10, .ref h11, .ref h12, .ref h13, .int h0f24, .int h0f25, .ref h14, .ref h15, .ref h16, .ref h17, .int h0f30, .int h0f31, .ref h18, .ref h19, .ref h20, .ref h21]), (h4, aJ (k 1) 9 (zJ [])), (h5, aJ (k 1) 9 anJ), (h7, aJ (k 1) 4 anJ)] _ := hT
          refine tz_lastP hx hb hK hT hS 1 (zJ []) rfl (by have := li_0; omega) (z_putx (z := 0) li_0 (by decide)) dX11_takesOut_56 (fun H locs hT hS => ?_)
          have hT : TP D A [(h0, ob 8 [.int h0f0, .int h0f1, .int h0f2, .int h0f3, .int h0f4, .int h0f5, .ref h1, .ref h2, .int h0f8, .int h0f9, .ref h3, .ref h4, .ref h5, .ref h6, .ref h7, .ref h8, .ref h9, .int h0f17, .int h0f18, .int h0f19, .ref h10, .ref h11, .ref h12, .ref h13, .int h0f24, .int h0f25, .ref h14, .ref h15, .ref h16, .ref h17, .int h0f30, .int h0f31, .ref h18, .ref h19, .ref h20, .ref h21]), (h4, aJ (k 1) 9 (zJ [])), (h5, aJ (k 1) 9 anJ), (h7, aJ (k 1) 4 anJ)] _ := hT
          refine lv_aload_n hx hb dX11_takesOut_57 rfl (lv_at hl 2 rfl) ?_
          refine tz_get (ci := 8) (v := .ref h5) (C := RX11) (F := TX11) (N := 36) hx hb hU iX11 hown hK hT 0 rfl rfl 12 (by decide) w797 (fun _ h9 => h9) rfl dX11_takesOut_58 ?_
          refine lv_iload hx hb dX11_takesOut_61 (lv_at hl 0 rfl) ?_
          refine lv_lconst (v := 0) hx hb dX11_takesOut_63 (by decide) ?_
          have hT := hT.wk (q := 2) rfl (z_of (c := k 1) (n := 9))
          have hT : TP D A [(h0, ob 8 [.int h0f0, .int h0f1, .int h0f2, .int h0f3, .int h0f4, .int h0f5, .ref h1, .ref h2, .int h0f8, .int h0f9, .ref h3, .ref h4, .ref h5, .ref h6, .ref h7, .ref h8, .ref h9, .int h0f17, .int h0f18, .int h0f19, .ref h10, .ref h11, .ref h12, .ref h13, .int h0f24, .int h0f25, .ref h14, .ref h15, .ref h16, .ref h17, .int h0f30, .int h0f31, .ref h18, .ref h19, .ref h20, .ref h21]), (h4, aJ (k 1) 9 (zJ [])), (h5, aJ (k 1) 9 (zJ [])), (h7, aJ (k 1) 4 anJ)] _ := hT
          refine tz_lastP hx hb hK hT hS 2 (zJ [0]) rfl (by have := li_0; omega) (z_put0 (z := 0) li_0 (by decide)) dX11_takesOut_64 (fun H locs hT hS => ?_)
          have hT : TP D A [(h0, ob 8 [.int h0f0, .int h0f1, .int h0f2, .int h0f3, .int h0f4, .int h0f5, .ref h1, .ref h2, .int h0f8, .int h0f9, .ref h3, .ref h4, .ref h5, .ref h6, .ref h7, .ref h8, .ref h9, .int h0f17, .int h0f18, .int h0f19, .ref h10, .ref h11, .ref h12, .ref h13, .int h0f24, .int h0f25, .ref h14, .ref h15, .ref h16, .ref h17, .int h0f30, .int h0f31, .ref h18, .ref h19, .ref h20, .ref h21]), (h4, aJ (k 1) 9 (zJ [])), (h5, aJ (k 1) 9 (zJ [0])), (h7, aJ (k 1) 4 anJ)] _ := hT
          refine lv_iinc (v := 1) (lv' := [(5, .int 1), (4, .int 2), (0, .ref h0), (1, .int x1), (2, .int x2), (3, .int x3)]) hx hb dX11_takesOut_65 hl (k := 0) rfl (by decide) (by decide) rfl (fun ls hl => ?_)
          refine lv_goto (tgt := 37) hx hb dX11_takesOut_68 (by decide) ?_
          refine lv_iload hx hb dX11_takesOut_37 (lv_at hl 0 rfl) ?_
          refine lv_iconst (v := 4) hx hb dX11_takesOut_39 (by decide) ?_
          refine lv_icmp_ge (tgt := 71) hx hb dX11_takesOut_40 (by decide) (fun cc => absurd cc (by decide +kernel)) (fun _ => ?_)
          refine lv_aload_n hx hb dX11_takesOut_43 rfl (lv_at hl 2 rfl) ?_
          refine tz_get (ci := 8) (v := .ref h4) (C := RX11) (F := TX11) (N := 36) hx hb hU iX11 hown hK hT 0 rfl rfl 11 (by decide) w796 (fun _ h9 => h9) rfl dX11_takesOut_44 ?_
          refine lv_iload hx hb dX11_takesOut_47 (lv_at hl 0 rfl) ?_
          refine lv_aload_n hx hb dX11_takesOut_49 rfl (lv_at hl 2 rfl) ?_
          refine tz_get (ci := 8) (v := .ref h7) (C := RX11) (F := TX11) (N := 36) hx hb hU iX11 hown hK hT 0 rfl rfl 14 (by decide) w799 (fun _ h9 => h9) rfl dX11_takesOut_50 ?_
          refine lv_iload hx hb dX11_takesOut_53 (lv_at hl 0 rfl) ?_
          refine tz_lald hx hb hK hT 3 rfl (by have := li_1; omega) dX11_takesOut_55 (fun v148 e_v148 => ?_)
          clear e_v148
          refine tz_lastP hx hb hK hT hS 1 (zJ []) rfl (by have := li_1; omega) (z_putx (z := 1) li_1 (by decide)) dX11_takesOut_56 (fun H locs hT hS => ?_)
          have hT : TP D A [(h0, ob 8 [.int h0f0, .int h0f1, .int h0f2, .int h0f3, .int h0f4, .int h0f5, .ref h1, .ref h2, .int h0f8, .int h0f9, .ref h3, .ref h4, .ref h5, .ref h6, .ref h7, .ref h8, .ref h9, .int h0f17, .int h0f18, .int h0f19, .ref h10, .ref h11, .ref h12, .ref h13, .int h0f24, .int h0f25, .ref h14, .ref h15, .ref h16, .ref h17, .int h0f30, .int h0f31, .ref h18, .ref h19, .ref h20, .ref h21]), (h4, aJ (k 1) 9 (zJ [])), (h5, aJ (k 1) 9 (zJ [0])), (h7, aJ (k 1) 4 anJ)] _ := hT
          refine lv_aload_n hx hb dX11_takesOut_57 rfl (lv_at hl 2 rfl) ?_
          refine tz_get (ci := 8) (v := .ref h5) (C := RX11) (F := TX11) (N := 36) hx hb hU iX11 hown hK hT 0 rfl rfl 12 (by decide) w797 (fun _ h9 => h9) rfl dX11_takesOut_58 ?_
          refine lv_iload hx hb dX11_takesOut_61 (lv_at hl 0 rfl) ?_
          refine lv_lconst (v := 0) hx hb dX11_takesOut_63 (by decide) ?_
          refine tz_lastP hx hb hK hT hS 2 (zJ [0, 1]) rfl (by have := li_1; omega) (z_put0 (z := 1) li_1 (by decide)) dX11_takesOut_64 (fun H locs hT hS => ?_)
          have hT : TP D A [(h0, ob 8 [.int h0f0, .int h0f1, .int h0f2, .int h0f3, .int h0f4, .int h0f5, .ref h1, .ref h2, .int h0f8, .int h0f9, .ref h3, .ref h4, .ref h5, .ref h6, .ref h7, .ref h8, .ref h9, .int h0f17, .int h0f18, .int h0f19, .ref h10, .ref h11, .ref h12, .ref h13, .int h0f24, .int h0f25, .ref h14, .ref h15, .ref h16, .ref h17, .int h0f30, .int h0f31, .ref h18, .ref h19, .ref h20, .ref h21]), (h4, aJ (k 1) 9 (zJ [])), (h5, aJ (k 1) 9 (zJ [0, 1])), (h7, aJ (k 1) 4 anJ)] _ := hT
          refine lv_iinc (v := 2) (lv' := [(5, .int 2), (4, .int 2), (0, .ref h0), (1, .int x1), (2, .int x2), (3, .int x3)]) hx hb dX11_takesOut_65 hl (k := 0) rfl (by decide) (by decide) rfl (fun ls hl => ?_)
          refine lv_goto (tgt := 37) hx hb dX11_takesOut_68 (by decide) ?_
          refine lv_iload hx hb dX11_takesOut_37 (lv_at hl 0 rfl) ?_
          refine lv_iconst (v := 4) hx hb dX11_takesOut_39 (by decide) ?_
          refine lv_icmp_ge (tgt := 71) hx hb dX11_takesOut_40 (by decide) (fun cc => absurd cc (by decide +kernel)) (fun _ => ?_)
          refine lv_aload_n hx hb dX11_takesOut_43 rfl (lv_at hl 2 rfl) ?_
          refine tz_get (ci := 8) (v := .ref h4) (C := RX11) (F := TX11) (N := 36) hx hb hU iX11 hown hK hT 0 rfl rfl 11 (by decide) w796 (fun _ h9 => h9) rfl dX11_takesOut_44 ?_
          refine lv_iload hx hb dX11_takesOut_47 (lv_at hl 0 rfl) ?_
          refine lv_aload_n hx hb dX11_takesOut_49 rfl (lv_at hl 2 rfl) ?_
          refine tz_get (ci := 8) (v := .ref h7) (C := RX11) (F := TX11) (N := 36) hx hb hU iX11 hown hK hT 0 rfl rfl 14 (by decide) w799 (fun _ h9 => h9) rfl dX11_takesOut_50 ?_
          refine lv_iload hx hb dX11_takesOut_53 (lv_at hl 0 rfl) ?_
          refine tz_lald hx hb hK hT 3 rfl (by have := li_2; omega) dX11_takesOut_55 (fun v149 e_v149 => ?_)
          clear e_v149
          refine tz_lastP hx hb hK hT hS 1 (zJ []) rfl (by have := li_2; omega) (z_putx (z := 2) li_2 (by decide)) dX11_takesOut_56 (fun H locs hT hS => ?_)
          have hT : TP D A [(h0, ob 8 [.int h0f0, .int h0f1, .int h0f2, .int h0f3, .int h0f4, .int h0f5, .ref h1, .ref h2, .int h0f8, .int h0f9, .ref h3, .ref h4, .ref h5, .ref h6, .ref h7, .ref h8, .ref h9, .int h0f17, .int h0f18, .int h0f19, .ref h10, .ref h11, .ref h12, .ref h13, .int h0f24, .int h0f25, .ref h14, .ref h15, .ref h16, .ref h17, .int h0f30, .int h0f31, .ref h18, .ref h19, .ref h20, .ref h21]), (h4, aJ (k 1) 9 (zJ [])), (h5, aJ (k 1) 9 (zJ [0, 1])), (h7, aJ (k 1) 4 anJ)] _ := hT
          refine lv_aload_n hx hb dX11_takesOut_57 rfl (lv_at hl 2 rfl) ?_
          refine tz_get (ci := 8) (v := .ref h5) (C := RX11) (F := TX11) (N := 36) hx hb hU iX11 hown hK hT 0 rfl rfl 12 (by decide) w797 (fun _ h9 => h9) rfl dX11_takesOut_58 ?_
          refine lv_iload hx hb dX11_takesOut_61 (lv_at hl 0 rfl) ?_
          refine lv_lconst (v := 0) hx hb dX11_takesOut_63 (by decide) ?_
          refine tz_lastP hx hb hK hT hS 2 (zJ [0, 1, 2]) rfl (by have := li_2; omega) (z_put0 (z := 2) li_2 (by decide)) dX11_takesOut_64 (fun H locs hT hS => ?_)
          have hT : TP D A [(h0, ob 8 [.int h0f0, .int h0f1, .int h0f2, .int h0f3, .int h0f4, .int h0f5, .ref h1, .ref h2, .int h0f8, .int h0f9, .ref h3, .ref h4, .ref h5, .ref h6, .ref h7, .ref h8, .ref h9, .int h0f17, .int h0f18, .int h0f19, .ref h10, .ref h11, .ref h12, .ref h13, .int h0f24, .int h0f25, .ref h14, .ref h15, .ref h16, .ref h17, .int h0f30, .int h0f31, .ref h18, .ref h19, .ref h20, .ref h21]), (h4, aJ (k 1) 9 (zJ [])), (h5, aJ (k 1) 9 (zJ [0, 1, 2])), (h7, aJ (k 1) 4 anJ)] _ := hT
          refine lv_iinc (v := 3) (lv' := [(5, .int 3), (4, .int 2), (0, .ref h0), (1, .int x1), (2, .int x2), (3, .int x3)]) hx hb dX11_takesOut_65 hl (k := 0) rfl (by decide) (by decide) rfl (fun ls hl => ?_)
          refine lv_goto (tgt := 37) hx hb dX11_takesOut_68 (by decide) ?_
          refine lv_iload hx hb dX11_takesOut_37 (lv_at hl 0 rfl) ?_
          refine lv_iconst (v := 4) hx hb dX11_takesOut_39 (by decide) ?_
          refine lv_icmp_ge (tgt := 71) hx hb dX11_takesOut_40 (by decide) (fun cc => absurd cc (by decide +kernel)) (fun _ => ?_)
          refine lv_aload_n hx hb dX11_takesOut_43 rfl (lv_at hl 2 rfl) ?_
          refine tz_get (ci := 8) (v := .ref h4) (C := RX11) (F := TX11) (N := 36) hx hb hU iX11 hown hK hT 0 rfl rfl 11 (by decide) w796 (fun _ h9 => h9) rfl dX11_takesOut_44 ?_
          refine lv_iload hx hb dX11_takesOut_47 (lv_at hl 0 rfl) ?_
          refine lv_aload_n hx hb dX11_takesOut_49 rfl (lv_at hl 2 rfl) ?_
          refine tz_get (ci := 8) (v := .ref h7) (C := RX11) (F := TX11) (N := 36) hx hb hU iX11 hown hK hT 0 rfl rfl 14 (by decide) w799 (fun _ h9 => h9) rfl dX11_takesOut_50 ?_
          refine lv_iload hx hb dX11_takesOut_53 (lv_at hl 0 rfl) ?_
          refine tz_lald hx hb hK hT 3 rfl (by have := li_3; omega) dX11_takesOut_55 (fun v150 e_v150 => ?_)
          clear e_v150
          refine tz_lastP hx hb hK hT hS 1 (zJ []) rfl (by have := li_3; omega) (z_putx (z := 3) li_3 (by decide)) dX11_takesOut_56 (fun H locs hT hS => ?_)
          have hT : TP D A [(h0, ob 8 [.int h0f0, .int h0f1, .int h0f2, .int h0f3, .int h0f4, .int h0f5, .ref h1, .ref h2, .int h0f8, .int h0f9, .ref h3, .ref h4, .ref h5, .ref h6, .ref h7, .ref h8, .ref h9, .int h0f17, .int h0f18, .int h0f19, .ref h10, .ref h11, .ref h12, .ref h13, .int h0f24, .int h0f25, .ref h14, .ref h15, .ref h16, .ref h17, .int h0f30, .int h0f31, .ref h18, .ref h19, .ref h20, .ref h21]), (h4, aJ (k 1) 9 (zJ [])), (h5, aJ (k 1) 9 (zJ [0, 1, 2])), (h7, aJ (k 1) 4 anJ)] _ := hT
          refine lv_aload_n hx hb dX11_takesOut_57 rfl (lv_at hl 2 rfl) ?_
          refine tz_get (ci := 8) (v := .ref h5) (C := RX11) (F := TX11) (N := 36) hx hb hU iX11 hown hK hT 0 rfl rfl 12 (by decide) w797 (fun _ h9 => h9) rfl dX11_takesOut_58 ?_
          refine lv_iload hx hb dX11_takesOut_61 (lv_at hl 0 rfl) ?_
          refine lv_lconst (v := 0) hx hb dX11_takesOut_63 (by decide) ?_
          refine tz_lastP hx hb hK hT hS 2 (zJ [0, 1, 2, 3]) rfl (by have := li_3; omega) (z_put0 (z := 3) li_3 (by decide)) dX11_takesOut_64 (fun H locs hT hS => ?_)
          have hT : TP D A [(h0, ob 8 [.int h0f0, .int h0f1, .int h0f2, .int h0f3, .int h0f4, .int h0f5, .ref h1, .ref h2, .int h0f8, .int h0f9, .ref h3, .ref h4, .ref h5, .ref h6, .ref h7, .ref h8, .ref h9, .int h0f17, .int h0f18, .int h0f19, .ref h10, .ref h11, .ref h12, .ref h13, .int h0f24, .int h0f25, .ref h14, .ref h15, .ref h16, .ref h17, .int h0f30, .int h0f31, .ref h18, .ref h19, .ref h20, .ref h21]), (h4, aJ (k 1) 9 (zJ [])), (h5, aJ (k 1) 9 (zJ [0, 1, 2, 3])), (h7, aJ (k 1) 4 anJ)] _ := hT
          refine lv_iinc (v := 4) (lv' := [(5, .int 4), (4, .int 2), (0, .ref h0), (1, .int x1), (2, .int x2), (3, .int x3)]) hx hb dX11_takesOut_65 hl (k := 0) rfl (by decide) (by decide) rfl (fun ls hl => ?_)
          refine lv_goto (tgt := 37) hx hb dX11_takesOut_68 (by decide) ?_
          refine lv_iload hx hb dX11_takesOut_37 (lv_at hl 0 rfl) ?_
          refine lv_iconst (v := 4) hx hb dX11_takesOut_39 (by decide) ?_
          refine lv_icmp_ge (tgt := 71) hx hb dX11_takesOut_40 (by decide) (fun _ => ?_) (fun cc => absurd (by decide +kernel) cc)
          refine lv_iload hx hb dX11_takesOut_71 (lv_at hl 1 rfl) ?_
          refine lv_istore (lv' := [(5, .int 2), (4, .int 2), (0, .ref h0), (1, .int x1), (2, .int x2), (3, .int x3)]) hx hb dX11_takesOut_73 hl (by decide) rfl (fun ls hl => ?_)
          refine lv_iload hx hb dX11_takesOut_75 (lv_at hl 0 rfl) ?_
          refine lv_iload_n hx hb dX11_takesOut_77 rfl (lv_at hl 3 rfl) ?_
          refine lv_icmp_lt (tgt := 154) hx hb dX11_takesOut_78 (by decide) (fun c_151 => ?_) (fun c_151 => ?_)
          · skip
            have c_151 := ni_lt c_151 li_2 hq1
            exfalso; omega
          · skip
            have c_151 := ni_nlt c_151 li_2 hq1
            refine lv_aload_n hx hb dX11_takesOut_81 rfl (lv_at hl 2 rfl) ?_
            refine tz_get (ci := 8) (v := .ref h4) (C := RX11) (F := TX11) (N := 36) hx hb hU iX11 hown hK hT 0 rfl rfl 11 (by decide) w796 (fun _ h9 => h9) rfl dX11_takesOut_82 ?_
            refine lv_iload hx hb dX11_takesOut_85 (lv_at hl 0 rfl) ?_
            refine tz_lald hx hb hK hT 1 rfl (by have := li_2; omega) dX11_takesOut_87 (fun v152 e_v152 => ?_)
            clear e_v152
            refine lv_lstore (lv' := [(6, .long v152), (5, .int 2), (4, .int 2), (0, .ref h0), (1, .int x1), (2, .int x2), (3, .int x3)]) hx hb dX11_takesOut_88 hl (by decide) rfl (fun ls hl => ?_)
            refine lv_aload_n hx hb dX11_takesOut_90 rfl (lv_at hl 3 rfl) ?_
            refine tz_get (ci := 8) (v := .ref h5) (C := RX11) (F := TX11) (N := 36) hx hb hU iX11 hown hK hT 0 rfl rfl 12 (by decide) w797 (fun _ h9 => h9) rfl dX11_takesOut_91 ?_
            refine lv_iload hx hb dX11_takesOut_94 (lv_at hl 1 rfl) ?_
            refine lv_iload_n hx hb dX11_takesOut_96 rfl (lv_at hl 4 rfl) ?_
            refine lv_isub hx hb dX11_takesOut_97 (lv_topi (fun v153 e_v153 => ?_))
            have e_v153 := ai_sub e_v153 li_2 hq1 (by omega)
            refine lv_lload hx hb dX11_takesOut_98 (lv_at hl 0 rfl) ?_
            refine tz_lastP hx hb hK hT hS 2 (zJ [1, 2, 3]) rfl (by omega) (z_putx (z := 0) (show v153.toInt = 0 by omega) (by decide)) dX11_takesOut_100 (fun H locs hT hS => ?_)
            have hT : TP D A [(h0, ob 8 [.int h0f0, .int h0f1, .int h0f2, .int h0f3, .int h0f4, .int h0f5, .ref h1, .ref h2, .int h0f8, .int h0f9, .ref h3, .ref h4, .ref h5, .ref h6, .ref h7, .ref h8, .ref h9, .int h0f17, .int h0f18, .int h0f19, .ref h10, .ref h11, .ref h12, .ref h13, .int h0f24, .int h0f25, .ref h14, .ref h15, .ref h16, .ref h17, .int h0f30, .int h0f31, .ref h18, .ref h19, .ref h20, .ref h21]), (h4, aJ (k 1) 9 (zJ [])), (h5, aJ (k 1) 9 (zJ [1, 2, 3])), (h7, aJ (k 1) 4 anJ)] _ := hT
            refine lv_aload_n hx hb dX11_takesOut_101 rfl (lv_at hl 3 rfl) ?_
            refine tz_get (ci := 8) (v := .ref h4) (C := RX11) (F := TX11) (N := 36) hx hb hU iX11 hown hK hT 0 rfl rfl 11 (by decide) w796 (fun _ h9 => h9) rfl dX11_takesOut_102 ?_
            refine lv_iload hx hb dX11_takesOut_105 (lv_at hl 1 rfl) ?_
            refine lv_iload_n hx hb dX11_takesOut_107 rfl (lv_at hl 4 rfl) ?_
            refine lv_isub hx hb dX11_takesOut_108 (lv_topi (fun v154 e_v154 => ?_))
            have e_v154 := ai_sub e_v154 li_2 hq1 (by omega)
            refine lv_dup2_11 hx hb dX11_takesOut_109 rfl rfl ?_
            refine tz_lald hx hb hK hT 1 rfl (by omega) dX11_takesOut_110 (fun v155 e_v155 => ?_)
            clear e_v155
            refine lv_lload hx hb dX11_takesOut_111 (lv_at hl 0 rfl) ?_
            refine lv_iload_n hx hb dX11_takesOut_113 rfl (lv_at hl 5 rfl) ?_
            obtain ⟨v156, e_v156⟩ : ∃ x : Int64, x2.toInt64 = x := ⟨_, rfl⟩
            refine lv_i2l (v := v156) hx hb dX11_takesOut_114 e_v156 ?_
            have e_v156 := ai_i2l e_v156 rfl
            refine lv_lmul hx hb dX11_takesOut_115 (lv_topl (fun v157 e_v157 => ?_))
            refine lv_lsub hx hb dX11_takesOut_116 (lv_topl (fun v158 e_v158 => ?_))
            refine tz_lastP hx hb hK hT hS 1 (zJ []) rfl (by omega) (z_putx (z := 0) (show v154.toInt = 0 by omega) (by decide)) dX11_takesOut_117 (fun H locs hT hS => ?_)
            have hT : TP D A [(h0, ob 8 [.int h0f0, .int h0f1, .int h0f2, .int h0f3, .int h0f4, .int h0f5, .ref h1, .ref h2, .int h0f8, .int h0f9, .ref h3, .ref h4, .ref h5, .ref h6, .ref h7, .ref h8, .ref h9, .int h0f17, .int h0f18, .int h0f19, .ref h10, .ref h11, .ref h12, .ref h13, .int h0f24, .int h0f25, .ref h14, .ref h15, .ref h16, .ref h17, .int h0f30, .int h0f31, .ref h18, .ref h19, .ref h20, .ref h21]), (h4, aJ (k 1) 9 (zJ [])), (h5, aJ (k 1) 9 (zJ [1, 2, 3])), (h7, aJ (k 1) 4 anJ)] _ := hT
            refine lv_iload_n hx hb dX11_takesOut_118 rfl (lv_at hl 4 rfl) ?_
            refine lv_iconst (v := 2) hx hb dX11_takesOut_119 (by decide) ?_
            refine lv_icmp_ne (tgt := 140) hx hb dX11_takesOut_120 (by decide) (fun c_159 => ?_) (fun c_159 => ?_)
            · skip
              have c_159 := ni_ne c_159 hq1 li_2
              exfalso; omega
            · skip
              have c_159 := ni_eq c_159 hq1 li_2
              refine lv_aload_n hx hb dX11_takesOut_123 rfl (lv_at hl 3 rfl) ?_
              refine tz_get (ci := 8) (v := .ref h4) (C := RX11) (F := TX11) (N := 36) hx hb hU iX11 hown hK hT 0 rfl rfl 11 (by decide) w796 (fun _ h9 => h9) rfl dX11_takesOut_124 ?_
              refine lv_iload hx hb dX11_takesOut_127 (lv_at hl 1 rfl) ?_
              refine lv_iconst (v := 1) hx hb dX11_takesOut_129 (by decide) ?_
              refine lv_isub hx hb dX11_takesOut_130 (sv_i (v := 1) (by decide +kernel) ?_)
              refine lv_dup2_11 hx hb dX11_takesOut_131 rfl rfl ?_
              refine tz_lald hx hb hK hT 1 rfl (by have := li_1; omega) dX11_takesOut_132 (fun v160 e_v160 => ?_)
              clear e_v160
              refine lv_lload hx hb dX11_takesOut_133 (lv_at hl 0 rfl) ?_
              refine lv_iload_n hx hb dX11_takesOut_135 rfl (lv_at hl 6 rfl) ?_
              obtain ⟨v161, e_v161⟩ : ∃ x : Int64, x3.toInt64 = x := ⟨_, rfl⟩
              refine lv_i2l (v := v161) hx hb dX11_takesOut_136 e_v161 ?_
              have e_v161 := ai_i2l e_v161 rfl
              refine lv_lmul hx hb dX11_takesOut_137 (lv_topl (fun v162 e_v162 => ?_))
              refine lv_lsub hx hb dX11_takesOut_138 (lv_topl (fun v163 e_v163 => ?_))
              refine tz_lastP hx hb hK hT hS 1 (zJ []) rfl (by have := li_1; omega) (z_putx (z := 1) li_1 (by decide)) dX11_takesOut_139 (fun H locs hT hS => ?_)
              have hT : TP D A [(h0, ob 8 [.int h0f0, .int h0f1, .int h0f2, .int h0f3, .int h0f4, .int h0f5, .ref h1, .ref h2, .int h0f8, .int h0f9, .ref h3, .ref h4, .ref h5, .ref h6, .ref h7, .ref h8, .ref h9, .int h0f17, .int h0f18, .int h0f19, .ref h10, .ref h11, .ref h12, .ref h13, .int h0f24, .int h0f25, .ref h14, .ref h15, .ref h16, .ref h17, .int h0f30, .int h0f31, .ref h18, .ref h19, .ref h20, .ref h21]), (h4, aJ (k 1) 9 (zJ [])), (h5, aJ (k 1) 9 (zJ [1, 2, 3])), (h7, aJ (k 1) 4 anJ)] _ := hT
              refine lv_aload_n hx hb dX11_takesOut_140 rfl (lv_at hl 3 rfl) ?_
              refine tz_get (ci := 8) (v := .ref h4) (C := RX11) (F := TX11) (N := 36) hx hb hU iX11 hown hK hT 0 rfl rfl 11 (by decide) w796 (fun _ h9 => h9) rfl dX11_takesOut_141 ?_
              refine lv_iload hx hb dX11_takesOut_144 (lv_at hl 1 rfl) ?_
              refine lv_lconst (v := 0) hx hb dX11_takesOut_146 (by decide) ?_
              refine tz_lastP hx hb hK hT hS 1 (zJ [2]) rfl (by have := li_2; omega) (z_put0 (z := 2) li_2 (by decide)) dX11_takesOut_147 (fun H locs hT hS => ?_)
              have hT : TP D A [(h0, ob 8 [.int h0f0, .int h0f1, .int h0f2, .int h0f3, .int h0f4, .int h0f5, .ref h1, .ref h2, .int h0f8, .int h0f9, .ref h3, .ref h4, .ref h5, .ref h6, .ref h7, .ref h8, .ref h9, .int h0f17, .int h0f18, .int h0f19, .ref h10, .ref h11, .ref h12, .ref h13, .int h0f24, .int h0f25, .ref h14, .ref h15, .ref h16, .ref h17, .int h0f30, .int h0f31, .ref h18, .ref h19, .ref h20, .ref h21]), (h4, aJ (k 1) 9 (zJ [2])), (h5, aJ (k 1) 9 (zJ [1, 2, 3])), (h7, aJ (k 1) 4 anJ)] _ := hT
              refine lv_iinc (v := 1) (lv' := [(5, .int 1), (6, .long v152), (4, .int 2), (0, .ref h0), (1, .int x1), (2, .int x2), (3, .int x3)]) hx hb dX11_takesOut_148 hl (k := 1) rfl (by decide) (by decide) rfl (fun ls hl => ?_)
              refine lv_goto (tgt := 75) hx hb dX11_takesOut_151 (by decide) ?_
              refine lv_iload hx hb dX11_takesOut_75 (lv_at hl 0 rfl) ?_
              refine lv_iload_n hx hb dX11_takesOut_77 rfl (lv_at hl 4 rfl) ?_
              refine lv_icmp_lt (tgt := 154) hx hb dX11_takesOut_78 (by decide) (fun c_164 => ?_) (fun c_164 => ?_)
              · skip
                have c_164 := ni_lt c_164 li_1 hq1
                refine lv_aload_n hx hb dX11_takesOut_154 rfl (lv_at hl 3 rfl) ?_
                refine tz_get (ci := 8) (v := .ref h4) (C := RX11) (F := TX11) (N := 36) hx hb hU iX11 hown hK hT 0 rfl rfl 11 (by decide) w796 (fun _ h9 => h9) rfl dX11_takesOut_155 ?_
                refine lv_iconst (v := 0) hx hb dX11_takesOut_158 (by decide) ?_
                refine tz_lald hx hb hK hT 1 rfl (by have := li_0; omega) dX11_takesOut_159 (fun v165 e_v165 => ?_)
                clear e_v165
                refine lv_lconst (v := 0) hx hb dX11_takesOut_160 (by decide) ?_
                refine W.lcmp hx hb dX11_takesOut_161 ?_
                refine lv_if_ne (tgt := 176) hx hb dX11_takesOut_162 (by decide) (fun c_166 => ?_) (fun c_166 => ?_)
                · skip
                  have c_166 := nl_ne c_166 rfl ll_0
                  refine lv_iconst (v := 0) hx hb dX11_takesOut_176 (by decide) ?_
                  have hT := hT.wk (q := 1) rfl (an_J (c := k 1) (n := 9))
                  have hT : TP D A [(h0, ob 8 [.int h0f0, .int h0f1, .int h0f2, .int h0f3, .int h0f4, .int h0f5, .ref h1, .ref h2, .int h0f8, .int h0f9, .ref h3, .ref h4, .ref h5, .ref h6, .ref h7, .ref h8, .ref h9, .int h0f17, .int h0f18, .int h0f19, .ref h10, .ref h11, .ref h12, .ref h13, .int h0f24, .int h0f25, .ref h14, .ref h15, .ref h16, .ref h17, .int h0f30, .int h0f31, .ref h18, .ref h19, .ref h20, .ref h21]), (h4, aJ (k 1) 9 anJ), (h5, aJ (k 1) 9 (zJ [1, 2, 3])), (h7, aJ (k 1) 4 anJ)] _ := hT
                  have hT := hT.wk (q := 2) rfl (an_J (c := k 1) (n := 9))
                  have hT : TP D A [(h0, ob 8 [.int h0f0, .int h0f1, .int h0f2, .int h0f3, .int h0f4, .int h0f5, .ref h1, .ref h2, .int h0f8, .int h0f9, .ref h3, .ref h4, .ref h5, .ref h6, .ref h7, .ref h8, .ref h9, .int h0f17, .int h0f18, .int h0f19, .ref h10, .ref h11, .ref h12, .ref h13, .int h0f24, .int h0f25, .ref h14, .ref h15, .ref h16, .ref h17, .int h0f30, .int h0f31, .ref h18, .ref h19, .ref h20, .ref h21]), (h4, aJ (k 1) 9 anJ), (h5, aJ (k 1) 9 anJ), (h7, aJ (k 1) 4 anJ)] _ := hT
                  exact tz_retZ (B := B_cX11_takesOut_ae7df D k h0 h4 h5 h7 h1 h2 h3 h6 h8 h9 h10 h11 h12 h13 h14 h15 h16 h17 h18 h19 h20 h21 x1 x2 x3 h0f0 h0f1 h0f2 h0f3 h0f4 h0f5 h0f8 h0f9 h0f17 h0f18 h0f19 h0f24 h0f25 h0f30 h0f31) (v := 0) hQ hx hb hr hlocks hS (Nat.le_of_ble_eq_true rfl) (Nat.le_of_ble_eq_true rfl) dX11_takesOut_177 (by have := li_0; omega) (Or.inl ⟨rfl, hT⟩)
                · skip
                  have c_166 := nl_eq c_166 rfl ll_0
                  refine lv_aload_n hx hb dX11_takesOut_165 rfl (lv_at hl 3 rfl) ?_
                  refine tz_get (ci := 8) (v := .ref h4) (C := RX11) (F := TX11) (N := 36) hx hb hU iX11 hown hK hT 0 rfl rfl 11 (by decide) w796 (fun _ h9 => h9) rfl dX11_takesOut_166 ?_
                  refine lv_iconst (v := 1) hx hb dX11_takesOut_169 (by decide) ?_
                  refine tz_lald hx hb hK hT 1 rfl (by have := li_1; omega) dX11_takesOut_170 (fun v167 e_v167 => ?_)
                  clear e_v167
                  refine lv_lconst (v := 0) hx hb dX11_takesOut_171 (by decide) ?_
                  refine W.lcmp hx hb dX11_takesOut_172 ?_
                  refine lv_if_eq (tgt := 178) hx hb dX11_takesOut_173 (by decide) (fun c_168 => ?_) (fun c_168 => ?_)
                  · skip
                    have c_168 := nl_eq c_168 rfl ll_0
                    refine lv_iconst (v := 0) hx hb dX11_takesOut_178 (by decide) ?_
                    refine lv_istore (lv' := [(5, .int 0), (6, .long v152), (4, .int 2), (0, .ref h0), (1, .int x1), (2, .int x2), (3, .int x3)]) hx hb dX11_takesOut_179 hl (by decide) rfl (fun ls hl => ?_)
                    refine lv_iload hx hb dX11_takesOut_181 (lv_at hl 0 rfl) ?_
                    refine lv_iconst (v := 4) hx hb dX11_takesOut_183 (by decide) ?_
                    refine lv_icmp_ge (tgt := 207) hx hb dX11_takesOut_184 (by decide) (fun cc => absurd cc (by decide +kernel)) (fun _ => ?_)
                    refine lv_aload_n hx hb dX11_takesOut_187 rfl (lv_at hl 3 rfl) ?_
                    refine tz_get (ci := 8) (v := .ref h7) (C := RX11) (F := TX11) (N := 36) hx hb hU iX11 hown hK hT 0 rfl rfl 14 (by decide) w799 (fun _ h9 => h9) rfl dX11_takesOut_188 ?_
                    refine lv_iload hx hb dX11_takesOut_191 (lv_at hl 0 rfl) ?_
                    refine lv_aload_n hx hb dX11_takesOut_193 rfl (lv_at hl 3 rfl) ?_
                    refine tz_get (ci := 8) (v := .ref h5) (C := RX11) (F := TX11) (N := 36) hx hb hU iX11 hown hK hT 0 rfl rfl 12 (by decide) w797 (fun _ h9 => h9) rfl dX11_takesOut_194 ?_
                    refine lv_iload hx hb dX11_takesOut_197 (lv_at hl 0 rfl) ?_
                    refine tz_lald hx hb hK hT 2 rfl (by have := li_0; omega) dX11_takesOut_199 (fun v169 e_v169 => ?_)
                    clear e_v169
                    have hT := hT.wk (q := 3) rfl (z_of (c := k 1) (n := 4))
                    have hT : TP D A [(h0, ob 8 [.int h0f0, .int h0f1, .int h0f2, .int h0f3, .int h0f4, .int h0f5, .ref h1, .ref h2, .int h0f8, .int h0f9, .ref h3, .ref h4, .ref h5, .ref h6, .ref h7, .ref h8, .ref h9, .int h0f17, .int h0f18, .int h0f19, .ref h10, .ref h11, .ref h12, .ref h13, .int h0f24, .int h0f25, .ref h14, .ref h15, .ref h16, .ref h17, .int h0f30, .int h0f31, .ref h18, .ref h19, .ref h20, .ref h21]), (h4, aJ (k 1) 9 (zJ [2])), (h5, aJ (k 1) 9 (zJ [1, 2, 3])), (h7, aJ (k 1) 4 (zJ []))] _ := hT
                    refine tz_lastP hx hb hK hT hS 3 (zJ []) rfl (by have := li_0; omega) (z_putx (z := 0) li_0 (by decide)) dX11_takesOut_200 (fun H locs hT hS => ?_)
                    have hT : TP D A [(h0, ob 8 [.int h0f0, .int h0f1, .int h0f2, .int h0f3, .int h0f4, .int h0f5, .ref h1, .ref h2, .int h0f8, .int h0f9, .ref h3, .ref h4, .ref h5, .ref h6, .ref h7, .ref h8, .ref h9, .int h0f17, .int h0f18, .int h0f19, .ref h10, .ref h11, .ref h12, .ref h13, .int h0f24, .int h0f25, .ref h14, .ref h15, .ref h16, .ref h17, .int h0f30, .int h0f31, .ref h18, .ref h19, .ref h20, .ref h21]), (h4, aJ (k 1) 9 (zJ [2])), (h5, aJ (k 1) 9 (zJ [1, 2, 3])), (h7, aJ (k 1) 4 (zJ []))] _ := hT
                    refine lv_iinc (v := 1) (lv' := [(5, .int 1), (6, .long v152), (4, .int 2), (0, .ref h0), (1, .int x1), (2, .int x2), (3, .int x3)]) hx hb dX11_takesOut_201 hl (k := 0) rfl (by decide) (by decide) rfl (fun ls hl => ?_)
                    refine lv_goto (tgt := 181) hx hb dX11_takesOut_204 (by decide) ?_
                    refine lv_iload hx hb dX11_takesOut_181 (lv_at hl 0 rfl) ?_
                    refine lv_iconst (v := 4) hx hb dX11_takesOut_183 (by decide) ?_
                    refine lv_icmp_ge (tgt := 207) hx hb dX11_takesOut_184 (by decide) (fun cc => absurd cc (by decide +kernel)) (fun _ => ?_)
                    refine lv_aload_n hx hb dX11_takesOut_187 rfl (lv_at hl 3 rfl) ?_
                    refine tz_get (ci := 8) (v := .ref h7) (C := RX11) (F := TX11) (N := 36) hx hb hU iX11 hown hK hT 0 rfl rfl 14 (by decide) w799 (fun _ h9 => h9) rfl dX11_takesOut_188 ?_
                    refine lv_iload hx hb dX11_takesOut_191 (lv_at hl 0 rfl) ?_
                    refine lv_aload_n hx hb dX11_takesOut_193 rfl (lv_at hl 3 rfl) ?_
                    refine tz_get (ci := 8) (v := .ref h5) (C := RX11) (F := TX11) (N := 36) hx hb hU iX11 hown hK hT 0 rfl rfl 12 (by decide) w797 (fun _ h9 => h9) rfl dX11_takesOut_194 ?_
                    refine lv_iload hx hb dX11_takesOut_197 (lv_at hl 0 rfl) ?_
                    refine tz_lald hx hb hK hT 2 rfl (by have := li_1; omega) dX11_takesOut_199 (fun v170 e_v170 => ?_)
                    have e_v170 := z_get (z := 1) e_v170 li_1 (by decide)
                    subst e_v170
                    refine tz_lastP hx hb hK hT hS 3 (zJ [1]) rfl (by have := li_1; omega) (z_put0 (z := 1) li_1 (by decide)) dX11_takesOut_200 (fun H locs hT hS => ?_)
                    have hT : TP D A [(h0, ob 8 [.int h0f0, .int h0f1, .int h0f2, .int h0f3, .int h0f4, .int h0f5, .ref h1, .ref h2, .int h0f8, .int h0f9, .ref h3, .ref h4, .ref h5, .ref h6, .ref h7, .ref h8, .ref h9, .int h0f17, .int h0f18, .int h0f19, .ref h10, .ref h11, .ref h12, .ref h13, .int h0f24, .int h0f25, .ref h14, .ref h15, .ref h16, .ref h17, .int h0f30, .int h0f31, .ref h18, .ref h19, .ref h20, .ref h21]), (h4, aJ (k 1) 9 (zJ [2])), (h5, aJ (k 1) 9 (zJ [1, 2, 3])), (h7, aJ (k 1) 4 (zJ [1]))] _ := hT
                    refine lv_iinc (v := 2) (lv' := [(5, .int 2), (6, .long v152), (4, .int 2), (0, .ref h0), (1, .int x1), (2, .int x2), (3, .int x3)]) hx hb dX11_takesOut_201 hl (k := 0) rfl (by decide) (by decide) rfl (fun ls hl => ?_)
                    refine lv_goto (tgt := 181) hx hb dX11_takesOut_204 (by decide) ?_
                    refine lv_iload hx hb dX11_takesOut_181 (lv_at hl 0 rfl) ?_
                    refine lv_iconst (v := 4) hx hb dX11_takesOut_183 (by decide) ?_
                    refine lv_icmp_ge (tgt := 207) hx hb dX11_takesOut_184 (by decide) (fun cc => absurd cc (by decide +kernel)) (fun _ => ?_)
                    refine lv_aload_n hx hb dX11_takesOut_187 rfl (lv_at hl 3 rfl) ?_
                    refine tz_get (ci := 8) (v := .ref h7) (C := RX11) (F := TX11) (N := 36) hx hb hU iX11 hown hK hT 0 rfl rfl 14 (by decide) w799 (fun _ h9 => h9) rfl dX11_takesOut_188 ?_
                    refine lv_iload hx hb dX11_takesOut_191 (lv_at hl 0 rfl) ?_
                    refine lv_aload_n hx hb dX11_takesOut_193 rfl (lv_at hl 3 rfl) ?_
                    refine tz_get (ci := 8) (v := .ref h5) (C := RX11) (F := TX11) (N := 36) hx hb hU iX11 hown hK hT 0 rfl rfl 12 (by decide) w797 (fun _ h9 => h9) rfl dX11_takesOut_194 ?_
                    refine lv_iload hx hb dX11_takesOut_197 (lv_at hl 0 rfl) ?_
                    refine tz_lald hx hb hK hT 2 rfl (by have := li_2; omega) dX11_takesOut_199 (fun v171 e_v171 => ?_)
                    have e_v171 := z_get (z := 2) e_v171 li_2 (by decide)
                    subst e_v171
                    refine tz_lastP hx hb hK hT hS 3 (zJ [1, 2]) rfl (by have := li_2; omega) (z_put0 (z := 2) li_2 (by decide)) dX11_takesOut_200 (fun H locs hT hS => ?_)
                    have hT : TP D A [(h0, ob 8 [.int h0f0, .int h0f1, .int h0f2, .int h0f3, .int h0f4, .int h0f5, .ref h1, .ref h2, .int h0f8, .int h0f9, .ref h3, .ref h4, .ref h5, .ref h6, .ref h7, .ref h8, .ref h9, .int h0f17, .int h0f18, .int h0f19, .ref h10, .ref h11, .ref h12, .ref h13, .int h0f24, .int h0f25, .ref h14, .ref h15, .ref h16, .ref h17, .int h0f30, .int h0f31, .ref h18, .ref h19, .ref h20, .ref h21]), (h4, aJ (k 1) 9 (zJ [2])), (h5, aJ (k 1) 9 (zJ [1, 2, 3])), (h7, aJ (k 1) 4 (zJ [1, 2]))] _ := hT
                    refine lv_iinc (v := 3) (lv' := [(5, .int 3), (6, .long v152), (4, .int 2), (0, .ref h0), (1, .int x1), (2, .int x2), (3, .int x3)]) hx hb dX11_takesOut_201 hl (k := 0) rfl (by decide) (by decide) rfl (fun ls hl => ?_)
                    refine lv_goto (tgt := 181) hx hb dX11_takesOut_204 (by decide) ?_
                    refine lv_iload hx hb dX11_takesOut_181 (lv_at hl 0 rfl) ?_
                    refine lv_iconst (v := 4) hx hb dX11_takesOut_183 (by decide) ?_
                    refine lv_icmp_ge (tgt := 207) hx hb dX11_takesOut_184 (by decide) (fun cc => absurd cc (by decide +kernel)) (fun _ => ?_)
                    refine lv_aload_n hx hb dX11_takesOut_187 rfl (lv_at hl 3 rfl) ?_
                    refine tz_get (ci := 8) (v := .ref h7) (C := RX11) (F := TX11) (N := 36) hx hb hU iX11 hown hK hT 0 rfl rfl 14 (by decide) w799 (fun _ h9 => h9) rfl dX11_takesOut_188 ?_
                    refine lv_iload hx hb dX11_takesOut_191 (lv_at hl 0 rfl) ?_
                    refine lv_aload_n hx hb dX11_takesOut_193 rfl (lv_at hl 3 rfl) ?_
                    refine tz_get (ci := 8) (v := .ref h5) (C := RX11) (F := TX11) (N := 36) hx hb hU iX11 hown hK hT 0 rfl rfl 12 (by decide) w797 (fun _ h9 => h9) rfl dX11_takesOut_194 ?_
                    refine lv_iload hx hb dX11_takesOut_197 (lv_at hl 0 rfl) ?_
                    refine tz_lald hx hb hK hT 2 rfl (by have := li_3; omega) dX11_takesOut_199 (fun v172 e_v172 => ?_)
                    have e_v172 := z_get (z := 3) e_v172 li_3 (by decide)
                    subst e_v172
                    refine tz_lastP hx hb hK hT hS 3 (zJ [1, 2, 3]) rfl (by have := li_3; omega) (z_put0 (z := 3) li_3 (by decide)) dX11_takesOut_200 (fun H locs hT hS => ?_)
                    have hT : TP D A [(h0, ob 8 [.int h0f0, .int h0f1, .int h0f2, .int h0f3, .int h0f4, .int h0f5, .ref h1, .ref h2, .int h0f8, .int h0f9, .ref h3, .ref h4, .ref h5, .ref h6, .ref h7, .ref h8, .ref h9, .int h0f17, .int h0f18, .int h0f19, .ref h10, .ref h11, .ref h12, .ref h13, .int h0f24, .int h0f25, .ref h14, .ref h15, .ref h16, .ref h17, .int h0f30, .int h0f31, .ref h18, .ref h19, .ref h20, .ref h21]), (h4, aJ (k 1) 9 (zJ [2])), (h5, aJ (k 1) 9 (zJ [1, 2, 3])), (h7, aJ (k 1) 4 (zJ [1, 2, 3]))] _ := hT
                    refine lv_iinc (v := 4) (lv' := [(5, .int 4), (6, .long v152), (4, .int 2), (0, .ref h0), (1, .int x1), (2, .int x2), (3, .int x3)]) hx hb dX11_takesOut_201 hl (k := 0) rfl (by decide) (by decide) rfl (fun ls hl => ?_)
                    refine lv_goto (tgt := 181) hx hb dX11_takesOut_204 (by decide) ?_
                    refine lv_iload hx hb dX11_takesOut_181 (lv_at hl 0 rfl) ?_
                    refine lv_iconst (v := 4) hx hb dX11_takesOut_183 (by decide) ?_
                    refine lv_icmp_ge (tgt := 207) hx hb dX11_takesOut_184 (by decide) (fun _ => ?_) (fun cc => absurd (by decide +kernel) cc)
                    refine lv_iconst (v := 1) hx hb dX11_takesOut_207 (by decide) ?_
                    have hT := hT.wk (q := 1) rfl (an_J (c := k 1) (n := 9))
                    have hT : TP D A [(h0, ob 8 [.int h0f0, .int h0f1, .int h0f2, .int h0f3, .int h0f4, .int h0f5, .ref h1, .ref h2, .int h0f8, .int h0f9, .ref h3, .ref h4, .ref h5, .ref h6, .ref h7, .ref h8, .ref h9, .int h0f17, .int h0f18, .int h0f19, .ref h10, .ref h11, .ref h12, .ref h13, .int h0f24, .int h0f25, .ref h14, .ref h15, .ref h16, .ref h17, .int h0f30, .int h0f31, .ref h18, .ref h19, .ref h20, .ref h21]), (h4, aJ (k 1) 9 anJ), (h5, aJ (k 1) 9 (zJ [1, 2, 3])), (h7, aJ (k 1) 4 (zJ [1, 2, 3]))] _ := hT
                    have hT := hT.wk (q := 2) rfl (an_J (c := k 1) (n := 9))
                    have hT : TP D A [(h0, ob 8 [.int h0f0, .int h0f1, .int h0f2, .int h0f3, .int h0f4, .int h0f5, .ref h1, .ref h2, .int h0f8, .int h0f9, .ref h3, .ref h4, .ref h5, .ref h6, .ref h7, .ref h8, .ref h9, .int h0f17, .int h0f18, .int h0f19, .ref h10, .ref h11, .ref h12, .ref h13, .int h0f24, .int h0f25, .ref h14, .ref h15, .ref h16, .ref h17, .int h0f30, .int h0f31, .ref h18, .ref h19, .ref h20, .ref h21]), (h4, aJ (k 1) 9 anJ), (h5, aJ (k 1) 9 anJ), (h7, aJ (k 1) 4 (zJ [1, 2, 3]))] _ := hT
                    have hT := hT.wk (q := 3) rfl (z_sub (c := k 1) (n := 4) (l := [1, 2, 3]) (m := [3]) (by decide))
                    have hT : TP D A [(h0, ob 8 [.int h0f0, .int h0f1, .int h0f2, .int h0f3, .int h0f4, .int h0f5, .ref h1, .ref h2, .int h0f8, .int h0f9, .ref h3, .ref h4, .ref h5, .ref h6, .ref h7, .ref h8, .ref h9, .int h0f17, .int h0f18, .int h0f19, .ref h10, .ref h11, .ref h12, .ref h13, .int h0f24, .int h0f25, .ref h14, .ref h15, .ref h16, .ref h17, .int h0f30, .int h0f31, .ref h18, .ref h19, .ref h20, .ref h21]), (h4, aJ (k 1) 9 anJ), (h5, aJ (k 1) 9 anJ), (h7, aJ (k 1) 4 (zJ [3]))] _ := hT
                    exact tz_retZ (B := B_cX11_takesOut_ae7df D k h0 h4 h5 h7 h1 h2 h3 h6 h8 h9 h10 h11 h12 h13 h14 h15 h16 h17 h18 h19 h20 h21 x1 x2 x3 h0f0 h0f1 h0f2 h0f3 h0f4 h0f5 h0f8 h0f9 h0f17 h0f18 h0f19 h0f24 h0f25 h0f30 h0f31) (v := 1) hQ hx hb hr hlocks hS (Nat.le_of_ble_eq_true rfl) (Nat.le_of_ble_eq_true rfl) dX11_takesOut_208 (by have := li_1; omega) (Or.inr (Or.inr (Or.inr (Or.inr (Or.inr (⟨v102, v144, v165, v167, (by have := li_1; omega), (by have := li_1; omega), (by have := li_1; omega), (by have := li_1; omega), (by have := li_1; omega), (by have := li_1; omega), (by have := li_1; omega), (by have := li_1; omega), (by have := li_1; omega), (by have := li_1; omega), (by have := li_1; omega), (by have := li_1; omega), rfl, hT⟩))))))
                  · skip
                    have c_168 := nl_ne c_168 rfl ll_0
                    refine lv_iconst (v := 0) hx hb dX11_takesOut_176 (by decide) ?_
                    have hT := hT.wk (q := 1) rfl (an_J (c := k 1) (n := 9))
                    have hT : TP D A [(h0, ob 8 [.int h0f0, .int h0f1, .int h0f2, .int h0f3, .int h0f4, .int h0f5, .ref h1, .ref h2, .int h0f8, .int h0f9, .ref h3, .ref h4, .ref h5, .ref h6, .ref h7, .ref h8, .ref h9, .int h0f17, .int h0f18, .int h0f19, .ref h10, .ref h11, .ref h12, .ref h13, .int h0f24, .int h0f25, .ref h14, .ref h15, .ref h16, .ref h17, .int h0f30, .int h0f31, .ref h18, .ref h19, .ref h20, .ref h21]), (h4, aJ (k 1) 9 anJ), (h5, aJ (k 1) 9 (zJ [1, 2, 3])), (h7, aJ (k 1) 4 anJ)] _ := hT
                    have hT := hT.wk (q := 2) rfl (an_J (c := k 1) (n := 9))
                    have hT : TP D A [(h0, ob 8 [.int h0f0, .int h0f1, .int h0f2, .int h0f3, .int h0f4, .int h0f5, .ref h1, .ref h2, .int h0f8, .int h0f9, .ref h3, .ref h4, .ref h5, .ref h6, .ref h7, .ref h8, .ref h9, .int h0f17, .int h0f18, .int h0f19, .ref h10, .ref h11, .ref h12, .ref h13, .int h0f24, .int h0f25, .ref h14, .ref h15, .ref h16, .ref h17, .int h0f30, .int h0f31, .ref h18, .ref h19, .ref h20, .ref h21]), (h4, aJ (k 1) 9 anJ), (h5, aJ (k 1) 9 anJ), (h7, aJ (k 1) 4 anJ)] _ := hT
                    exact tz_retZ (B := B_cX11_takesOut_ae7df D k h0 h4 h5 h7 h1 h2 h3 h6 h8 h9 h10 h11 h12 h13 h14 h15 h16 h17 h18 h19 h20 h21 x1 x2 x3 h0f0 h0f1 h0f2 h0f3 h0f4 h0f5 h0f8 h0f9 h0f17 h0f18 h0f19 h0f24 h0f25 h0f30 h0f31) (v := 0) hQ hx hb hr hlocks hS (Nat.le_of_ble_eq_true rfl) (Nat.le_of_ble_eq_true rfl) dX11_takesOut_177 (by have := li_0; omega) (Or.inl ⟨rfl, hT⟩)
              · skip
                have c_164 := ni_nlt c_164 li_1 hq1
                exfalso; omega
        · skip
          have c_146 := ni_nle c_146 hq1 li_2
          exfalso; omega
      · skip
        have c_145 := nl_eq c_145 rfl ll_0
        refine lv_iinc (v := 1) (lv' := [(4, .int 1), (0, .ref h0), (1, .int x1), (2, .int x2), (3, .int x3)]) hx hb dX11_takesOut_20 hl (k := 0) rfl (by decide) (by decide) rfl (fun ls hl => ?_)
        refine lv_goto (tgt := 3) hx hb dX11_takesOut_23 (by decide) ?_
        refine lv_iload hx hb dX11_takesOut_3 (lv_at hl 0 rfl) ?_
        refine lv_if_le (tgt := 26) hx hb dX11_takesOut_5 (by decide) (fun cc => absurd cc (by decide +kernel)) (fun _ => ?_)
        refine lv_aload_n hx hb dX11_takesOut_8 rfl (lv_at hl 1 rfl) ?_
        refine tz_get (ci := 8) (v := .ref h7) (C := RX11) (F := TX11) (N := 36) hx hb hU iX11 hown hK hT 0 rfl rfl 14 (by decide) w799 (fun _ h9 => h9) rfl dX11_takesOut_9 ?_
        refine lv_iload hx hb dX11_takesOut_12 (lv_at hl 0 rfl) ?_
        refine tz_lald hx hb hK hT 3 rfl (by have := li_1; omega) dX11_takesOut_14 (fun v173 e_v173 => ?_)
        clear e_v173
        refine lv_lconst (v := 0) hx hb dX11_takesOut_15 (by decide) ?_
        refine W.lcmp hx hb dX11_takesOut_16 ?_
        refine lv_if_ne (tgt := 26) hx hb dX11_takesOut_17 (by decide) (fun c_174 => ?_) (fun c_174 => ?_)
        · skip
          have c_174 := nl_ne c_174 rfl ll_0
          refine lv_iload hx hb dX11_takesOut_26 (lv_at hl 0 rfl) ?_
          refine lv_iload_n hx hb dX11_takesOut_28 rfl (lv_at hl 2 rfl) ?_
          refine lv_icmp_ge (tgt := 34) hx hb dX11_takesOut_29 (by decide) (fun c_175 => ?_) (fun c_175 => ?_)
          · skip
            have c_175 := ni_le c_175 hq1 li_1
            exfalso; omega
          · skip
            have c_175 := ni_nle c_175 hq1 li_1
            refine lv_iconst (v := 0) hx hb dX11_takesOut_32 (by decide) ?_
            exact tz_retZ (B := B_cX11_takesOut_ae7df D k h0 h4 h5 h7 h1 h2 h3 h6 h8 h9 h10 h11 h12 h13 h14 h15 h16 h17 h18 h19 h20 h21 x1 x2 x3 h0f0 h0f1 h0f2 h0f3 h0f4 h0f5 h0f8 h0f9 h0f17 h0f18 h0f19 h0f24 h0f25 h0f30 h0f31) (v := 0) hQ hx hb hr hlocks hS (Nat.le_of_ble_eq_true rfl) (Nat.le_of_ble_eq_true rfl) dX11_takesOut_33 (by have := li_0; omega) (Or.inl ⟨rfl, hT⟩)
        · skip
          have c_174 := nl_eq c_174 rfl ll_0
          refine lv_iinc (v := 0) (lv' := [(4, .int 0), (0, .ref h0), (1, .int x1), (2, .int x2), (3, .int x3)]) hx hb dX11_takesOut_20 hl (k := 0) rfl (by decide) (by decide) rfl (fun ls hl => ?_)
          refine lv_goto (tgt := 3) hx hb dX11_takesOut_23 (by decide) ?_
          refine lv_iload hx hb dX11_takesOut_3 (lv_at hl 0 rfl) ?_
          refine lv_if_le (tgt := 26) hx hb dX11_takesOut_5 (by decide) (fun _ => ?_) (fun cc => absurd (by decide +kernel) cc)
          refine lv_iload hx hb dX11_takesOut_26 (lv_at hl 0 rfl) ?_
          refine lv_iload_n hx hb dX11_takesOut_28 rfl (lv_at hl 2 rfl) ?_
          refine lv_icmp_ge (tgt := 34) hx hb dX11_takesOut_29 (by decide) (fun c_176 => ?_) (fun c_176 => ?_)
          · skip
            have c_176 := ni_le c_176 hq1 li_0
            exfalso; omega
          · skip
            have c_176 := ni_nle c_176 hq1 li_0
            refine lv_iconst (v := 0) hx hb dX11_takesOut_32 (by decide) ?_
            exact tz_retZ (B := B_cX11_takesOut_ae7df D k h0 h4 h5 h7 h1 h2 h3 h6 h8 h9 h10 h11 h12 h13 h14 h15 h16 h17 h18 h19 h20 h21 x1 x2 x3 h0f0 h0f1 h0f2 h0f3 h0f4 h0f5 h0f8 h0f9 h0f17 h0f18 h0f19 h0f24 h0f25 h0f30 h0f31) (v := 0) hQ hx hb hr hlocks hS (Nat.le_of_ble_eq_true rfl) (Nat.le_of_ble_eq_true rfl) dX11_takesOut_33 (by have := li_0; omega) (Or.inl ⟨rfl, hT⟩)
