abbrev Rm_cX10_orderOf_e8a0b : Room := { frames := 2, cells := 0, slots := 0, locals := 56 }
abbrev B_cX10_orderOf_e8a0b (D : va_G) (k : Nat → ClassId) (h0 h1 h2 h13 h14 h3 h4 h5 h6 h7 h8 h9 h10 h11 h12 : Nat) (x2 : Int32) (h0f2 : Int32) (h0f6 : Int32) (h0f8 : Int32) (h0f11 : Int32) (h2f0 : Int32) (h2f1 : Int32) (h2f2 : Int32) (A : Nat → Prop) (r : Int32) (H : Heap) : Prop := ((-3) ≤ r.toInt ∧ r.toInt ≤ 12) ∧ TP D A [(h0, ob 7 [.ref h2, .ref h3, .int h0f2, .ref h4, .ref h5, .ref h6, .int h0f6, .ref h7, .int h0f8, .ref h8, .ref h9, .int h0f11, .ref h10, .ref h11, .ref h12, .ref h13, .ref h14]), (h1, aJ (k 1) 36 anJ), (h2, ob 4 [.int h2f0, .int h2f1, .int h2f2, .ref h1]), (h13, aJ (k 1) 9 anJ), (h14, aJ (k 1) 9 anJ)] H
set_option maxHeartbeats 4000000 in
set_option maxRecDepth 100000 in
theorem cX10_orderOf_e8a0b (l : Launch) (D : va_G) (k : Nat → ClassId) (sz : Nat) (h0 h1 h2 h13 h14 h3 h4 h5 h6 h7 h8 h9 h10 h11 h12 : Nat) (x2 : Int32) (h0f2 : Int32) (h0f6 : Int32) (h0f8 : Int32) (h0f11 : Int32) (h2f0 : Int32) (h2f1 : Int32) (h2f2 : Int32) (b_x2 : 0 ≤ x2.toInt ∧ x2.toInt ≤ 27) (b_h0f2 : 0 ≤ h0f2.toInt ∧ h0f2.toInt ≤ 1) (b_h0f6 : 0 ≤ h0f6.toInt ∧ h0f6.toInt ≤ 1) (b_h0f8 : 0 ≤ h0f8.toInt ∧ h0f8.toInt ≤ 1) (b_h0f11 : 0 ≤ h0f11.toInt ∧ h0f11.toInt ≤ 200) (b_h2f0 : 1 ≤ h2f0.toInt ∧ h2f0.toInt ≤ 3) (b_h2f1 : 1 ≤ h2f1.toInt ∧ h2f1.toInt ≤ 4) : Met l yX10_orderOf (Cond.code yX10_orderOf cX10_orderOf 5 (some .int) :: uw) Rm_cX10_orderOf_e8a0b (pT D k sz [.ref h0, .ref h1, .int x2] [(h0, ob 7 [.ref h2, .ref h3, .int h0f2, .ref h4, .ref h5, .ref h6, .int h0f6, .ref h7, .int h0f8, .ref h8, .ref h9, .int h0f11, .ref h10, .ref h11, .ref h12, .ref h13, .ref h14]), (h1, aJ (k 1) 36 anJ), (h2, ob 4 [.int h2f0, .int h2f1, .int h2f2, .ref h1]), (h13, aJ (k 1) 9 anJ), (h14, aJ (k 1) 9 anJ)]) (qI (B_cX10_orderOf_e8a0b D k h0 h1 h2 h13 h14 h3 h4 h5 h6 h7 h8 h9 h10 h11 h12 x2 h0f2 h0f6 h0f8 h0f11 h2f0 h2f1 h2f2 (zA [h0, h1, h2, h13, h14] sz)) (zA [h0, h1, h2, h13, h14] sz)) 0 0 (zA [h0, h1, h2, h13, h14] sz) := by
  refine tz_begin (as := [h0, h1, h2, h13, h14]) (Qc := fun A => qI (B_cX10_orderOf_e8a0b D k h0 h1 h2 h13 h14 h3 h4 h5 h6 h7 h8 h9 h10 h11 h12 x2 h0f2 h0f6 h0f8 h0f11 h2f0 h2f1 h2f2 A) A) (by decide +kernel) rfl (Nat.le_of_ble_eq_true rfl) ?_
  intro p e s m args below meth c ls A Q hx hb hr hml hown hlocks hin hU hK hT hS hA hl hQ
  have hl : lv_has ls 5 [(0, .ref h0), (1, .ref h1), (2, .int x2)] := hl
  have hT : TP D A [(h0, ob 7 [.ref h2, .ref h3, .int h0f2, .ref h4, .ref h5, .ref h6, .int h0f6, .ref h7, .int h0f8, .ref h8, .ref h9, .int h0f11, .ref h10, .ref h11, .ref h12, .ref h13, .ref h14]), (h1, aJ (k 1) 36 anJ), (h2, ob 4 [.int h2f0, .int h2f1, .int h2f2, .ref h1]), (h13, aJ (k 1) 9 anJ), (h14, aJ (k 1) 9 anJ)] s.heap := hT
  refine lv_aload_n hx hb dX10_orderOf_0 rfl (lv_at hl 0 rfl) ?_
  refine tz_get (ci := 7) (v := .ref h2) (C := RX10) (F := TX10) (N := 17) hx hb hU iX10 hown hK hT 0 rfl rfl 0 (by decide) w249 (fun _ h9 => h9) rfl dX10_orderOf_1 ?_
  refine tcI (Tc := [(h2, ob 4 [.int h2f0, .int h2f1, .int h2f2, .ref h1])]) (Tr := [(h0, ob 7 [.ref h2, .ref h3, .int h0f2, .ref h4, .ref h5, .ref h6, .int h0f6, .ref h7, .int h0f8, .ref h8, .ref h9, .int h0f11, .ref h10, .ref h11, .ref h12, .ref h13, .ref h14]), (h1, aJ (k 1) 36 anJ), (h13, aJ (k 1) 9 anJ), (h14, aJ (k 1) 9 anJ)]) (as := [h2]) (zcV (q0 := 2) (ci := 4) (As := []) (rest := []) (Tc := [(h2, ob 4 [.int h2f0, .int h2f1, .int h2f2, .ref h1])]) hx hb hml hown hU hK hT rfl rfl [2] rfl (by decide) (cX5_cellCount_642c9 l D k _ h2 h1 h2f0 h2f1 h2f2 (by omega) (by omega)) w385 w382 w383 w384 w64 hdX5_cellCount ⟨rfl, rfl⟩ ⟨Nat.le_of_ble_eq_true rfl, Nat.le_of_ble_eq_true rfl⟩ rfl hl.1 (Nat.le_of_ble_eq_true rfl) dX10_orderOf_4 ⟨Nat.le_of_ble_eq_true rfl, Nat.le_of_ble_eq_true rfl⟩) hT hS hA [2] [0, 1, 3, 4] rfl rfl rfl (by decide) (by decide) (fun r1 H locs hB J hS => ?_)
  obtain ⟨b_r1, hT1⟩ := hB
  have hT := J _ hT1
  have hT : TP D A [(h0, ob 7 [.ref h2, .ref h3, .int h0f2, .ref h4, .ref h5, .ref h6, .int h0f6, .ref h7, .int h0f8, .ref h8, .ref h9, .int h0f11, .ref h10, .ref h11, .ref h12, .ref h13, .ref h14]), (h1, aJ (k 1) 36 anJ), (h13, aJ (k 1) 9 anJ), (h14, aJ (k 1) 9 anJ), (h2, ob 4 [.int h2f0, .int h2f1, .int h2f2, .ref h1])] H := hT
  refine lv_istore_n (lv' := [(3, .int r1), (0, .ref h0), (1, .ref h1), (2, .int x2)]) hx hb dX10_orderOf_7 rfl hl (by decide) rfl (fun ls hl => ?_)
  refine lv_aload_n hx hb dX10_orderOf_8 rfl (lv_at hl 2 rfl) ?_
  refine lv_iload_n hx hb dX10_orderOf_9 rfl (lv_at hl 3 rfl) ?_
  refine lv_aload_n hx hb dX10_orderOf_10 rfl (lv_at hl 1 rfl) ?_
  refine tz_get (ci := 7) (v := .ref h13) (C := RX10) (F := TX10) (N := 17) hx hb hU iX10 hown hK hT 0 rfl rfl 15 (by decide) w264 (fun _ h9 => h9) rfl dX10_orderOf_11 ?_
  refine lv_iconst (v := 0) hx hb dX10_orderOf_14 (by decide) ?_
  refine lv_iload_n hx hb dX10_orderOf_15 rfl (lv_at hl 0 rfl) ?_
  refine tz_copyl hx hb (by rw [hml]; exact hl.1.symm) hown hU w410 w348 w347 w75 hK hT hS 1 2 rfl rfl (by have := li_0; omega) (fun _ _ _ _ => trivial) (Nat.le_of_ble_eq_true rfl) (Nat.le_of_ble_eq_true rfl) dX10_orderOf_16 (fun H locs hT hS => ?_)
  refine lv_iconst (v := 1) hx hb dX10_orderOf_19 (by decide) ?_
  refine lv_istore (lv' := [(4, .int 1), (3, .int r1), (0, .ref h0), (1, .ref h1), (2, .int x2)]) hx hb dX10_orderOf_20 hl (by decide) rfl (fun ls hl => ?_)
  have lp22_11 : ∀ (n : Nat) (y10 : Int32) (H : Heap) (locs : List Loc) (ls : Array Slot), (1 ≤ y10.toInt ∧ y10.toInt ≤ 13) → ((-1) * y10.toInt + 12 + 1).toNat < n → TP D A [(h0, ob 7 [.ref h2, .ref h3, .int h0f2, .ref h4, .ref h5, .ref h6, .int h0f6, .ref h7, .int h0f8, .ref h8, .ref h9, .int h0f11, .ref h10, .ref h11, .ref h12, .ref h13, .ref h14]), (h1, aJ (k 1) 36 anJ), (h13, aJ (k 1) 9 anJ), (h14, aJ (k 1) 9 anJ), (h2, ob 4 [.int h2f0, .int h2f1, .int h2f2, .ref h1])] H → va_S A s.heap H locs → lv_has ls 5 [(0, .ref h0), (1, .ref h1), (2, .int x2), (3, .int r1), (4, .int y10)] → W p l e Rm_cX10_orderOf_e8a0b s m args below meth c H locs 0 0 Q (F0 m 22 ls []) := by
    intro n
    induction n with
    | zero => intro y10 H locs ls b_y10 hm hT hS hl; exact absurd hm (Nat.not_lt_zero _)
    | succ n ih =>
      intro y10 H locs ls b_y10 hm hT hS hl
      have ih22_11 := ih
      clear ih
      refine lv_iload hx hb dX10_orderOf_22 (lv_at hl 4 rfl) ?_
      refine lv_bipush (v := 12) hx hb dX10_orderOf_24 (by decide) ?_
      refine lv_icmp_gt (tgt := 107) hx hb dX10_orderOf_26 (by decide) (fun c_12 => ?_) (fun c_12 => ?_)
      · skip
        have c_12 := ni_lt c_12 li_12 rfl
        refine lv_bipush (v := (-3)) hx hb dX10_orderOf_107 (by decide) ?_
        exact tz_retI (B := B_cX10_orderOf_e8a0b D k h0 h1 h2 h13 h14 h3 h4 h5 h6 h7 h8 h9 h10 h11 h12 x2 h0f2 h0f6 h0f8 h0f11 h2f0 h2f1 h2f2) (v := (-3)) hQ hx hb hr hlocks hS (Nat.le_of_ble_eq_true rfl) (Nat.le_of_ble_eq_true rfl) dX10_orderOf_109 (⟨(by have := li_m3; omega), (hT.sub [0, 1, 4, 2, 3] (by decide) rfl)⟩)
      · skip
        have c_12 := ni_nlt c_12 li_12 rfl
        refine lv_aload_n hx hb dX10_orderOf_29 rfl (lv_at hl 0 rfl) ?_
        refine tz_get (ci := 7) (v := .ref h13) (C := RX10) (F := TX10) (N := 17) hx hb hU iX10 hown hK hT 0 rfl rfl 15 (by decide) w264 (fun _ h9 => h9) rfl dX10_orderOf_30 ?_
        refine lv_aload_n hx hb dX10_orderOf_33 rfl (lv_at hl 0 rfl) ?_
        refine tz_get (ci := 7) (v := .ref h2) (C := RX10) (F := TX10) (N := 17) hx hb hU iX10 hown hK hT 0 rfl rfl 0 (by decide) w249 (fun _ h9 => h9) rfl dX10_orderOf_34 ?_
        refine tz_get (ci := 4) (v := .int h2f0) (C := RX5) (F := TX5) (N := 4) hx hb hU iX5 hown hK hT 4 rfl rfl 0 (by decide) w93 (fun _ h9 => h9) rfl dX10_orderOf_37 ?_
        refine tcI (Tc := [(h13, aJ (k 1) 9 anJ)]) (Tr := [(h0, ob 7 [.ref h2, .ref h3, .int h0f2, .ref h4, .ref h5, .ref h6, .int h0f6, .ref h7, .int h0f8, .ref h8, .ref h9, .int h0f11, .ref h10, .ref h11, .ref h12, .ref h13, .ref h14]), (h1, aJ (k 1) 36 anJ), (h14, aJ (k 1) 9 anJ), (h2, ob 4 [.int h2f0, .int h2f1, .int h2f2, .ref h1])]) (as := [h13]) (zcS (As := [.ref h13, .int h2f0]) (rest := []) (Tc := [(h13, aJ (k 1) 9 anJ)]) hx hb hml hown hU hK hT [2] rfl (by decide) (cX7_isOne_2ccf3 l D k _ h13 h2f0 (by omega)) w413 w411 w412 w74 hdX7_isOne ⟨rfl, rfl⟩ ⟨Nat.le_of_ble_eq_true rfl, Nat.le_of_ble_eq_true rfl⟩ rfl hl.1 (Nat.le_of_ble_eq_true rfl) dX10_orderOf_40 ⟨Nat.le_of_ble_eq_true rfl, Nat.le_of_ble_eq_true rfl⟩) hT hS hA [2] [0, 1, 3, 4] rfl rfl rfl (by decide) (by decide) (fun r13 H locs hB J hS => ?_)
        obtain ⟨b_r13, hT1⟩ := hB
        have hT := J _ hT1
        have hT : TP D A [(h0, ob 7 [.ref h2, .ref h3, .int h0f2, .ref h4, .ref h5, .ref h6, .int h0f6, .ref h7, .int h0f8, .ref h8, .ref h9, .int h0f11, .ref h10, .ref h11, .ref h12, .ref h13, .ref h14]), (h1, aJ (k 1) 36 anJ), (h14, aJ (k 1) 9 anJ), (h2, ob 4 [.int h2f0, .int h2f1, .int h2f2, .ref h1]), (h13, aJ (k 1) 9 anJ)] H := hT
        refine lv_if_eq (tgt := 49) hx hb dX10_orderOf_43 (by decide) (fun c_14 => ?_) (fun c_14 => ?_)
        · skip
          have c_14 := ni_eq c_14 rfl li_0
          refine lv_aload_n hx hb dX10_orderOf_49 rfl (lv_at hl 0 rfl) ?_
          refine tz_get (ci := 7) (v := .ref h13) (C := RX10) (F := TX10) (N := 17) hx hb hU iX10 hown hK hT 0 rfl rfl 15 (by decide) w264 (fun _ h9 => h9) rfl dX10_orderOf_50 ?_
          refine lv_iload_n hx hb dX10_orderOf_53 rfl (lv_at hl 3 rfl) ?_
          refine lv_ldc2 hx hb hown (hU _ w414) dX10_orderOf_54 ?_
          have q_q16 := ll_1000000000
          refine tcI (Tc := [(h13, aJ (k 1) 9 anJ)]) (Tr := [(h0, ob 7 [.ref h2, .ref h3, .int h0f2, .ref h4, .ref h5, .ref h6, .int h0f6, .ref h7, .int h0f8, .ref h8, .ref h9, .int h0f11, .ref h10, .ref h11, .ref h12, .ref h13, .ref h14]), (h1, aJ (k 1) 36 anJ), (h14, aJ (k 1) 9 anJ), (h2, ob 4 [.int h2f0, .int h2f1, .int h2f2, .ref h1])]) (as := [h13]) (zcS (As := [.ref h13, .int r1, .long 1000000000]) (rest := []) (Tc := [(h13, aJ (k 1) 9 anJ)]) hx hb hml hown hU hK hT [4] rfl (by decide) (cX7_isWithin_443ab l D k _ h13 r1 (1000000000) (by omega) (by have := ll_1000000000; omega)) w389 w387 w388 w74 hdX7_isWithin ⟨rfl, rfl⟩ ⟨Nat.le_of_ble_eq_true rfl, Nat.le_of_ble_eq_true rfl⟩ rfl hl.1 (Nat.le_of_ble_eq_true rfl) dX10_orderOf_57 ⟨Nat.le_of_ble_eq_true rfl, Nat.le_of_ble_eq_true rfl⟩) hT hS hA [4] [0, 1, 2, 3] rfl rfl rfl (by decide) (by decide) (fun r15 H locs hB J hS => ?_)
          obtain ⟨b_r15, hT1⟩ := hB
          have hT := J _ hT1
          have hT : TP D A [(h0, ob 7 [.ref h2, .ref h3, .int h0f2, .ref h4, .ref h5, .ref h6, .int h0f6, .ref h7, .int h0f8, .ref h8, .ref h9, .int h0f11, .ref h10, .ref h11, .ref h12, .ref h13, .ref h14]), (h1, aJ (k 1) 36 anJ), (h14, aJ (k 1) 9 anJ), (h2, ob 4 [.int h2f0, .int h2f1, .int h2f2, .ref h1]), (h13, aJ (k 1) 9 anJ)] H := hT
          refine lv_if_ne (tgt := 66) hx hb dX10_orderOf_60 (by decide) (fun c_17 => ?_) (fun c_17 => ?_)
          · skip
            have c_17 := ni_ne c_17 rfl li_0
            refine lv_aload_n hx hb dX10_orderOf_66 rfl (lv_at hl 0 rfl) ?_
            refine tz_get (ci := 7) (v := .ref h13) (C := RX10) (F := TX10) (N := 17) hx hb hU iX10 hown hK hT 0 rfl rfl 15 (by decide) w264 (fun _ h9 => h9) rfl dX10_orderOf_67 ?_
            refine lv_iconst (v := 0) hx hb dX10_orderOf_70 (by decide) ?_
            refine lv_aload_n hx hb dX10_orderOf_71 rfl (lv_at hl 1 rfl) ?_
            refine lv_iload_n hx hb dX10_orderOf_72 rfl (lv_at hl 2 rfl) ?_
            refine lv_aload_n hx hb dX10_orderOf_73 rfl (lv_at hl 0 rfl) ?_
            refine tz_get (ci := 7) (v := .ref h14) (C := RX10) (F := TX10) (N := 17) hx hb hU iX10 hown hK hT 0 rfl rfl 16 (by decide) w265 (fun _ h9 => h9) rfl dX10_orderOf_74 ?_
            refine lv_aload_n hx hb dX10_orderOf_77 rfl (lv_at hl 0 rfl) ?_
            refine tz_get (ci := 7) (v := .ref h2) (C := RX10) (F := TX10) (N := 17) hx hb hU iX10 hown hK hT 0 rfl rfl 0 (by decide) w249 (fun _ h9 => h9) rfl dX10_orderOf_78 ?_
            refine tz_get (ci := 4) (v := .int h2f0) (C := RX5) (F := TX5) (N := 4) hx hb hU iX5 hown hK hT 3 rfl rfl 0 (by decide) w93 (fun _ h9 => h9) rfl dX10_orderOf_81 ?_
            have q_q19 := li_0
            refine tcV (Tc := [(h13, aJ (k 1) 9 anJ), (h1, aJ (k 1) 36 anJ), (h14, aJ (k 1) 9 anJ)]) (Tr := [(h0, ob 7 [.ref h2, .ref h3, .int h0f2, .ref h4, .ref h5, .ref h6, .int h0f6, .ref h7, .int h0f8, .ref h8, .ref h9, .int h0f11, .ref h10, .ref h11, .ref h12, .ref h13, .ref h14]), (h2, ob 4 [.int h2f0, .int h2f1, .int h2f2, .ref h1])]) (as := [h13, h1, h14]) (zcS (As := [.ref h13, .int 0, .ref h1, .int x2, .ref h14, .int h2f0]) (rest := []) (Tc := [(h13, aJ (k 1) 9 anJ), (h1, aJ (k 1) 36 anJ), (h14, aJ (k 1) 9 anJ)]) hx hb hml hown hU hK hT [4, 1, 2] rfl (by decide) (cX7_multiply_a4f9f l D k _ h13 h1 h14 (0) x2 h2f0 (by have := li_0; omega) (by omega) (by omega)) w363 w361 w362 w74 hdX7_multiply ⟨rfl, rfl⟩ ⟨Nat.le_of_ble_eq_true rfl, Nat.le_of_ble_eq_true rfl⟩ rfl hl.1 (Nat.le_of_ble_eq_true rfl) dX10_orderOf_84 ⟨Nat.le_of_ble_eq_true rfl, Nat.le_of_ble_eq_true rfl⟩) hT hS hA [4, 1, 2] [0, 3] rfl rfl rfl (by decide) (by decide) (fun H locs hB J hS => ?_)
            have hT1 := hB
            have hT := J _ hT1
            have hT : TP D A [(h0, ob 7 [.ref h2, .ref h3, .int h0f2, .ref h4, .ref h5, .ref h6, .int h0f6, .ref h7, .int h0f8, .ref h8, .ref h9, .int h0f11, .ref h10, .ref h11, .ref h12, .ref h13, .ref h14]), (h2, ob 4 [.int h2f0, .int h2f1, .int h2f2, .ref h1]), (h13, aJ (k 1) 9 anJ), (h1, aJ (k 1) 36 anJ), (h14, aJ (k 1) 9 anJ)] H := hT
            refine lv_aload_n hx hb dX10_orderOf_87 rfl (lv_at hl 0 rfl) ?_
            refine tz_get (ci := 7) (v := .ref h14) (C := RX10) (F := TX10) (N := 17) hx hb hU iX10 hown hK hT 0 rfl rfl 16 (by decide) w265 (fun _ h9 => h9) rfl dX10_orderOf_88 ?_
            refine lv_iconst (v := 0) hx hb dX10_orderOf_91 (by decide) ?_
            refine lv_aload_n hx hb dX10_orderOf_92 rfl (lv_at hl 0 rfl) ?_
            refine tz_get (ci := 7) (v := .ref h13) (C := RX10) (F := TX10) (N := 17) hx hb hU iX10 hown hK hT 0 rfl rfl 15 (by decide) w264 (fun _ h9 => h9) rfl dX10_orderOf_93 ?_
            refine lv_iconst (v := 0) hx hb dX10_orderOf_96 (by decide) ?_
            refine lv_iload_n hx hb dX10_orderOf_97 rfl (lv_at hl 3 rfl) ?_
            refine tz_copyl hx hb (by rw [hml]; exact hl.1.symm) hown hU w410 w348 w347 w75 hK hT hS 4 2 rfl rfl (by have := li_0; omega) (fun _ _ _ _ => trivial) (Nat.le_of_ble_eq_true rfl) (Nat.le_of_ble_eq_true rfl) dX10_orderOf_98 (fun H locs hT hS => ?_)
            obtain ⟨v20, e_v20⟩ : ∃ x : Int32, x = y10 + Int32.ofInt 1 := ⟨_, rfl⟩
            have f_v20 := e_v20.symm
            have e_v20 : v20.toInt = y10.toInt + 1 := ai_add e_v20 rfl (show (Int32.ofInt 1).toInt = 1 from (by decide +kernel)) (by omega)
            refine lv_iinc (v := v20) (lv' := [(4, .int v20), (0, .ref h0), (1, .ref h1), (2, .int x2), (3, .int r1)]) hx hb dX10_orderOf_101 hl (k := 4) rfl f_v20 (by decide) rfl (fun ls hl => ?_)
            refine lv_goto (tgt := 22) hx hb dX10_orderOf_104 (by decide) ?_
            exact ih22_11 v20 _ _ _ (by omega)  (by omega) (hT.sub [0, 3, 2, 4, 1] (by decide) rfl) hS (lv_sub hl [1, 2, 3, 4, 0] rfl)
          · skip
            have c_17 := ni_eq c_17 rfl li_0
            refine lv_bipush (v := (-3)) hx hb dX10_orderOf_63 (by decide) ?_
            exact tz_retI (B := B_cX10_orderOf_e8a0b D k h0 h1 h2 h13 h14 h3 h4 h5 h6 h7 h8 h9 h10 h11 h12 x2 h0f2 h0f6 h0f8 h0f11 h2f0 h2f1 h2f2) (v := (-3)) hQ hx hb hr hlocks hS (Nat.le_of_ble_eq_true rfl) (Nat.le_of_ble_eq_true rfl) dX10_orderOf_65 (⟨(by have := li_m3; omega), (hT.sub [0, 1, 3, 4, 2] (by decide) rfl)⟩)
        · skip
          have c_14 := ni_ne c_14 rfl li_0
          refine lv_iload hx hb dX10_orderOf_46 (lv_at hl 4 rfl) ?_
          exact tz_retI (B := B_cX10_orderOf_e8a0b D k h0 h1 h2 h13 h14 h3 h4 h5 h6 h7 h8 h9 h10 h11 h12 x2 h0f2 h0f6 h0f8 h0f11 h2f0 h2f1 h2f2) (v := y10) hQ hx hb hr hlocks hS (Nat.le_of_ble_eq_true rfl) (Nat.le_of_ble_eq_true rfl) dX10_orderOf_48 (⟨(by omega), (hT.sub [0, 1, 3, 4, 2] (by decide) rfl)⟩)
  exact lp22_11 (((-1) * (1 : Int32).toInt + 12 + 1).toNat + 1) (1) _ _ _ (by have := li_1; omega)  (Nat.lt_succ_self _) hT hS (lv_sub hl [2, 3, 4, 1, 0] rfl)
abbrev Rm_cX10_of_392c5 : Room := { frames := 3, cells := 0, slots := 0, locals := 80 }
abbrev B_cX10_of_392c5 (D : va_G) (k : Nat → ClassId) (h0 h1 h12 h13 h14 h2 h3 h4 h5 h6 h7 h8 h9 h10 h11 : Nat) (x1 : Int32) (x2 : Int32) (h0f2 : Int32) (h0f6 : Int32) (h0f8 : Int32) (h0f11 : Int32) (h1f0 : Int32) (h1f1 : Int32) (h1f2 : Int32) (A : Nat → Prop) (r : Int32) (H : Heap) : Prop := TP D A [(h0, ob 7 [.ref h1, .ref h2, .int h0f2, .ref h3, .ref h4, .ref h5, .int h0f6, .ref h6, .int h0f8, .ref h7, .ref h8, .int h0f11, .ref h9, .ref h10, .ref h11, .ref h12, .ref h13]), (h1, ob 4 [.int h1f0, .int h1f1, .int h1f2, .ref h14]), (h12, aJ (k 1) 9 anJ), (h13, aJ (k 1) 9 anJ), (h14, aJ (k 1) 36 anJ)] H
set_option maxHeartbeats 4000000 in
set_option maxRecDepth 100000 in
theorem cX10_of_392c5 (l : Launch) (D : va_G) (k : Nat → ClassId) (sz : Nat) (h0 h1 h12 h13 h14 h2 h3 h4 h5 h6 h7 h8 h9 h10 h11 : Nat) (x1 : Int32) (x2 : Int32) (h0f2 : Int32) (h0f6 : Int32) (h0f8 : Int32) (h0f11 : Int32) (h1f0 : Int32) (h1f1 : Int32) (h1f2 : Int32) (b_h0f2 : 0 ≤ h0f2.toInt ∧ h0f2.toInt ≤ 1) (b_h0f6 : 0 ≤ h0f6.toInt ∧ h0f6.toInt ≤ 1) (b_h0f8 : 0 ≤ h0f8.toInt ∧ h0f8.toInt ≤ 1) (b_h0f11 : 0 ≤ h0f11.toInt ∧ h0f11.toInt ≤ 200) (b_h1f0 : 1 ≤ h1f0.toInt ∧ h1f0.toInt ≤ 3) (b_h1f1 : 0 ≤ h1f1.toInt ∧ h1f1.toInt ≤ 4) : Met l yX10_of (Cond.code yX10_of cX10_of 4 (some .int) :: uw) Rm_cX10_of_392c5 (pT D k sz [.ref h0, .int x1, .int x2] [(h0, ob 7 [.ref h1, .ref h2, .int h0f2, .ref h3, .ref h4, .ref h5, .int h0f6, .ref h6, .int h0f8, .ref h7, .ref h8, .int h0f11, .ref h9, .ref h10, .ref h11, .ref h12, .ref h13]), (h1, ob 4 [.int h1f0, .int h1f1, .int h1f2, .ref h14]), (h12, aJ (k 1) 9 anJ), (h13, aJ (k 1) 9 anJ), (h14, aJ (k 1) 36 anJ)]) (qI (B_cX10_of_392c5 D k h0 h1 h12 h13 h14 h2 h3 h4 h5 h6 h7 h8 h9 h10 h11 x1 x2 h0f2 h0f6 h0f8 h0f11 h1f0 h1f1 h1f2 (zA [h0, h1, h12, h13, h14] sz)) (zA [h0, h1, h12, h13, h14] sz)) 0 0 (zA [h0, h1, h12, h13, h14] sz) := by
  refine tz_begin (as := [h0, h1, h12, h13, h14]) (Qc := fun A => qI (B_cX10_of_392c5 D k h0 h1 h12 h13 h14 h2 h3 h4 h5 h6 h7 h8 h9 h10 h11 x1 x2 h0f2 h0f6 h0f8 h0f11 h1f0 h1f1 h1f2 A) A) (by decide +kernel) rfl (Nat.le_of_ble_eq_true rfl) ?_
  intro p e s m args below meth c ls A Q hx hb hr hml hown hlocks hin hU hK hT hS hA hl hQ
  have hl : lv_has ls 4 [(0, .ref h0), (1, .int x1), (2, .int x2)] := hl
  have hT : TP D A [(h0, ob 7 [.ref h1, .ref h2, .int h0f2, .ref h3, .ref h4, .ref h5, .int h0f6, .ref h6, .int h0f8, .ref h7, .ref h8, .int h0f11, .ref h9, .ref h10, .ref h11, .ref h12, .ref h13]), (h1, ob 4 [.int h1f0, .int h1f1, .int h1f2, .ref h14]), (h12, aJ (k 1) 9 anJ), (h13, aJ (k 1) 9 anJ), (h14, aJ (k 1) 36 anJ)] s.heap := hT
  refine lv_aload_n hx hb dX10_of_0 rfl (lv_at hl 0 rfl) ?_
  refine tz_get (ci := 7) (v := .ref h1) (C := RX10) (F := TX10) (N := 17) hx hb hU iX10 hown hK hT 0 rfl rfl 0 (by decide) w249 (fun _ h9 => h9) rfl dX10_of_1 ?_
  refine lv_iload_n hx hb dX10_of_4 rfl (lv_at hl 1 rfl) ?_
  refine tcI (Tc := [(h1, ob 4 [.int h1f0, .int h1f1, .int h1f2, .ref h14])]) (Tr := [(h0, ob 7 [.ref h1, .ref h2, .int h0f2, .ref h3, .ref h4, .ref h5, .int h0f6, .ref h6, .int h0f8, .ref h7, .ref h8, .int h0f11, .ref h9, .ref h10, .ref h11, .ref h12, .ref h13]), (h12, aJ (k 1) 9 anJ), (h13, aJ (k 1) 9 anJ), (h14, aJ (k 1) 36 anJ)]) (as := [h1]) (zcV (q0 := 1) (ci := 4) (As := [.int x1]) (rest := []) (Tc := [(h1, ob 4 [.int h1f0, .int h1f1, .int h1f2, .ref h14])]) hx hb hml hown hU hK hT rfl rfl [1] rfl (by decide) (cX5_has_64567 l D k _ h1 h14 x1 h1f0 h1f1 h1f2 (by omega) (by omega)) w356 w353 w354 w355 w64 hdX5_has ⟨rfl, rfl⟩ ⟨Nat.le_of_ble_eq_true rfl, Nat.le_of_ble_eq_true rfl⟩ rfl hl.1 (Nat.le_of_ble_eq_true rfl) dX10_of_5 ⟨Nat.le_of_ble_eq_true rfl, Nat.le_of_ble_eq_true rfl⟩) hT hS hA [1] [0, 2, 3, 4] rfl rfl rfl (by decide) (by decide) (fun r1 H locs hB J hS => ?_)
  rcases hB with ⟨rfl, hT1⟩ | ⟨c_2, c_3, rfl, hT1⟩
  · skip
    have hT := J _ hT1
    have hT : TP D A [(h0, ob 7 [.ref h1, .ref h2, .int h0f2, .ref h3, .ref h4, .ref h5, .int h0f6, .ref h6, .int h0f8, .ref h7, .ref h8, .int h0f11, .ref h9, .ref h10, .ref h11, .ref h12, .ref h13]), (h12, aJ (k 1) 9 anJ), (h13, aJ (k 1) 9 anJ), (h14, aJ (k 1) 36 anJ), (h1, ob 4 [.int h1f0, .int h1f1, .int h1f2, .ref h14])] H := hT
    refine lv_if_eq (tgt := 20) hx hb dX10_of_8 (by decide) (fun _ => ?_) (fun cc => absurd (by decide +kernel) cc)
    refine lv_iconst (v := (-1)) hx hb dX10_of_20 (by decide) ?_
    exact tz_retI (B := B_cX10_of_392c5 D k h0 h1 h12 h13 h14 h2 h3 h4 h5 h6 h7 h8 h9 h10 h11 x1 x2 h0f2 h0f6 h0f8 h0f11 h1f0 h1f1 h1f2) (v := (-1)) hQ hx hb hr hlocks hS (Nat.le_of_ble_eq_true rfl) (Nat.le_of_ble_eq_true rfl) dX10_of_21 ((hT.sub [0, 4, 1, 2, 3] (by decide) rfl))
  · skip
    have hT := J _ hT1
    have hT : TP D A [(h0, ob 7 [.ref h1, .ref h2, .int h0f2, .ref h3, .ref h4, .ref h5, .int h0f6, .ref h6, .int h0f8, .ref h7, .ref h8, .int h0f11, .ref h9, .ref h10, .ref h11, .ref h12, .ref h13]), (h12, aJ (k 1) 9 anJ), (h13, aJ (k 1) 9 anJ), (h14, aJ (k 1) 36 anJ), (h1, ob 4 [.int h1f0, .int h1f1, .int h1f2, .ref h14])] H := hT
    refine lv_if_eq (tgt := 20) hx hb dX10_of_8 (by decide) (fun cc => absurd cc (by decide +kernel)) (fun _ => ?_)
    refine lv_iload_n hx hb dX10_of_11 rfl (lv_at hl 2 rfl) ?_
    refine lv_if_lt (tgt := 20) hx hb dX10_of_12 (by decide) (fun c_4 => ?_) (fun c_4 => ?_)
    · skip
      have c_4 := ni_lt c_4 rfl li_0
      refine lv_iconst (v := (-1)) hx hb dX10_of_20 (by decide) ?_
      exact tz_retI (B := B_cX10_of_392c5 D k h0 h1 h12 h13 h14 h2 h3 h4 h5 h6 h7 h8 h9 h10 h11 x1 x2 h0f2 h0f6 h0f8 h0f11 h1f0 h1f1 h1f2) (v := (-1)) hQ hx hb hr hlocks hS (Nat.le_of_ble_eq_true rfl) (Nat.le_of_ble_eq_true rfl) dX10_of_21 ((hT.sub [0, 4, 1, 2, 3] (by decide) rfl))
    · skip
      have c_4 := ni_nlt c_4 rfl li_0
      refine lv_iload_n hx hb dX10_of_15 rfl (lv_at hl 2 rfl) ?_
      refine lv_iconst (v := 2) hx hb dX10_of_16 (by decide) ?_
      refine lv_icmp_le (tgt := 22) hx hb dX10_of_17 (by decide) (fun c_5 => ?_) (fun c_5 => ?_)
      · skip
        have c_5 := ni_le c_5 rfl li_2
        refine lv_iload_n hx hb dX10_of_22 rfl (lv_at hl 1 rfl) ?_
        refine lv_bipush (v := 9) hx hb dX10_of_23 (by decide) ?_
        refine lv_imul hx hb dX10_of_25 (lv_topi (fun v6 e_v6 => ?_))
        have e_v6 := ai_mul e_v6 rfl li_9 (by omega)
        refine lv_istore_n (lv' := [(3, .int v6), (0, .ref h0), (1, .int x1), (2, .int x2)]) hx hb dX10_of_26 rfl hl (by decide) rfl (fun ls hl => ?_)
        refine lv_iload_n hx hb dX10_of_27 rfl (lv_at hl 3 rfl) ?_
        refine lv_if_ne (tgt := 62) hx hb dX10_of_28 (by decide) (fun c_7 => ?_) (fun c_7 => ?_)
        · skip
          have c_7 := ni_ne c_7 rfl li_0
          refine lv_iload_n hx hb dX10_of_62 rfl (lv_at hl 3 rfl) ?_
          refine lv_iconst (v := 1) hx hb dX10_of_63 (by decide) ?_
          refine lv_icmp_ne (tgt := 91) hx hb dX10_of_64 (by decide) (fun c_8 => ?_) (fun c_8 => ?_)
          · skip
            have c_8 := ni_ne c_8 rfl li_1
            refine lv_aload_n hx hb dX10_of_91 rfl (lv_at hl 1 rfl) ?_
            refine lv_aload_n hx hb dX10_of_92 rfl (lv_at hl 1 rfl) ?_
            refine tz_get (ci := 7) (v := .ref h1) (C := RX10) (F := TX10) (N := 17) hx hb hU iX10 hown hK hT 0 rfl rfl 0 (by decide) w249 (fun _ h9 => h9) rfl dX10_of_93 ?_
            refine tz_get (ci := 4) (v := .ref h14) (C := RX5) (F := TX5) (N := 4) hx hb hU iX5 hown hK hT 4 rfl rfl 3 (by decide) w103 (fun _ h9 => h9) rfl dX10_of_96 ?_
            refine lv_iload_n hx hb dX10_of_99 rfl (lv_at hl 0 rfl) ?_
            refine tcI (Tc := [(h0, ob 7 [.ref h1, .ref h2, .int h0f2, .ref h3, .ref h4, .ref h5, .int h0f6, .ref h6, .int h0f8, .ref h7, .ref h8, .int h0f11, .ref h9, .ref h10, .ref h11, .ref h12, .ref h13]), (h14, aJ (k 1) 36 anJ), (h1, ob 4 [.int h1f0, .int h1f1, .int h1f2, .ref h14]), (h12, aJ (k 1) 9 anJ), (h13, aJ (k 1) 9 anJ)]) (Tr := []) (as := [h0, h14, h1, h12, h13]) (zcV (q0 := 0) (ci := 7) (As := [.ref h14, .int v6]) (rest := []) (Tc := [(h0, ob 7 [.ref h1, .ref h2, .int h0f2, .ref h3, .ref h4, .ref h5, .int h0f6, .ref h6, .int h0f8, .ref h7, .ref h8, .int h0f11, .ref h9, .ref h10, .ref h11, .ref h12, .ref h13]), (h14, aJ (k 1) 36 anJ), (h1, ob 4 [.int h1f0, .int h1f1, .int h1f2, .ref h14]), (h12, aJ (k 1) 9 anJ), (h13, aJ (k 1) 9 anJ)]) hx hb hml hown hU hK hT rfl rfl [0, 3, 4, 1, 2] rfl (by decide) (cX10_orderOf_e8a0b l D k _ h0 h14 h1 h12 h13 h2 h3 h4 h5 h6 h7 h8 h9 h10 h11 v6 h0f2 h0f6 h0f8 h0f11 h1f0 h1f1 h1f2 (by omega) (by omega) (by omega) (by omega) (by omega) (by omega) (by omega)) w409 w406 w408 w4 w63 hdX10_orderOf ⟨rfl, rfl⟩ ⟨Nat.le_of_ble_eq_true rfl, Nat.le_of_ble_eq_true rfl⟩ rfl hl.1 (Nat.le_of_ble_eq_true rfl) dX10_of_100 ⟨Nat.le_of_ble_eq_true rfl, Nat.le_of_ble_eq_true rfl⟩) hT hS hA [0, 3, 4, 1, 2] [] rfl rfl rfl (by decide) (by decide) (fun r9 H locs hB J hS => ?_)
            obtain ⟨b_r9, hT1⟩ := hB
            have hT := J _ hT1
            have hT : TP D A [(h0, ob 7 [.ref h1, .ref h2, .int h0f2, .ref h3, .ref h4, .ref h5, .int h0f6, .ref h6, .int h0f8, .ref h7, .ref h8, .int h0f11, .ref h9, .ref h10, .ref h11, .ref h12, .ref h13]), (h14, aJ (k 1) 36 anJ), (h1, ob 4 [.int h1f0, .int h1f1, .int h1f2, .ref h14]), (h12, aJ (k 1) 9 anJ), (h13, aJ (k 1) 9 anJ)] H := hT
            exact tz_retI (B := B_cX10_of_392c5 D k h0 h1 h12 h13 h14 h2 h3 h4 h5 h6 h7 h8 h9 h10 h11 x1 x2 h0f2 h0f6 h0f8 h0f11 h1f0 h1f1 h1f2) (v := r9) hQ hx hb hr hlocks hS (Nat.le_of_ble_eq_true rfl) (Nat.le_of_ble_eq_true rfl) dX10_of_103 ((hT.sub [0, 2, 3, 4, 1] (by decide) rfl))
          · skip
            have c_8 := ni_eq c_8 rfl li_1
            refine lv_sipush (v := 1000) hx hb dX10_of_67 (by decide) ?_
            refine lv_aload_n hx hb dX10_of_70 rfl (lv_at hl 1 rfl) ?_
            refine tz_get (ci := 7) (v := .ref h1) (C := RX10) (F := TX10) (N := 17) hx hb hU iX10 hown hK hT 0 rfl rfl 0 (by decide) w249 (fun _ h9 => h9) rfl dX10_of_71 ?_
            refine tz_get (ci := 4) (v := .ref h14) (C := RX5) (F := TX5) (N := 4) hx hb hU iX5 hown hK hT 4 rfl rfl 3 (by decide) w103 (fun _ h9 => h9) rfl dX10_of_74 ?_
            refine lv_iload_n hx hb dX10_of_77 rfl (lv_at hl 0 rfl) ?_
            refine lv_aload_n hx hb dX10_of_78 rfl (lv_at hl 1 rfl) ?_
            refine tz_get (ci := 7) (v := .ref h1) (C := RX10) (F := TX10) (N := 17) hx hb hU iX10 hown hK hT 0 rfl rfl 0 (by decide) w249 (fun _ h9 => h9) rfl dX10_of_79 ?_
            refine tz_get (ci := 4) (v := .int h1f0) (C := RX5) (F := TX5) (N := 4) hx hb hU iX5 hown hK hT 4 rfl rfl 0 (by decide) w93 (fun _ h9 => h9) rfl dX10_of_82 ?_
            refine tcL (Tc := [(h14, aJ (k 1) 36 anJ)]) (Tr := [(h0, ob 7 [.ref h1, .ref h2, .int h0f2, .ref h3, .ref h4, .ref h5, .int h0f6, .ref h6, .int h0f8, .ref h7, .ref h8, .int h0f11, .ref h9, .ref h10, .ref h11, .ref h12, .ref h13]), (h12, aJ (k 1) 9 anJ), (h13, aJ (k 1) 9 anJ), (h1, ob 4 [.int h1f0, .int h1f1, .int h1f2, .ref h14])]) (as := [h14]) (zcS (As := [.ref h14, .int v6, .int h1f0]) (rest := [.int 1000]) (Tc := [(h14, aJ (k 1) 36 anJ)]) hx hb hml hown hU hK hT [3] rfl (by decide) (cX7_trace_e2d54 l D k _ h14 v6 h1f0 (by omega) (by omega)) w405 w403 w404 w74 hdX7_trace ⟨rfl, rfl⟩ ⟨Nat.le_of_ble_eq_true rfl, Nat.le_of_ble_eq_true rfl⟩ rfl hl.1 (Nat.le_of_ble_eq_true rfl) dX10_of_85 ⟨Nat.le_of_ble_eq_true rfl, Nat.le_of_ble_eq_true rfl⟩) hT hS hA [3] [0, 1, 2, 4] rfl rfl rfl (by decide) (by decide) (fun r10 H locs hB J hS => ?_)
            have hT1 := hB
            have hT := J _ hT1
            have hT : TP D A [(h0, ob 7 [.ref h1, .ref h2, .int h0f2, .ref h3, .ref h4, .ref h5, .int h0f6, .ref h6, .int h0f8, .ref h7, .ref h8, .int h0f11, .ref h9, .ref h10, .ref h11, .ref h12, .ref h13]), (h12, aJ (k 1) 9 anJ), (h13, aJ (k 1) 9 anJ), (h1, ob 4 [.int h1f0, .int h1f1, .int h1f2, .ref h14]), (h14, aJ (k 1) 36 anJ)] H := hT
            refine lv_l2i hx hb dX10_of_88 rfl (lv_topi (fun v11 _ => ?_))
            refine lv_iadd hx hb dX10_of_89 (lv_topi (fun v12 e_v12 => ?_))
            exact tz_retI (B := B_cX10_of_392c5 D k h0 h1 h12 h13 h14 h2 h3 h4 h5 h6 h7 h8 h9 h10 h11 x1 x2 h0f2 h0f6 h0f8 h0f11 h1f0 h1f1 h1f2) (v := v12) hQ hx hb hr hlocks hS (Nat.le_of_ble_eq_true rfl) (Nat.le_of_ble_eq_true rfl) dX10_of_90 ((hT.sub [0, 3, 1, 2, 4] (by decide) rfl))
        · skip
          have c_7 := ni_eq c_7 rfl li_0
          refine lv_sipush (v := 1000) hx hb dX10_of_31 (by decide) ?_
          refine lv_aload_n hx hb dX10_of_34 rfl (lv_at hl 1 rfl) ?_
          refine tz_get (ci := 7) (v := .ref h1) (C := RX10) (F := TX10) (N := 17) hx hb hU iX10 hown hK hT 0 rfl rfl 0 (by decide) w249 (fun _ h9 => h9) rfl dX10_of_35 ?_
          refine tz_get (ci := 4) (v := .ref h14) (C := RX5) (F := TX5) (N := 4) hx hb hU iX5 hown hK hT 4 rfl rfl 3 (by decide) w103 (fun _ h9 => h9) rfl dX10_of_38 ?_
          refine lv_iload_n hx hb dX10_of_41 rfl (lv_at hl 0 rfl) ?_
          refine lv_aload_n hx hb dX10_of_42 rfl (lv_at hl 1 rfl) ?_
          refine tz_get (ci := 7) (v := .ref h1) (C := RX10) (F := TX10) (N := 17) hx hb hU iX10 hown hK hT 0 rfl rfl 0 (by decide) w249 (fun _ h9 => h9) rfl dX10_of_43 ?_
          refine tz_get (ci := 4) (v := .int h1f0) (C := RX5) (F := TX5) (N := 4) hx hb hU iX5 hown hK hT 4 rfl rfl 0 (by decide) w93 (fun _ h9 => h9) rfl dX10_of_46 ?_
          refine lv_aload_n hx hb dX10_of_49 rfl (lv_at hl 1 rfl) ?_
          refine tz_get (ci := 7) (v := .ref h1) (C := RX10) (F := TX10) (N := 17) hx hb hU iX10 hown hK hT 0 rfl rfl 0 (by decide) w249 (fun _ h9 => h9) rfl dX10_of_50 ?_
          refine tz_get (ci := 4) (v := .int h1f0) (C := RX5) (F := TX5) (N := 4) hx hb hU iX5 hown hK hT 4 rfl rfl 0 (by decide) w93 (fun _ h9 => h9) rfl dX10_of_53 ?_
          refine tcL (Tc := [(h14, aJ (k 1) 36 anJ)]) (Tr := [(h0, ob 7 [.ref h1, .ref h2, .int h0f2, .ref h3, .ref h4, .ref h5, .int h0f6, .ref h6, .int h0f8, .ref h7, .ref h8, .int h0f11, .ref h9, .ref h10, .ref h11, .ref h12, .ref h13]), (h12, aJ (k 1) 9 anJ), (h13, aJ (k 1) 9 anJ), (h1, ob 4 [.int h1f0, .int h1f1, .int h1f2, .ref h14])]) (as := [h14]) (zcS (As := [.ref h14, .int v6, .int h1f0, .int h1f0]) (rest := [.int 1000]) (Tc := [(h14, aJ (k 1) 36 anJ)]) hx hb hml hown hU hK hT [3] rfl (by decide) (cX7_determinant_05929 l D k _ h14 v6 h1f0 h1f0 (by omega) (by omega) (by omega)) w372 w402 w371 w74 hdX7_determinant ⟨rfl, rfl⟩ ⟨Nat.le_of_ble_eq_true rfl, Nat.le_of_ble_eq_true rfl⟩ rfl hl.1 (Nat.le_of_ble_eq_true rfl) dX10_of_56 ⟨Nat.le_of_ble_eq_true rfl, Nat.le_of_ble_eq_true rfl⟩) hT hS hA [3] [0, 1, 2, 4] rfl rfl rfl (by decide) (by decide) (fun r13 H locs hB J hS => ?_)
          have hT1 := hB
          have hT := J _ hT1
          have hT : TP D A [(h0, ob 7 [.ref h1, .ref h2, .int h0f2, .ref h3, .ref h4, .ref h5, .int h0f6, .ref h6, .int h0f8, .ref h7, .ref h8, .int h0f11, .ref h9, .ref h10, .ref h11, .ref h12, .ref h13]), (h12, aJ (k 1) 9 anJ), (h13, aJ (k 1) 9 anJ), (h1, ob 4 [.int h1f0, .int h1f1, .int h1f2, .ref h14]), (h14, aJ (k 1) 36 anJ)] H := hT
          refine lv_l2i hx hb dX10_of_59 rfl (lv_topi (fun v14 _ => ?_))
          refine lv_iadd hx hb dX10_of_60 (lv_topi (fun v15 e_v15 => ?_))
          exact tz_retI (B := B_cX10_of_392c5 D k h0 h1 h12 h13 h14 h2 h3 h4 h5 h6 h7 h8 h9 h10 h11 x1 x2 h0f2 h0f6 h0f8 h0f11 h1f0 h1f1 h1f2) (v := v15) hQ hx hb hr hlocks hS (Nat.le_of_ble_eq_true rfl) (Nat.le_of_ble_eq_true rfl) dX10_of_61 ((hT.sub [0, 3, 1, 2, 4] (by decide) rfl))
      · skip
        have c_5 := ni_nle c_5 rfl li_2
        refine lv_iconst (v := (-1)) hx hb dX10_of_20 (by decide) ?_
        exact tz_retI (B := B_cX10_of_392c5 D k h0 h1 h12 h13 h14 h2 h3 h4 h5 h6 h7 h8 h9 h10 h11 x1 x2 h0f2 h0f6 h0f8 h0f11 h1f0 h1f1 h1f2) (v := (-1)) hQ hx hb hr hlocks hS (Nat.le_of_ble_eq_true rfl) (Nat.le_of_ble_eq_true rfl) dX10_of_21 ((hT.sub [0, 4, 1, 2, 3] (by decide) rfl))
abbrev Rm_cX11_clears_74629 : Room := { frames := 0, cells := 0, slots := 0, locals := 0 }
abbrev B_cX11_clears_74629 (D : va_G) (k : Nat → ClassId) (h0 h1 h2 h3 h4 h5 h6 h7 h8 h9 h10 h11 h12 h13 h14 h15 h16 h17 h18 h19 h20 h21 : Nat) (h0f0 : Int32) (h0f1 : Int32) (h0f2 : Int32) (h0f3 : Int32) (h0f4 : Int32) (h0f5 : Int32) (h0f8 : Int32) (h0f9 : Int32) (h0f17 : Int32) (h0f18 : Int32) (h0f19 : Int32) (h0f24 : Int32) (h0f25 : Int32) (h0f30 : Int32) (h0f31 : Int32) (A : Nat → Prop) (H : Heap) : Prop := TP D A [(h0, ob 8 [.int h0f0, .int h0f1, .int h0f2, .int h0f3, .int h0f4, .int h0f5, .ref h2, .ref h3, .int h0f8, .int h0f9, .ref h4, .ref h5, .ref h1, .ref h6, .ref h7, .ref h8, .ref h9, .int h0f17, .int h0f18, .int h0f19, .ref h10, .ref h11, .ref h12, .ref h13, .int h0f24, .int h0f25, .ref h14, .ref h15, .ref h16, .ref h17, .int h0f30, .int h0f31, .ref h18, .ref h19, .ref h20, .ref h21]), (h1, aJ (k 1) 9 anJ)] H
set_option maxHeartbeats 4000000 in
set_option maxRecDepth 100000 in
theorem cX11_clears_74629 (l : Launch) (D : va_G) (k : Nat → ClassId) (sz : Nat) (h0 h1 h2 h3 h4 h5 h6 h7 h8 h9 h10 h11 h12 h13 h14 h15 h16 h17 h18 h19 h20 h21 : Nat) (h0f0 : Int32) (h0f1 : Int32) (h0f2 : Int32) (h0f3 : Int32) (h0f4 : Int32) (h0f5 : Int32) (h0f8 : Int32) (h0f9 : Int32) (h0f17 : Int32) (h0f18 : Int32) (h0f19 : Int32) (h0f24 : Int32) (h0f25 : Int32) (h0f30 : Int32) (h0f31 : Int32) (b_h0f0 : 1 ≤ h0f0.toInt ∧ h0f0.toInt ≤ 3) (b_h0f1 : 0 ≤ h0f1.toInt ∧ h0f1.toInt ≤ 4) (b_h0f3 : 0 ≤ h0f3.toInt ∧ h0f3.toInt ≤ 3) (b_h0f4 : 0 ≤ h0f4.toInt ∧ h0f4.toInt ≤ 4) (b_h0f8 : 0 ≤ h0f8.toInt ∧ h0f8.toInt ≤ 1) (b_h0f9 : 0 ≤ h0f9.toInt ∧ h0f9.toInt ≤ 1) (b_h0f17 : 0 ≤ h0f17.toInt ∧ h0f17.toInt ≤ 120) (b_h0f18 : 0 ≤ h0f18.toInt ∧ h0f18.toInt ≤ 120) (b_h0f19 : 0 ≤ h0f19.toInt ∧ h0f19.toInt ≤ 4) (b_h0f24 : 0 ≤ h0f24.toInt ∧ h0f24.toInt ≤ 100) (b_h0f25 : 0 ≤ h0f25.toInt ∧ h0f25.toInt ≤ 1) (b_h0f30 : 0 ≤ h0f30.toInt ∧ h0f30.toInt ≤ 60) (b_h0f31 : 0 ≤ h0f31.toInt ∧ h0f31.toInt ≤ 1) : Met l yX11_clears (Cond.code yX11_clears cX11_clears 3 none :: uw) Rm_cX11_clears_74629 (pT D k sz [.ref h0, .ref h1] [(h0, ob 8 [.int h0f0, .int h0f1, .int h0f2, .int h0f3, .int h0f4, .int h0f5, .ref h2, .ref h3, .int h0f8, .int h0f9, .ref h4, .ref h5, .ref h1, .ref h6, .ref h7, .ref h8, .ref h9, .int h0f17, .int h0f18, .int h0f19, .ref h10, .ref h11, .ref h12, .ref h13, .int h0f24, .int h0f25, .ref h14, .ref h15, .ref h16, .ref h17, .int h0f30, .int h0f31, .ref h18, .ref h19, .ref h20, .ref h21]), (h1, aJ (k 1) 9 anJ)]) (qV (B_cX11_clears_74629 D k h0 h1 h2 h3 h4 h5 h6 h7 h8 h9 h10 h11 h12 h13 h14 h15 h16 h17 h18 h19 h20 h21 h0f0 h0f1 h0f2 h0f3 h0f4 h0f5 h0f8 h0f9 h0f17 h0f18 h0f19 h0f24 h0f25 h0f30 h0f31 (zA [h0, h1] sz)) (zA [h0, h1] sz)) 0 0 (zA [h0, h1] sz) := by
  refine tz_begin (as := [h0, h1]) (Qc := fun A => qV (B_cX11_clears_74629 D k h0 h1 h2 h3 h4 h5 h6 h7 h8 h9 h10 h11 h12 h13 h14 h15 h16 h17 h18 h19 h20 h21 h0f0 h0f1 h0f2 h0f3 h0f4 h0f5 h0f8 h0f9 h0f17 h0f18 h0f19 h0f24 h0f25 h0f30 h0f31 A) A) (by decide +kernel) rfl (Nat.le_of_ble_eq_true rfl) ?_
  intro p e s m args below meth c ls A Q hx hb hr hml hown hlocks hin hU hK hT hS hA hl hQ
  have hl : lv_has ls 3 [(0, .ref h0), (1, .ref h1)] := hl
  have hT : TP D A [(h0, ob 8 [.int h0f0, .int h0f1, .int h0f2, .int h0f3, .int h0f4, .int h0f5, .ref h2, .ref h3, .int h0f8, .int h0f9, .ref h4, .ref h5, .ref h1, .ref h6, .ref h7, .ref h8, .ref h9, .int h0f17, .int h0f18, .int h0f19, .ref h10, .ref h11, .ref h12, .ref h13, .int h0f24, .int h0f25, .ref h14, .ref h15, .ref h16, .ref h17, .int h0f30, .int h0f31, .ref h18, .ref h19, .ref h20, .ref h21]), (h1, aJ (k 1) 9 anJ)] s.heap := hT
  refine lv_iconst (v := 0) hx hb dX11_clears_0 (by decide) ?_
  refine lv_istore_n (lv' := [(2, .int 0), (0, .ref h0), (1, .ref h1)]) hx hb dX11_clears_1 rfl hl (by decide) rfl (fun ls hl => ?_)
  have lp2_8 : ∀ (n : Nat) (y7 : Int32) (H : Heap) (locs : List Loc) (ls : Array Slot), (0 ≤ y7.toInt ∧ y7.toInt ≤ 9) → ((-1) * y7.toInt + 9 + 1).toNat < n → TP D A [(h0, ob 8 [.int h0f0, .int h0f1, .int h0f2, .int h0f3, .int h0f4, .int h0f5, .ref h2, .ref h3, .int h0f8, .int h0f9, .ref h4, .ref h5, .ref h1, .ref h6, .ref h7, .ref h8, .ref h9, .int h0f17, .int h0f18, .int h0f19, .ref h10, .ref h11, .ref h12, .ref h13, .int h0f24, .int h0f25, .ref h14, .ref h15, .ref h16, .ref h17, .int h0f30, .int h0f31, .ref h18, .ref h19, .ref h20, .ref h21]), (h1, aJ (k 1) 9 anJ)] H → va_S A s.heap H locs → lv_has ls 3 [(1, .ref h1), (2, .int y7)] → W p l e Rm_cX11_clears_74629 s m args below meth c H locs 0 0 Q (F0 m 2 ls []) := by
    intro n
    induction n with
    | zero => intro y7 H locs ls b_y7 hm hT hS hl; exact absurd hm (Nat.not_lt_zero _)
    | succ n ih =>
      intro y7 H locs ls b_y7 hm hT hS hl
      have ih2_8 := ih
      clear ih
      refine lv_iload_n hx hb dX11_clears_2 rfl (lv_at hl 1 rfl) ?_
      refine lv_bipush (v := 9) hx hb dX11_clears_3 (by decide) ?_
      refine lv_icmp_ge (tgt := 18) hx hb dX11_clears_5 (by decide) (fun c_9 => ?_) (fun c_9 => ?_)
      · skip
        have c_9 := ni_le c_9 li_9 rfl
        exact tz_retV (B := B_cX11_clears_74629 D k h0 h1 h2 h3 h4 h5 h6 h7 h8 h9 h10 h11 h12 h13 h14 h15 h16 h17 h18 h19 h20 h21 h0f0 h0f1 h0f2 h0f3 h0f4 h0f5 h0f8 h0f9 h0f17 h0f18 h0f19 h0f24 h0f25 h0f30 h0f31) hQ hx hb hr hlocks hS (Nat.le_of_ble_eq_true rfl) (Nat.le_of_ble_eq_true rfl) dX11_clears_18 (hT)
      · skip
        have c_9 := ni_nle c_9 li_9 rfl
        refine lv_aload_n hx hb dX11_clears_8 rfl (lv_at hl 0 rfl) ?_
        refine lv_iload_n hx hb dX11_clears_9 rfl (lv_at hl 1 rfl) ?_
        refine lv_lconst (v := 0) hx hb dX11_clears_10 (by decide) ?_
        refine tz_last hx hb hK hT hS 1 rfl (by omega) (fun _ _ => trivial) dX11_clears_11 (fun H locs hT hS => ?_)
        obtain ⟨v10, e_v10⟩ : ∃ x : Int32, x = y7 + Int32.ofInt 1 := ⟨_, rfl⟩
        have f_v10 := e_v10.symm
        have e_v10 : v10.toInt = y7.toInt + 1 := ai_add e_v10 rfl (show (Int32.ofInt 1).toInt = 1 from (by decide +kernel)) (by omega)
        refine lv_iinc (v := v10) (lv' := [(2, .int v10), (1, .ref h1)]) hx hb dX11_clears_12 hl (k := 1) rfl f_v10 (by decide) rfl (fun ls hl => ?_)
        refine lv_goto (tgt := 2) hx hb dX11_clears_15 (by decide) ?_
        exact ih2_8 v10 _ _ _ (by omega)  (by omega) hT hS (lv_sub hl [1, 0] rfl)
  exact lp2_8 (((-1) * (0 : Int32).toInt + 9 + 1).toNat + 1) (0) _ _ _ (by have := li_0; omega)  (Nat.lt_succ_self _) hT hS (lv_sub hl [2, 0] rfl)
abbrev Rm_cX11_first_9406b : Room := { frames := 1, cells := 0, slots := 0, locals := 22 }
abbrev B_cX11_first_9406b (D : va_G) (k : Nat → ClassId) (h0 h1 h2 h3 h4 h5 h6 h7 h8 h9 h10 h11 h12 h13 h14 h15 h16 h17 h18 h19 h20 h21 : Nat) (h0f0 : Int32) (h0f1 : Int32) (h0f2 : Int32) (h0f3 : Int32) (h0f4 : Int32) (h0f5 : Int32) (h0f8 : Int32) (h0f9 : Int32) (h0f17 : Int32) (h0f18 : Int32) (h0f19 : Int32) (h0f24 : Int32) (h0f25 : Int32) (h0f30 : Int32) (h0f31 : Int32) (A : Nat → Prop) (H : Heap) : Prop := TP D A [(h0, ob 8 [.int h0f0, .int h0f1, .int h0f2, .int h0f3, .int h0f4, .int h0f5, .ref h2, .ref h3, .int h0f8, .int h0f9, .ref h4, .ref h5, .ref h1, .ref h6, .ref h7, .ref h8, .ref h9, .int h0f17, .int h0f18, .int h0f19, .ref h10, .ref h11, .ref h12, .ref h13, .int h0f24, .int h0f25, .ref h14, .ref h15, .ref h16, .ref h17, .int h0f30, .int h0f31, .ref h18, .ref h19, .ref h20, .ref h21]), (h1, aJ (k 1) 9 anJ)] H
set_option maxHeartbeats 4000000 in
set_option maxRecDepth 100000 in
theorem cX11_first_9406b (l : Launch) (D : va_G) (k : Nat → ClassId) (sz : Nat) (h0 h1 h2 h3 h4 h5 h6 h7 h8 h9 h10 h11 h12 h13 h14 h15 h16 h17 h18 h19 h20 h21 : Nat) (h0f0 : Int32) (h0f1 : Int32) (h0f2 : Int32) (h0f3 : Int32) (h0f4 : Int32) (h0f5 : Int32) (h0f8 : Int32) (h0f9 : Int32) (h0f17 : Int32) (h0f18 : Int32) (h0f19 : Int32) (h0f24 : Int32) (h0f25 : Int32) (h0f30 : Int32) (h0f31 : Int32) (b_h0f0 : 1 ≤ h0f0.toInt ∧ h0f0.toInt ≤ 3) (b_h0f1 : 0 ≤ h0f1.toInt ∧ h0f1.toInt ≤ 4) (b_h0f3 : 0 ≤ h0f3.toInt ∧ h0f3.toInt ≤ 3) (b_h0f4 : 0 ≤ h0f4.toInt ∧ h0f4.toInt ≤ 4) (b_h0f8 : 0 ≤ h0f8.toInt ∧ h0f8.toInt ≤ 1) (b_h0f9 : 0 ≤ h0f9.toInt ∧ h0f9.toInt ≤ 1) (b_h0f17 : 0 ≤ h0f17.toInt ∧ h0f17.toInt ≤ 120) (b_h0f18 : 0 ≤ h0f18.toInt ∧ h0f18.toInt ≤ 120) (b_h0f19 : 0 ≤ h0f19.toInt ∧ h0f19.toInt ≤ 4) (b_h0f24 : 0 ≤ h0f24.toInt ∧ h0f24.toInt ≤ 100) (b_h0f25 : 0 ≤ h0f25.toInt ∧ h0f25.toInt ≤ 1) (b_h0f30 : 0 ≤ h0f30.toInt ∧ h0f30.toInt ≤ 60) (b_h0f31 : 0 ≤ h0f31.toInt ∧ h0f31.toInt ≤ 1) : Met l yX11_first (Cond.code yX11_first cX11_first 3 none :: uw) Rm_cX11_first_9406b (pT D k sz [.ref h0, .ref h1] [(h0, ob 8 [.int h0f0, .int h0f1, .int h0f2, .int h0f3, .int h0f4, .int h0f5, .ref h2, .ref h3, .int h0f8, .int h0f9, .ref h4, .ref h5, .ref h1, .ref h6, .ref h7, .ref h8, .ref h9, .int h0f17, .int h0f18, .int h0f19, .ref h10, .ref h11, .ref h12, .ref h13, .int h0f24, .int h0f25, .ref h14, .ref h15, .ref h16, .ref h17, .int h0f30, .int h0f31, .ref h18, .ref h19, .ref h20, .ref h21]), (h1, aJ (k 1) 9 anJ)]) (qV (B_cX11_first_9406b D k h0 h1 h2 h3 h4 h5 h6 h7 h8 h9 h10 h11 h12 h13 h14 h15 h16 h17 h18 h19 h20 h21 h0f0 h0f1 h0f2 h0f3 h0f4 h0f5 h0f8 h0f9 h0f17 h0f18 h0f19 h0f24 h0f25 h0f30 h0f31 (zA [h0, h1] sz)) (zA [h0, h1] sz)) 0 0 (zA [h0, h1] sz) := by
  refine tz_begin (as := [h0, h1]) (Qc := fun A => qV (B_cX11_first_9406b D k h0 h1 h2 h3 h4 h5 h6 h7 h8 h9 h10 h11 h12 h13 h14 h15 h16 h17 h18 h19 h20 h21 h0f0 h0f1 h0f2 h0f3 h0f4 h0f5 h0f8 h0f9 h0f17 h0f18 h0f19 h0f24 h0f25 h0f30 h0f31 A) A) (by decide +kernel) rfl (Nat.le_of_ble_eq_true rfl) ?_
  intro p e s m args below meth c ls A Q hx hb hr hml hown hlocks hin hU hK hT hS hA hl hQ
  have hl : lv_has ls 3 [(0, .ref h0), (1, .ref h1)] := hl
  have hT : TP D A [(h0, ob 8 [.int h0f0, .int h0f1, .int h0f2, .int h0f3, .int h0f4, .int h0f5, .ref h2, .ref h3, .int h0f8, .int h0f9, .ref h4, .ref h5, .ref h1, .ref h6, .ref h7, .ref h8, .ref h9, .int h0f17, .int h0f18, .int h0f19, .ref h10, .ref h11, .ref h12, .ref h13, .int h0f24, .int h0f25, .ref h14, .ref h15, .ref h16, .ref h17, .int h0f30, .int h0f31, .ref h18, .ref h19, .ref h20, .ref h21]), (h1, aJ (k 1) 9 anJ)] s.heap := hT
  refine lv_aload_n hx hb dX11_first_0 rfl (lv_at hl 0 rfl) ?_
  refine lv_aload_n hx hb dX11_first_1 rfl (lv_at hl 1 rfl) ?_
  refine tcV (Tc := [(h0, ob 8 [.int h0f0, .int h0f1, .int h0f2, .int h0f3, .int h0f4, .int h0f5, .ref h2, .ref h3, .int h0f8, .int h0f9, .ref h4, .ref h5, .ref h1, .ref h6, .ref h7, .ref h8, .ref h9, .int h0f17, .int h0f18, .int h0f19, .ref h10, .ref h11, .ref h12, .ref h13, .int h0f24, .int h0f25, .ref h14, .ref h15, .ref h16, .ref h17, .int h0f30, .int h0f31, .ref h18, .ref h19, .ref h20, .ref h21]), (h1, aJ (k 1) 9 anJ)]) (Tr := []) (as := [h0, h1]) (zcV (q0 := 0) (ci := 8) (As := [.ref h1]) (rest := []) (Tc := [(h0, ob 8 [.int h0f0, .int h0f1, .int h0f2, .int h0f3, .int h0f4, .int h0f5, .ref h2, .ref h3, .int h0f8, .int h0f9, .ref h4, .ref h5, .ref h1, .ref h6, .ref h7, .ref h8, .ref h9, .int h0f17, .int h0f18, .int h0f19, .ref h10, .ref h11, .ref h12, .ref h13, .int h0f24, .int h0f25, .ref h14, .ref h15, .ref h16, .ref h17, .int h0f30, .int h0f31, .ref h18, .ref h19, .ref h20, .ref h21]), (h1, aJ (k 1) 9 anJ)]) hx hb hml hown hU hK hT rfl rfl [0, 1] rfl (by decide) (cX11_clears_74629 l D k _ h0 h1 h2 h3 h4 h5 h6 h7 h8 h9 h10 h11 h12 h13 h14 h15 h16 h17 h18 h19 h20 h21 h0f0 h0f1 h0f2 h0f3 h0f4 h0f5 h0f8 h0f9 h0f17 h0f18 h0f19 h0f24 h0f25 h0f30 h0f31 (by omega) (by omega) (by omega) (by omega) (by omega) (by omega) (by omega) (by omega) (by omega) (by omega) (by omega) (by omega) (by omega)) w923 w920 w922 w29 w72 hdX11_clears ⟨rfl, rfl⟩ ⟨Nat.le_of_ble_eq_true rfl, Nat.le_of_ble_eq_true rfl⟩ rfl hl.1 (Nat.le_of_ble_eq_true rfl) dX11_first_2 ⟨Nat.le_of_ble_eq_true rfl, Nat.le_of_ble_eq_true rfl⟩) hT hS hA [0, 1] [] rfl rfl rfl (by decide) (by decide) (fun H locs hB J hS => ?_)
  have hT1 := hB
  have hT := J _ hT1
  have hT : TP D A [(h0, ob 8 [.int h0f0, .int h0f1, .int h0f2, .int h0f3, .int h0f4, .int h0f5, .ref h2, .ref h3, .int h0f8, .int h0f9, .ref h4, .ref h5, .ref h1, .ref h6, .ref h7, .ref h8, .ref h9, .int h0f17, .int h0f18, .int h0f19, .ref h10, .ref h11, .ref h12, .ref h13, .int h0f24, .int h0f25, .ref h14, .ref h15, .ref h16, .ref h17, .int h0f30, .int h0f31, .ref h18, .ref h19, .ref h20, .ref h21]), (h1, aJ (k 1) 9 anJ)] H := hT
  refine lv_iconst (v := 0) hx hb dX11_first_5 (by decide) ?_
  refine lv_istore_n (lv' := [(2, .int 0), (0, .ref h0), (1, .ref h1)]) hx hb dX11_first_6 rfl hl (by decide) rfl (fun ls hl => ?_)
  have lp7_5 : ∀ (n : Nat) (y4 : Int32) (H : Heap) (locs : List Loc) (ls : Array Slot), (0 ≤ y4.toInt ∧ y4.toInt ≤ 3) → (h0f0.toInt + (-1) * y4.toInt + 1).toNat < n → TP D A [(h0, ob 8 [.int h0f0, .int h0f1, .int h0f2, .int h0f3, .int h0f4, .int h0f5, .ref h2, .ref h3, .int h0f8, .int h0f9, .ref h4, .ref h5, .ref h1, .ref h6, .ref h7, .ref h8, .ref h9, .int h0f17, .int h0f18, .int h0f19, .ref h10, .ref h11, .ref h12, .ref h13, .int h0f24, .int h0f25, .ref h14, .ref h15, .ref h16, .ref h17, .int h0f30, .int h0f31, .ref h18, .ref h19, .ref h20, .ref h21]), (h1, aJ (k 1) 9 anJ)] H → va_S A s.heap H locs → lv_has ls 3 [(0, .ref h0), (1, .ref h1), (2, .int y4)] → W p l e Rm_cX11_first_9406b s m args below meth c H locs 0 0 Q (F0 m 7 ls []) := by
    intro n
    induction n with
    | zero => intro y4 H locs ls b_y4 hm hT hS hl; exact absurd hm (Nat.not_lt_zero _)
    | succ n ih =>
      intro y4 H locs ls b_y4 hm hT hS hl
      have ih7_5 := ih
      clear ih
      refine lv_iload_n hx hb dX11_first_7 rfl (lv_at hl 2 rfl) ?_
      refine lv_aload_n hx hb dX11_first_8 rfl (lv_at hl 0 rfl) ?_
      refine tz_get (ci := 8) (v := .int h0f0) (C := RX11) (F := TX11) (N := 36) hx hb hU iX11 hown hK hT 0 rfl rfl 0 (by decide) w785 (fun _ h9 => h9) rfl dX11_first_9 ?_
      refine lv_icmp_ge (tgt := 27) hx hb dX11_first_12 (by decide) (fun c_6 => ?_) (fun c_6 => ?_)
      · skip
        have c_6 := ni_le c_6 rfl rfl
        exact tz_retV (B := B_cX11_first_9406b D k h0 h1 h2 h3 h4 h5 h6 h7 h8 h9 h10 h11 h12 h13 h14 h15 h16 h17 h18 h19 h20 h21 h0f0 h0f1 h0f2 h0f3 h0f4 h0f5 h0f8 h0f9 h0f17 h0f18 h0f19 h0f24 h0f25 h0f30 h0f31) hQ hx hb hr hlocks hS (Nat.le_of_ble_eq_true rfl) (Nat.le_of_ble_eq_true rfl) dX11_first_27 (hT)
      · skip
        have c_6 := ni_nle c_6 rfl rfl
        refine lv_aload_n hx hb dX11_first_15 rfl (lv_at hl 1 rfl) ?_
        refine lv_iconst (v := 4) hx hb dX11_first_16 (by decide) ?_
        refine lv_iload_n hx hb dX11_first_17 rfl (lv_at hl 2 rfl) ?_
        refine lv_imul hx hb dX11_first_18 (lv_topi (fun v7 e_v7 => ?_))
        have e_v7 := ai_mul e_v7 li_4 rfl (by omega)
        refine lv_lconst (v := 1) hx hb dX11_first_19 (by decide) ?_
        refine tz_last hx hb hK hT hS 1 rfl (by omega) (fun _ _ => trivial) dX11_first_20 (fun H locs hT hS => ?_)
        obtain ⟨v8, e_v8⟩ : ∃ x : Int32, x = y4 + Int32.ofInt 1 := ⟨_, rfl⟩
        have f_v8 := e_v8.symm
        have e_v8 : v8.toInt = y4.toInt + 1 := ai_add e_v8 rfl (show (Int32.ofInt 1).toInt = 1 from (by decide +kernel)) (by omega)
        refine lv_iinc (v := v8) (lv' := [(2, .int v8), (0, .ref h0), (1, .ref h1)]) hx hb dX11_first_21 hl (k := 2) rfl f_v8 (by decide) rfl (fun ls hl => ?_)
        refine lv_goto (tgt := 7) hx hb dX11_first_24 (by decide) ?_
        exact ih7_5 v8 _ _ _ (by omega)  (by omega) hT hS (lv_sub hl [1, 2, 0] rfl)
  exact lp7_5 ((h0f0.toInt + (-1) * (0 : Int32).toInt + 1).toNat + 1) (0) _ _ _ (by have := li_0; omega)  (Nat.lt_succ_self _) hT hS (lv_sub hl [1, 2, 0] rfl)
abbrev Rm_cX11_times_e15ea : Room := { frames := 1, cells := 0, slots := 0, locals := 22 }
abbrev B_cX11_times_e15ea (D : va_G) (k : Nat → ClassId) (h0 h1 h2 h3 h4 h5 h6 h7 h8 h9 h10 h11 h12 h13 h14 h15 h16 h17 h18 h19 h20 h21 : Nat) (h0f0 : Int32) (h0f1 : Int32) (h0f2 : Int32) (h0f3 : Int32) (h0f4 : Int32) (h0f5 : Int32) (h0f8 : Int32) (h0f9 : Int32) (h0f17 : Int32) (h0f18 : Int32) (h0f19 : Int32) (h0f24 : Int32) (h0f25 : Int32) (h0f30 : Int32) (h0f31 : Int32) (A : Nat → Prop) (H : Heap) : Prop := TP D A [(h0, ob 8 [.int h0f0, .int h0f1, .int h0f2, .int h0f3, .int h0f4, .int h0f5, .ref h4, .ref h5, .int h0f8, .int h0f9, .ref h3, .ref h2, .ref h1, .ref h6, .ref h7, .ref h8, .ref h9, .int h0f17, .int h0f18, .int h0f19, .ref h10, .ref h11, .ref h12, .ref h13, .int h0f24, .int h0f25, .ref h14, .ref h15, .ref h16, .ref h17, .int h0f30, .int h0f31, .ref h18, .ref h19, .ref h20, .ref h21]), (h1, aJ (k 1) 9 anJ), (h2, aJ (k 1) 9 anJ), (h3, aJ (k 1) 9 anJ)] H
set_option maxHeartbeats 4000000 in
set_option maxRecDepth 100000 in
theorem cX11_times_e15ea (l : Launch) (D : va_G) (k : Nat → ClassId) (sz : Nat) (h0 h1 h2 h3 h4 h5 h6 h7 h8 h9 h10 h11 h12 h13 h14 h15 h16 h17 h18 h19 h20 h21 : Nat) (h0f0 : Int32) (h0f1 : Int32) (h0f2 : Int32) (h0f3 : Int32) (h0f4 : Int32) (h0f5 : Int32) (h0f8 : Int32) (h0f9 : Int32) (h0f17 : Int32) (h0f18 : Int32) (h0f19 : Int32) (h0f24 : Int32) (h0f25 : Int32) (h0f30 : Int32) (h0f31 : Int32) (b_h0f0 : 1 ≤ h0f0.toInt ∧ h0f0.toInt ≤ 3) (b_h0f1 : 0 ≤ h0f1.toInt ∧ h0f1.toInt ≤ 4) (b_h0f3 : 0 ≤ h0f3.toInt ∧ h0f3.toInt ≤ 3) (b_h0f4 : 0 ≤ h0f4.toInt ∧ h0f4.toInt ≤ 4) (b_h0f8 : 0 ≤ h0f8.toInt ∧ h0f8.toInt ≤ 1) (b_h0f9 : 0 ≤ h0f9.toInt ∧ h0f9.toInt ≤ 1) (b_h0f17 : 0 ≤ h0f17.toInt ∧ h0f17.toInt ≤ 120) (b_h0f18 : 0 ≤ h0f18.toInt ∧ h0f18.toInt ≤ 120) (b_h0f19 : 0 ≤ h0f19.toInt ∧ h0f19.toInt ≤ 4) (b_h0f24 : 0 ≤ h0f24.toInt ∧ h0f24.toInt ≤ 100) (b_h0f25 : 0 ≤ h0f25.toInt ∧ h0f25.toInt ≤ 1) (b_h0f30 : 0 ≤ h0f30.toInt ∧ h0f30.toInt ≤ 60) (b_h0f31 : 0 ≤ h0f31.toInt ∧ h0f31.toInt ≤ 1) : Met l yX11_times (Cond.code yX11_times cX11_times 7 none :: uw) Rm_cX11_times_e15ea (pT D k sz [.ref h0, .ref h1, .ref h2, .ref h3] [(h0, ob 8 [.int h0f0, .int h0f1, .int h0f2, .int h0f3, .int h0f4, .int h0f5, .ref h4, .ref h5, .int h0f8, .int h0f9, .ref h3, .ref h2, .ref h1, .ref h6, .ref h7, .ref h8, .ref h9, .int h0f17, .int h0f18, .int h0f19, .ref h10, .ref h11, .ref h12, .ref h13, .int h0f24, .int h0f25, .ref h14, .ref h15, .ref h16, .ref h17, .int h0f30, .int h0f31, .ref h18, .ref h19, .ref h20, .ref h21]), (h1, aJ (k 1) 9 anJ), (h2, aJ (k 1) 9 anJ), (h3, aJ (k 1) 9 anJ)]) (qV (B_cX11_times_e15ea D k h0 h1 h2 h3 h4 h5 h6 h7 h8 h9 h10 h11 h12 h13 h14 h15 h16 h17 h18 h19 h20 h21 h0f0 h0f1 h0f2 h0f3 h0f4 h0f5 h0f8 h0f9 h0f17 h0f18 h0f19 h0f24 h0f25 h0f30 h0f31 (zA [h0, h1, h2, h3] sz)) (zA [h0, h1, h2, h3] sz)) 0 0 (zA [h0, h1, h2, h3] sz) := by
  refine tz_begin (as := [h0, h1, h2, h3]) (Qc := fun A => qV (B_cX11_times_e15ea D k h0 h1 h2 h3 h4 h5 h6 h7 h8 h9 h10 h11 h12 h13 h14 h15 h16 h17 h18 h19 h20 h21 h0f0 h0f1 h0f2 h0f3 h0f4 h0f5 h0f8 h0f9 h0f17 h0f18 h0f19 h0f24 h0f25 h0f30 h0f31 A) A) (by decide +kernel) rfl (Nat.le_of_ble_eq_true rfl) ?_
  intro p e s m args below meth c ls A Q hx hb hr hml hown hlocks hin hU hK hT hS hA hl hQ
  have hl : lv_has ls 7 [(0, .ref h0), (1, .ref h1), (2, .ref h2), (3, .ref h3)] := hl
  have hT : TP D A [(h0, ob 8 [.int h0f0, .int h0f1, .int h0f2, .int h0f3, .int h0f4, .int h0f5, .ref h4, .ref h5, .int h0f8, .int h0f9, .ref h3, .ref h2, .ref h1, .ref h6, .ref h7, .ref h8, .ref h9, .int h0f17, .int h0f18, .int h0f19, .ref h10, .ref h11, .ref h12, .ref h13, .int h0f24, .int h0f25, .ref h14, .ref h15, .ref h16, .ref h17, .int h0f30, .int h0f31, .ref h18, .ref h19, .ref h20, .ref h21]), (h1, aJ (k 1) 9 anJ), (h2, aJ (k 1) 9 anJ), (h3, aJ (k 1) 9 anJ)] s.heap := hT
  refine lv_aload_n hx hb dX11_times_0 rfl (lv_at hl 0 rfl) ?_
  refine lv_aload_n hx hb dX11_times_1 rfl (lv_at hl 3 rfl) ?_
  refine tcV (Tc := [(h0, ob 8 [.int h0f0, .int h0f1, .int h0f2, .int h0f3, .int h0f4, .int h0f5, .ref h4, .ref h5, .int h0f8, .int h0f9, .ref h3, .ref h2, .ref h1, .ref h6, .ref h7, .ref h8, .ref h9, .int h0f17, .int h0f18, .int h0f19, .ref h10, .ref h11, .ref h12, .ref h13, .int h0f24, .int h0f25, .ref h14, .ref h15, .ref h16, .ref h17, .int h0f30, .int h0f31, .ref h18, .ref h19, .ref h20, .ref h21]), (h3, aJ (k 1) 9 anJ)]) (Tr := [(h1, aJ (k 1) 9 anJ), (h2, aJ (k 1) 9 anJ)]) (as := [h0, h3]) (zcV (q0 := 0) (ci := 8) (As := [.ref h3]) (rest := []) (Tc := [(h0, ob 8 [.int h0f0, .int h0f1, .int h0f2, .int h0f3, .int h0f4, .int h0f5, .ref h4, .ref h5, .int h0f8, .int h0f9, .ref h3, .ref h2, .ref h1, .ref h6, .ref h7, .ref h8, .ref h9, .int h0f17, .int h0f18, .int h0f19, .ref h10, .ref h11, .ref h12, .ref h13, .int h0f24, .int h0f25, .ref h14, .ref h15, .ref h16, .ref h17, .int h0f30, .int h0f31, .ref h18, .ref h19, .ref h20, .ref h21]), (h3, aJ (k 1) 9 anJ)]) hx hb hml hown hU hK hT rfl rfl [0, 3] rfl (by decide) (cX11_clears_d3b73 l D k _ h0 h3 h4 h5 h2 h1 h6 h7 h8 h9 h10 h11 h12 h13 h14 h15 h16 h17 h18 h19 h20 h21 h0f0 h0f1 h0f2 h0f3 h0f4 h0f5 h0f8 h0f9 h0f17 h0f18 h0f19 h0f24 h0f25 h0f30 h0f31 (by omega) (by omega) (by omega) (by omega) (by omega) (by omega) (by omega) (by omega) (by omega) (by omega) (by omega) (by omega) (by omega)) w923 w920 w922 w29 w72 hdX11_clears ⟨rfl, rfl⟩ ⟨Nat.le_of_ble_eq_true rfl, Nat.le_of_ble_eq_true rfl⟩ rfl hl.1 (Nat.le_of_ble_eq_true rfl) dX11_times_2 ⟨Nat.le_of_ble_eq_true rfl, Nat.le_of_ble_eq_true rfl⟩) hT hS hA [0, 3] [1, 2] rfl rfl rfl (by decide) (by decide) (fun H locs hB J hS => ?_)
  have hT1 := hB
  have hT := J _ hT1
  have hT : TP D A [(h1, aJ (k 1) 9 anJ), (h2, aJ (k 1) 9 anJ), (h0, ob 8 [.int h0f0, .int h0f1, .int h0f2, .int h0f3, .int h0f4, .int h0f5, .ref h4, .ref h5, .int h0f8, .int h0f9, .ref h3, .ref h2, .ref h1, .ref h6, .ref h7, .ref h8, .ref h9, .int h0f17, .int h0f18, .int h0f19, .ref h10, .ref h11, .ref h12, .ref h13, .int h0f24, .int h0f25, .ref h14, .ref h15, .ref h16, .ref h17, .int h0f30, .int h0f31, .ref h18, .ref h19, .ref h20, .ref h21]), (h3, aJ (k 1) 9 anJ)] H := hT
  refine lv_iconst (v := 0) hx hb dX11_times_5 (by decide) ?_
  refine lv_istore (lv' := [(4, .int 0), (0, .ref h0), (1, .ref h1), (2, .ref h2), (3, .ref h3)]) hx hb dX11_times_6 hl (by decide) rfl (fun ls hl => ?_)
  have lp8_5 : ∀ (n : Nat) (y4 : Int32) (H : Heap) (locs : List Loc) (ls : Array Slot), (0 ≤ y4.toInt ∧ y4.toInt ≤ 3) → (h0f0.toInt + (-1) * y4.toInt + 1).toNat < n → TP D A [(h1, aJ (k 1) 9 anJ), (h2, aJ (k 1) 9 anJ), (h0, ob 8 [.int h0f0, .int h0f1, .int h0f2, .int h0f3, .int h0f4, .int h0f5, .ref h4, .ref h5, .int h0f8, .int h0f9, .ref h3, .ref h2, .ref h1, .ref h6, .ref h7, .ref h8, .ref h9, .int h0f17, .int h0f18, .int h0f19, .ref h10, .ref h11, .ref h12, .ref h13, .int h0f24, .int h0f25, .ref h14, .ref h15, .ref h16, .ref h17, .int h0f30, .int h0f31, .ref h18, .ref h19, .ref h20, .ref h21]), (h3, aJ (k 1) 9 anJ)] H → va_S A s.heap H locs → lv_has ls 7 [(0, .ref h0), (1, .ref h1), (2, .ref h2), (3, .ref h3), (4, .int y4)] → W p l e Rm_cX11_times_e15ea s m args below meth c H locs 0 0 Q (F0 m 8 ls []) := by
    intro n
    induction n with
    | zero => intro y4 H locs ls b_y4 hm hT hS hl; exact absurd hm (Nat.not_lt_zero _)
    | succ n ih =>
      intro y4 H locs ls b_y4 hm hT hS hl
      have ih8_5 := ih
      clear ih
      refine lv_iload hx hb dX11_times_8 (lv_at hl 4 rfl) ?_
      refine lv_aload_n hx hb dX11_times_10 rfl (lv_at hl 0 rfl) ?_
      refine tz_get (ci := 8) (v := .int h0f0) (C := RX11) (F := TX11) (N := 36) hx hb hU iX11 hown hK hT 2 rfl rfl 0 (by decide) w785 (fun _ h9 => h9) rfl dX11_times_11 ?_
      refine lv_icmp_ge (tgt := 90) hx hb dX11_times_14 (by decide) (fun c_6 => ?_) (fun c_6 => ?_)
      · skip
        have c_6 := ni_le c_6 rfl rfl
        exact tz_retV (B := B_cX11_times_e15ea D k h0 h1 h2 h3 h4 h5 h6 h7 h8 h9 h10 h11 h12 h13 h14 h15 h16 h17 h18 h19 h20 h21 h0f0 h0f1 h0f2 h0f3 h0f4 h0f5 h0f8 h0f9 h0f17 h0f18 h0f19 h0f24 h0f25 h0f30 h0f31) hQ hx hb hr hlocks hS (Nat.le_of_ble_eq_true rfl) (Nat.le_of_ble_eq_true rfl) dX11_times_90 ((hT.sub [2, 0, 1, 3] (by decide) rfl))
      · skip
        have c_6 := ni_nle c_6 rfl rfl
        refine lv_iconst (v := 0) hx hb dX11_times_17 (by decide) ?_
        refine lv_istore (lv' := [(5, .int 0), (0, .ref h0), (1, .ref h1), (2, .ref h2), (3, .ref h3), (4, .int y4)]) hx hb dX11_times_18 hl (by decide) rfl (fun ls hl => ?_)
        have lp20_10 : ∀ (n : Nat) (y9 : Int32) (H : Heap) (locs : List Loc) (ls : Array Slot), (0 ≤ y9.toInt ∧ y9.toInt ≤ 3) → (h0f0.toInt + (-1) * y9.toInt + 1).toNat < n → TP D A [(h1, aJ (k 1) 9 anJ), (h2, aJ (k 1) 9 anJ), (h0, ob 8 [.int h0f0, .int h0f1, .int h0f2, .int h0f3, .int h0f4, .int h0f5, .ref h4, .ref h5, .int h0f8, .int h0f9, .ref h3, .ref h2, .ref h1, .ref h6, .ref h7, .ref h8, .ref h9, .int h0f17, .int h0f18, .int h0f19, .ref h10, .ref h11, .ref h12, .ref h13, .int h0f24, .int h0f25, .ref h14, .ref h15, .ref h16, .ref h17, .int h0f30, .int h0f31, .ref h18, .ref h19, .ref h20, .ref h21]), (h3, aJ (k 1) 9 anJ)] H → va_S A s.heap H locs → lv_has ls 7 [(0, .ref h0), (1, .ref h1), (2, .ref h2), (3, .ref h3), (4, .int y4), (5, .int y9)] → W p l e Rm_cX11_times_e15ea s m args below meth c H locs 0 0 Q (F0 m 20 ls []) := by
          intro n
          induction n with
          | zero => intro y9 H locs ls b_y9 hm hT hS hl; exact absurd hm (Nat.not_lt_zero _)
          | succ n ih =>
            intro y9 H locs ls b_y9 hm hT hS hl
            have ih20_10 := ih
            clear ih
            refine lv_iload hx hb dX11_times_20 (lv_at hl 5 rfl) ?_
            refine lv_aload_n hx hb dX11_times_22 rfl (lv_at hl 0 rfl) ?_
            refine tz_get (ci := 8) (v := .int h0f0) (C := RX11) (F := TX11) (N := 36) hx hb hU iX11 hown hK hT 2 rfl rfl 0 (by decide) w785 (fun _ h9 => h9) rfl dX11_times_23 ?_
            refine lv_icmp_ge (tgt := 84) hx hb dX11_times_26 (by decide) (fun c_11 => ?_) (fun c_11 => ?_)
            · skip
              have c_11 := ni_le c_11 rfl rfl
              obtain ⟨v12, e_v12⟩ : ∃ x : Int32, x = y4 + Int32.ofInt 1 := ⟨_, rfl⟩
              have f_v12 := e_v12.symm
              have e_v12 : v12.toInt = y4.toInt + 1 := ai_add e_v12 rfl (show (Int32.ofInt 1).toInt = 1 from (by decide +kernel)) (by omega)
              refine lv_iinc (v := v12) (lv' := [(4, .int v12), (0, .ref h0), (1, .ref h1), (2, .ref h2), (3, .ref h3), (5, .int y9)]) hx hb dX11_times_84 hl (k := 4) rfl f_v12 (by decide) rfl (fun ls hl => ?_)
              refine lv_goto (tgt := 8) hx hb dX11_times_87 (by decide) ?_
              exact ih8_5 v12 _ _ _ (by omega)  (by omega) hT hS (lv_sub hl [1, 2, 3, 4, 0] rfl)
            · skip
              have c_11 := ni_nle c_11 rfl rfl
              refine lv_iconst (v := 0) hx hb dX11_times_29 (by decide) ?_
              refine lv_istore (lv' := [(6, .int 0), (0, .ref h0), (1, .ref h1), (2, .ref h2), (3, .ref h3), (4, .int y4), (5, .int y9)]) hx hb dX11_times_30 hl (by decide) rfl (fun ls hl => ?_)
              have lp32_16 : ∀ (n : Nat) (y15 : Int32) (H : Heap) (locs : List Loc) (ls : Array Slot), (0 ≤ y15.toInt ∧ y15.toInt ≤ 3) → (h0f0.toInt + (-1) * y15.toInt + 1).toNat < n → TP D A [(h1, aJ (k 1) 9 anJ), (h2, aJ (k 1) 9 anJ), (h0, ob 8 [.int h0f0, .int h0f1, .int h0f2, .int h0f3, .int h0f4, .int h0f5, .ref h4, .ref h5, .int h0f8, .int h0f9, .ref h3, .ref h2, .ref h1, .ref h6, .ref h7, .ref h8, .ref h9, .int h0f17, .int h0f18, .int h0f19, .ref h10, .ref h11, .ref h12, .ref h13, .int h0f24, .int h0f25, .ref h14, .ref h15, .ref h16, .ref h17, .int h0f30, .int h0f31, .ref h18, .ref h19, .ref h20, .ref h21]), (h3, aJ (k 1) 9 anJ)] H → va_S A s.heap H locs → lv_has ls 7 [(0, .ref h0), (1, .ref h1), (2, .ref h2), (3, .ref h3), (4, .int y4), (5, .int y9), (6, .int y15)] → W p l e Rm_cX11_times_e15ea s m args below meth c H locs 0 0 Q (F0 m 32 ls []) := by
                intro n
                induction n with
                | zero => intro y15 H locs ls b_y15 hm hT hS hl; exact absurd hm (Nat.not_lt_zero _)
                | succ n ih =>
                  intro y15 H locs ls b_y15 hm hT hS hl
                  have ih32_16 := ih
                  clear ih
                  refine lv_iload hx hb dX11_times_32 (lv_at hl 6 rfl) ?_
                  refine lv_aload_n hx hb dX11_times_34 rfl (lv_at hl 0 rfl) ?_
                  refine tz_get (ci := 8) (v := .int h0f0) (C := RX11) (F := TX11) (N := 36) hx hb hU iX11 hown hK hT 2 rfl rfl 0 (by decide) w785 (fun _ h9 => h9) rfl dX11_times_35 ?_
                  refine lv_icmp_ge (tgt := 78) hx hb dX11_times_38 (by decide) (fun c_17 => ?_) (fun c_17 => ?_)
                  · skip
                    have c_17 := ni_le c_17 rfl rfl
                    obtain ⟨v18, e_v18⟩ : ∃ x : Int32, x = y9 + Int32.ofInt 1 := ⟨_, rfl⟩
                    have f_v18 := e_v18.symm
                    have e_v18 : v18.toInt = y9.toInt + 1 := ai_add e_v18 rfl (show (Int32.ofInt 1).toInt = 1 from (by decide +kernel)) (by omega)
                    refine lv_iinc (v := v18) (lv' := [(5, .int v18), (0, .ref h0), (1, .ref h1), (2, .ref h2), (3, .ref h3), (4, .int y4), (6, .int y15)]) hx hb dX11_times_78 hl (k := 5) rfl f_v18 (by decide) rfl (fun ls hl => ?_)
                    refine lv_goto (tgt := 20) hx hb dX11_times_81 (by decide) ?_
                    exact ih20_10 v18 _ _ _ (by omega)  (by omega) hT hS (lv_sub hl [1, 2, 3, 4, 5, 0] rfl)
                  · skip
                    have c_17 := ni_nle c_17 rfl rfl
                    refine lv_aload_n hx hb dX11_times_41 rfl (lv_at hl 3 rfl) ?_
                    refine lv_iconst (v := 3) hx hb dX11_times_42 (by decide) ?_
                    refine lv_iload hx hb dX11_times_43 (lv_at hl 4 rfl) ?_
                    refine lv_imul hx hb dX11_times_45 (lv_topi (fun v19 e_v19 => ?_))
                    have e_v19 := ai_mul e_v19 li_3 rfl (by omega)
                    refine lv_iload hx hb dX11_times_46 (lv_at hl 5 rfl) ?_
                    refine lv_iadd hx hb dX11_times_48 (lv_topi (fun v20 e_v20 => ?_))
                    have e_v20 := ai_add e_v20 rfl rfl (by omega)
                    refine lv_dup2_11 hx hb dX11_times_49 rfl rfl ?_
                    refine tz_lald hx hb hK hT 3 rfl (by omega) dX11_times_50 (fun v21 e_v21 => ?_)
                    clear e_v21
                    refine lv_aload_n hx hb dX11_times_51 rfl (lv_at hl 1 rfl) ?_
                    refine lv_iconst (v := 3) hx hb dX11_times_52 (by decide) ?_
                    refine lv_iload hx hb dX11_times_53 (lv_at hl 4 rfl) ?_
                    refine lv_imul hx hb dX11_times_55 (lv_topi (fun v22 e_v22 => ?_))
                    have e_v22 := ai_mul e_v22 li_3 rfl (by omega)
                    refine lv_iload hx hb dX11_times_56 (lv_at hl 6 rfl) ?_
                    refine lv_iadd hx hb dX11_times_58 (lv_topi (fun v23 e_v23 => ?_))
                    have e_v23 := ai_add e_v23 rfl rfl (by omega)
                    refine tz_lald hx hb hK hT 0 rfl (by omega) dX11_times_59 (fun v24 e_v24 => ?_)
                    clear e_v24
                    refine lv_aload_n hx hb dX11_times_60 rfl (lv_at hl 2 rfl) ?_
                    refine lv_iconst (v := 3) hx hb dX11_times_61 (by decide) ?_
                    refine lv_iload hx hb dX11_times_62 (lv_at hl 6 rfl) ?_
                    refine lv_imul hx hb dX11_times_64 (lv_topi (fun v25 e_v25 => ?_))
                    have e_v25 := ai_mul e_v25 li_3 rfl (by omega)
                    refine lv_iload hx hb dX11_times_65 (lv_at hl 5 rfl) ?_
                    refine lv_iadd hx hb dX11_times_67 (lv_topi (fun v26 e_v26 => ?_))
                    have e_v26 := ai_add e_v26 rfl rfl (by omega)
                    refine tz_lald hx hb hK hT 1 rfl (by omega) dX11_times_68 (fun v27 e_v27 => ?_)
                    clear e_v27
                    refine lv_lmul hx hb dX11_times_69 (lv_topl (fun v28 e_v28 => ?_))
                    refine lv_ladd hx hb dX11_times_70 (lv_topl (fun v29 e_v29 => ?_))
                    refine tz_last hx hb hK hT hS 3 rfl (by omega) (fun _ _ => trivial) dX11_times_71 (fun H locs hT hS => ?_)
                    obtain ⟨v30, e_v30⟩ : ∃ x : Int32, x = y15 + Int32.ofInt 1 := ⟨_, rfl⟩
                    have f_v30 := e_v30.symm
                    have e_v30 : v30.toInt = y15.toInt + 1 := ai_add e_v30 rfl (show (Int32.ofInt 1).toInt = 1 from (by decide +kernel)) (by omega)
                    refine lv_iinc (v := v30) (lv' := [(6, .int v30), (0, .ref h0), (1, .ref h1), (2, .ref h2), (3, .ref h3), (4, .int y4), (5, .int y9)]) hx hb dX11_times_72 hl (k := 6) rfl f_v30 (by decide) rfl (fun ls hl => ?_)
                    refine lv_goto (tgt := 32) hx hb dX11_times_75 (by decide) ?_
                    exact ih32_16 v30 _ _ _ (by omega)  (by omega) hT hS (lv_sub hl [1, 2, 3, 4, 5, 6, 0] rfl)
              exact lp32_16 ((h0f0.toInt + (-1) * (0 : Int32).toInt + 1).toNat + 1) (0) _ _ _ (by have := li_0; omega)  (Nat.lt_succ_self _) hT hS (lv_sub hl [1, 2, 3, 4, 5, 6, 0] rfl)
        exact lp20_10 ((h0f0.toInt + (-1) * (0 : Int32).toInt + 1).toNat + 1) (0) _ _ _ (by have := li_0; omega)  (Nat.lt_succ_self _) hT hS (lv_sub hl [1, 2, 3, 4, 5, 0] rfl)
  exact lp8_5 ((h0f0.toInt + (-1) * (0 : Int32).toInt + 1).toNat + 1) (0) _ _ _ (by have := li_0; omega)  (Nat.lt_succ_self _) hT hS (lv_sub hl [1, 2, 3, 4, 0] rfl)
abbrev Rm_cX11_clears_d9350 : Room := { frames := 0, cells := 0, slots := 0, locals := 0 }
abbrev B_cX11_clears_d9350 (D : va_G) (k : Nat → ClassId) (h0 h1 h2 h3 h4 h5 h6 h7 h8 h9 h10 h11 h12 h13 h14 h15 h16 h17 h18 h19 h20 h21 : Nat) (h0f0 : Int32) (h0f1 : Int32) (h0f2 : Int32) (h0f3 : Int32) (h0f4 : Int32) (h0f5 : Int32) (h0f8 : Int32) (h0f9 : Int32) (h0f17 : Int32) (h0f18 : Int32) (h0f19 : Int32) (h0f24 : Int32) (h0f25 : Int32) (h0f30 : Int32) (h0f31 : Int32) (A : Nat → Prop) (H : Heap) : Prop := TP D A [(h0, ob 8 [.int h0f0, .int h0f1, .int h0f2, .int h0f3, .int h0f4, .int h0f5, .ref h2, .ref h3, .int h0f8, .int h0f9, .ref h4, .ref h5, .ref h6, .ref h1, .ref h7, .ref h8, .ref h9, .int h0f17, .int h0f18, .int h0f19, .ref h10, .ref h11, .ref h12, .ref h13, .int h0f24, .int h0f25, .ref h14, .ref h15, .ref h16, .ref h17, .int h0f30, .int h0f31, .ref h18, .ref h19, .ref h20, .ref h21]), (h1, aJ (k 1) 9 anJ)] H
set_option maxHeartbeats 4000000 in
set_option maxRecDepth 100000 in
theorem cX11_clears_d9350 (l : Launch) (D : va_G) (k : Nat → ClassId) (sz : Nat) (h0 h1 h2 h3 h4 h5 h6 h7 h8 h9 h10 h11 h12 h13 h14 h15 h16 h17 h18 h19 h20 h21 : Nat) (h0f0 : Int32) (h0f1 : Int32) (h0f2 : Int32) (h0f3 : Int32) (h0f4 : Int32) (h0f5 : Int32) (h0f8 : Int32) (h0f9 : Int32) (h0f17 : Int32) (h0f18 : Int32) (h0f19 : Int32) (h0f24 : Int32) (h0f25 : Int32) (h0f30 : Int32) (h0f31 : Int32) (b_h0f0 : 1 ≤ h0f0.toInt ∧ h0f0.toInt ≤ 3) (b_h0f1 : 0 ≤ h0f1.toInt ∧ h0f1.toInt ≤ 4) (b_h0f3 : 0 ≤ h0f3.toInt ∧ h0f3.toInt ≤ 3) (b_h0f4 : 0 ≤ h0f4.toInt ∧ h0f4.toInt ≤ 4) (b_h0f8 : 0 ≤ h0f8.toInt ∧ h0f8.toInt ≤ 1) (b_h0f9 : 0 ≤ h0f9.toInt ∧ h0f9.toInt ≤ 1) (b_h0f17 : 0 ≤ h0f17.toInt ∧ h0f17.toInt ≤ 120) (b_h0f18 : 0 ≤ h0f18.toInt ∧ h0f18.toInt ≤ 120) (b_h0f19 : 0 ≤ h0f19.toInt ∧ h0f19.toInt ≤ 4) (b_h0f24 : 0 ≤ h0f24.toInt ∧ h0f24.toInt ≤ 100) (b_h0f25 : 0 ≤ h0f25.toInt ∧ h0f25.toInt ≤ 1) (b_h0f30 : 0 ≤ h0f30.toInt ∧ h0f30.toInt ≤ 60) (b_h0f31 : 0 ≤ h0f31.toInt ∧ h0f31.toInt ≤ 1) : Met l yX11_clears (Cond.code yX11_clears cX11_clears 3 none :: uw) Rm_cX11_clears_d9350 (pT D k sz [.ref h0, .ref h1] [(h0, ob 8 [.int h0f0, .int h0f1, .int h0f2, .int h0f3, .int h0f4, .int h0f5, .ref h2, .ref h3, .int h0f8, .int h0f9, .ref h4, .ref h5, .ref h6, .ref h1, .ref h7, .ref h8, .ref h9, .int h0f17, .int h0f18, .int h0f19, .ref h10, .ref h11, .ref h12, .ref h13, .int h0f24, .int h0f25, .ref h14, .ref h15, .ref h16, .ref h17, .int h0f30, .int h0f31, .ref h18, .ref h19, .ref h20, .ref h21]), (h1, aJ (k 1) 9 anJ)]) (qV (B_cX11_clears_d9350 D k h0 h1 h2 h3 h4 h5 h6 h7 h8 h9 h10 h11 h12 h13 h14 h15 h16 h17 h18 h19 h20 h21 h0f0 h0f1 h0f2 h0f3 h0f4 h0f5 h0f8 h0f9 h0f17 h0f18 h0f19 h0f24 h0f25 h0f30 h0f31 (zA [h0, h1] sz)) (zA [h0, h1] sz)) 0 0 (zA [h0, h1] sz) := by
  refine tz_begin (as := [h0, h1]) (Qc := fun A => qV (B_cX11_clears_d9350 D k h0 h1 h2 h3 h4 h5 h6 h7 h8 h9 h10 h11 h12 h13 h14 h15 h16 h17 h18 h19 h20 h21 h0f0 h0f1 h0f2 h0f3 h0f4 h0f5 h0f8 h0f9 h0f17 h0f18 h0f19 h0f24 h0f25 h0f30 h0f31 A) A) (by decide +kernel) rfl (Nat.le_of_ble_eq_true rfl) ?_
  intro p e s m args below meth c ls A Q hx hb hr hml hown hlocks hin hU hK hT hS hA hl hQ
  have hl : lv_has ls 3 [(0, .ref h0), (1, .ref h1)] := hl
  have hT : TP D A [(h0, ob 8 [.int h0f0, .int h0f1, .int h0f2, .int h0f3, .int h0f4, .int h0f5, .ref h2, .ref h3, .int h0f8, .int h0f9, .ref h4, .ref h5, .ref h6, .ref h1, .ref h7, .ref h8, .ref h9, .int h0f17, .int h0f18, .int h0f19, .ref h10, .ref h11, .ref h12, .ref h13, .int h0f24, .int h0f25, .ref h14, .ref h15, .ref h16, .ref h17, .int h0f30, .int h0f31, .ref h18, .ref h19, .ref h20, .ref h21]), (h1, aJ (k 1) 9 anJ)] s.heap := hT
  refine lv_iconst (v := 0) hx hb dX11_clears_0 (by decide) ?_
  refine lv_istore_n (lv' := [(2, .int 0), (0, .ref h0), (1, .ref h1)]) hx hb dX11_clears_1 rfl hl (by decide) rfl (fun ls hl => ?_)
  have lp2_8 : ∀ (n : Nat) (y7 : Int32) (H : Heap) (locs : List Loc) (ls : Array Slot), (0 ≤ y7.toInt ∧ y7.toInt ≤ 9) → ((-1) * y7.toInt + 9 + 1).toNat < n → TP D A [(h0, ob 8 [.int h0f0, .int h0f1, .int h0f2, .int h0f3, .int h0f4, .int h0f5, .ref h2, .ref h3, .int h0f8, .int h0f9, .ref h4, .ref h5, .ref h6, .ref h1, .ref h7, .ref h8, .ref h9, .int h0f17, .int h0f18, .int h0f19, .ref h10, .ref h11, .ref h12, .ref h13, .int h0f24, .int h0f25, .ref h14, .ref h15, .ref h16, .ref h17, .int h0f30, .int h0f31, .ref h18, .ref h19, .ref h20, .ref h21]), (h1, aJ (k 1) 9 anJ)] H → va_S A s.heap H locs → lv_has ls 3 [(1, .ref h1), (2, .int y7)] → W p l e Rm_cX11_clears_d9350 s m args below meth c H locs 0 0 Q (F0 m 2 ls []) := by
    intro n
    induction n with
    | zero => intro y7 H locs ls b_y7 hm hT hS hl; exact absurd hm (Nat.not_lt_zero _)
    | succ n ih =>
      intro y7 H locs ls b_y7 hm hT hS hl
      have ih2_8 := ih
      clear ih
      refine lv_iload_n hx hb dX11_clears_2 rfl (lv_at hl 1 rfl) ?_
      refine lv_bipush (v := 9) hx hb dX11_clears_3 (by decide) ?_
      refine lv_icmp_ge (tgt := 18) hx hb dX11_clears_5 (by decide) (fun c_9 => ?_) (fun c_9 => ?_)
      · skip
        have c_9 := ni_le c_9 li_9 rfl
        exact tz_retV (B := B_cX11_clears_d9350 D k h0 h1 h2 h3 h4 h5 h6 h7 h8 h9 h10 h11 h12 h13 h14 h15 h16 h17 h18 h19 h20 h21 h0f0 h0f1 h0f2 h0f3 h0f4 h0f5 h0f8 h0f9 h0f17 h0f18 h0f19 h0f24 h0f25 h0f30 h0f31) hQ hx hb hr hlocks hS (Nat.le_of_ble_eq_true rfl) (Nat.le_of_ble_eq_true rfl) dX11_clears_18 (hT)
      · skip
        have c_9 := ni_nle c_9 li_9 rfl
        refine lv_aload_n hx hb dX11_clears_8 rfl (lv_at hl 0 rfl) ?_
        refine lv_iload_n hx hb dX11_clears_9 rfl (lv_at hl 1 rfl) ?_
        refine lv_lconst (v := 0) hx hb dX11_clears_10 (by decide) ?_
        refine tz_last hx hb hK hT hS 1 rfl (by omega) (fun _ _ => trivial) dX11_clears_11 (fun H locs hT hS => ?_)
        obtain ⟨v10, e_v10⟩ : ∃ x : Int32, x = y7 + Int32.ofInt 1 := ⟨_, rfl⟩
        have f_v10 := e_v10.symm
        have e_v10 : v10.toInt = y7.toInt + 1 := ai_add e_v10 rfl (show (Int32.ofInt 1).toInt = 1 from (by decide +kernel)) (by omega)
        refine lv_iinc (v := v10) (lv' := [(2, .int v10), (1, .ref h1)]) hx hb dX11_clears_12 hl (k := 1) rfl f_v10 (by decide) rfl (fun ls hl => ?_)
        refine lv_goto (tgt := 2) hx hb dX11_clears_15 (by decide) ?_
        exact ih2_8 v10 _ _ _ (by omega)  (by omega) hT hS (lv_sub hl [1, 0] rfl)
  exact lp2_8 (((-1) * (0 : Int32).toInt + 9 + 1).toNat + 1) (0) _ _ _ (by have := li_0; omega)  (Nat.lt_succ_self _) hT hS (lv_sub hl [2, 0] rfl)
abbrev Rm_cX11_first_cf9f0 : Room := { frames := 1, cells := 0, slots := 0, locals := 22 }
abbrev B_cX11_first_cf9f0 (D : va_G) (k : Nat → ClassId) (h0 h1 h2 h3 h4 h5 h6 h7 h8 h9 h10 h11 h12 h13 h14 h15 h16 h17 h18 h19 h20 h21 : Nat) (h0f0 : Int32) (h0f1 : Int32) (h0f2 : Int32) (h0f3 : Int32) (h0f4 : Int32) (h0f5 : Int32) (h0f8 : Int32) (h0f9 : Int32) (h0f17 : Int32) (h0f18 : Int32) (h0f19 : Int32) (h0f24 : Int32) (h0f25 : Int32) (h0f30 : Int32) (h0f31 : Int32) (A : Nat → Prop) (H : Heap) : Prop := TP D A [(h0, ob 8 [.int h0f0, .int h0f1, .int h0f2, .int h0f3, .int h0f4, .int h0f5, .ref h2, .ref h3, .int h0f8, .int h0f9, .ref h4, .ref h5, .ref h6, .ref h1, .ref h7, .ref h8, .ref h9, .int h0f17, .int h0f18, .int h0f19, .ref h10, .ref h11, .ref h12, .ref h13, .int h0f24, .int h0f25, .ref h14, .ref h15, .ref h16, .ref h17, .int h0f30, .int h0f31, .ref h18, .ref h19, .ref h20, .ref h21]), (h1, aJ (k 1) 9 anJ)] H
set_option maxHeartbeats 4000000 in
set_option maxRecDepth 100000 in
theorem cX11_first_cf9f0 (l : Launch) (D : va_G) (k : Nat → ClassId) (sz : Nat) (h0 h1 h2 h3 h4 h5 h6 h7 h8 h9 h10 h11 h12 h13 h14 h15 h16 h17 h18 h19 h20 h21 : Nat) (h0f0 : Int32) (h0f1 : Int32) (h0f2 : Int32) (h0f3 : Int32) (h0f4 : Int32) (h0f5 : Int32) (h0f8 : Int32) (h0f9 : Int32) (h0f17 : Int32) (h0f18 : Int32) (h0f19 : Int32) (h0f24 : Int32) (h0f25 : Int32) (h0f30 : Int32) (h0f31 : Int32) (b_h0f0 : 1 ≤ h0f0.toInt ∧ h0f0.toInt ≤ 3) (b_h0f1 : 0 ≤ h0f1.toInt ∧ h0f1.toInt ≤ 4) (b_h0f3 : 0 ≤ h0f3.toInt ∧ h0f3.toInt ≤ 3) (b_h0f4 : 0 ≤ h0f4.toInt ∧ h0f4.toInt ≤ 4) (b_h0f8 : 0 ≤ h0f8.toInt ∧ h0f8.toInt ≤ 1) (b_h0f9 : 0 ≤ h0f9.toInt ∧ h0f9.toInt ≤ 1) (b_h0f17 : 0 ≤ h0f17.toInt ∧ h0f17.toInt ≤ 120) (b_h0f18 : 0 ≤ h0f18.toInt ∧ h0f18.toInt ≤ 120) (b_h0f19 : 0 ≤ h0f19.toInt ∧ h0f19.toInt ≤ 4) (b_h0f24 : 0 ≤ h0f24.toInt ∧ h0f24.toInt ≤ 100) (b_h0f25 : 0 ≤ h0f25.toInt ∧ h0f25.toInt ≤ 1) (b_h0f30 : 0 ≤ h0f30.toInt ∧ h0f30.toInt ≤ 60) (b_h0f31 : 0 ≤ h0f31.toInt ∧ h0f31.toInt ≤ 1) : Met l yX11_first (Cond.code yX11_first cX11_first 3 none :: uw) Rm_cX11_first_cf9f0 (pT D k sz [.ref h0, .ref h1] [(h0, ob 8 [.int h0f0, .int h0f1, .int h0f2, .int h0f3, .int h0f4, .int h0f5, .ref h2, .ref h3, .int h0f8, .int h0f9, .ref h4, .ref h5, .ref h6, .ref h1, .ref h7, .ref h8, .ref h9, .int h0f17, .int h0f18, .int h0f19, .ref h10, .ref h11, .ref h12, .ref h13, .int h0f24, .int h0f25, .ref h14, .ref h15, .ref h16, .ref h17, .int h0f30, .int h0f31, .ref h18, .ref h19, .ref h20, .ref h21]), (h1, aJ (k 1) 9 anJ)]) (qV (B_cX11_first_cf9f0 D k h0 h1 h2 h3 h4 h5 h6 h7 h8 h9 h10 h11 h12 h13 h14 h15 h16 h17 h18 h19 h20 h21 h0f0 h0f1 h0f2 h0f3 h0f4 h0f5 h0f8 h0f9 h0f17 h0f18 h0f19 h0f24 h0f25 h0f30 h0f31 (zA [h0, h1] sz)) (zA [h0, h1] sz)) 0 0 (zA [h0, h1] sz) := by
  refine tz_begin (as := [h0, h1]) (Qc := fun A => qV (B_cX11_first_cf9f0 D k h0 h1 h2 h3 h4 h5 h6 h7 h8 h9 h10 h11 h12 h13 h14 h15 h16 h17 h18 h19 h20 h21 h0f0 h0f1 h0f2 h0f3 h0f4 h0f5 h0f8 h0f9 h0f17 h0f18 h0f19 h0f24 h0f25 h0f30 h0f31 A) A) (by decide +kernel) rfl (Nat.le_of_ble_eq_true rfl) ?_
  intro p e s m args below meth c ls A Q hx hb hr hml hown hlocks hin hU hK hT hS hA hl hQ
  have hl : lv_has ls 3 [(0, .ref h0), (1, .ref h1)] := hl
  have hT : TP D A [(h0, ob 8 [.int h0f0, .int h0f1, .int h0f2, .int h0f3, .int h0f4, .int h0f5, .ref h2, .ref h3, .int h0f8, .int h0f9, .ref h4, .ref h5, .ref h6, .ref h1, .ref h7, .ref h8, .ref h9, .int h0f17, .int h0f18, .int h0f19, .ref h10, .ref h11, .ref h12, .ref h13, .int h0f24, .int h0f25, .ref h14, .ref h15, .ref h16, .ref h17, .int h0f30, .int h0f31, .ref h18, .ref h19, .ref h20, .ref h21]), (h1, aJ (k 1) 9 anJ)] s.heap := hT
  refine lv_aload_n hx hb dX11_first_0 rfl (lv_at hl 0 rfl) ?_
  refine lv_aload_n hx hb dX11_first_1 rfl (lv_at hl 1 rfl) ?_
  refine tcV (Tc := [(h0, ob 8 [.int h0f0, .int h0f1, .int h0f2, .int h0f3, .int h0f4, .int h0f5, .ref h2, .ref h3, .int h0f8, .int h0f9, .ref h4, .ref h5, .ref h6, .ref h1, .ref h7, .ref h8, .ref h9, .int h0f17, .int h0f18, .int h0f19, .ref h10, .ref h11, .ref h12, .ref h13, .int h0f24, .int h0f25, .ref h14, .ref h15, .ref h16, .ref h17, .int h0f30, .int h0f31, .ref h18, .ref h19, .ref h20, .ref h21]), (h1, aJ (k 1) 9 anJ)]) (Tr := []) (as := [h0, h1]) (zcV (q0 := 0) (ci := 8) (As := [.ref h1]) (rest := []) (Tc := [(h0, ob 8 [.int h0f0, .int h0f1, .int h0f2, .int h0f3, .int h0f4, .int h0f5, .ref h2, .ref h3, .int h0f8, .int h0f9, .ref h4, .ref h5, .ref h6, .ref h1, .ref h7, .ref h8, .ref h9, .int h0f17, .int h0f18, .int h0f19, .ref h10, .ref h11, .ref h12, .ref h13, .int h0f24, .int h0f25, .ref h14, .ref h15, .ref h16, .ref h17, .int h0f30, .int h0f31, .ref h18, .ref h19, .ref h20, .ref h21]), (h1, aJ (k 1) 9 anJ)]) hx hb hml hown hU hK hT rfl rfl [0, 1] rfl (by decide) (cX11_clears_d9350 l D k _ h0 h1 h2 h3 h4 h5 h6 h7 h8 h9 h10 h11 h12 h13 h14 h15 h16 h17 h18 h19 h20 h21 h0f0 h0f1 h0f2 h0f3 h0f4 h0f5 h0f8 h0f9 h0f17 h0f18 h0f19 h0f24 h0f25 h0f30 h0f31 (by omega) (by omega) (by omega) (by omega) (by omega) (by omega) (by omega) (by omega) (by omega) (by omega) (by omega) (by omega) (by omega)) w923 w920 w922 w29 w72 hdX11_clears ⟨rfl, rfl⟩ ⟨Nat.le_of_ble_eq_true rfl, Nat.le_of_ble_eq_true rfl⟩ rfl hl.1 (Nat.le_of_ble_eq_true rfl) dX11_first_2 ⟨Nat.le_of_ble_eq_true rfl, Nat.le_of_ble_eq_true rfl⟩) hT hS hA [0, 1] [] rfl rfl rfl (by decide) (by decide) (fun H locs hB J hS => ?_)
  have hT1 := hB
  have hT := J _ hT1
  have hT : TP D A [(h0, ob 8 [.int h0f0, .int h0f1, .int h0f2, .int h0f3, .int h0f4, .int h0f5, .ref h2, .ref h3, .int h0f8, .int h0f9, .ref h4, .ref h5, .ref h6, .ref h1, .ref h7, .ref h8, .ref h9, .int h0f17, .int h0f18, .int h0f19, .ref h10, .ref h11, .ref h12, .ref h13, .int h0f24, .int h0f25, .ref h14, .ref h15, .ref h16, .ref h17, .int h0f30, .int h0f31, .ref h18, .ref h19, .ref h20, .ref h21]), (h1, aJ (k 1) 9 anJ)] H := hT
  refine lv_iconst (v := 0) hx hb dX11_first_5 (by decide) ?_
  refine lv_istore_n (lv' := [(2, .int 0), (0, .ref h0), (1, .ref h1)]) hx hb dX11_first_6 rfl hl (by decide) rfl (fun ls hl => ?_)
  have lp7_5 : ∀ (n : Nat) (y4 : Int32) (H : Heap) (locs : List Loc) (ls : Array Slot), (0 ≤ y4.toInt ∧ y4.toInt ≤ 3) → (h0f0.toInt + (-1) * y4.toInt + 1).toNat < n → TP D A [(h0, ob 8 [.int h0f0, .int h0f1, .int h0f2, .int h0f3, .int h0f4, .int h0f5, .ref h2, .ref h3, .int h0f8, .int h0f9, .ref h4, .ref h5, .ref h6, .ref h1, .ref h7, .ref h8, .ref h9, .int h0f17, .int h0f18, .int h0f19, .ref h10, .ref h11, .ref h12, .ref h13, .int h0f24, .int h0f25, .ref h14, .ref h15, .ref h16, .ref h17, .int h0f30, .int h0f31, .ref h18, .ref h19, .ref h20, .ref h21]), (h1, aJ (k 1) 9 anJ)] H → va_S A s.heap H locs → lv_has ls 3 [(0, .ref h0), (1, .ref h1), (2, .int y4)] → W p l e Rm_cX11_first_cf9f0 s m args below meth c H locs 0 0 Q (F0 m 7 ls []) := by
    intro n
    induction n with
    | zero => intro y4 H locs ls b_y4 hm hT hS hl; exact absurd hm (Nat.not_lt_zero _)
    | succ n ih =>
      intro y4 H locs ls b_y4 hm hT hS hl
      have ih7_5 := ih
      clear ih
      refine lv_iload_n hx hb dX11_first_7 rfl (lv_at hl 2 rfl) ?_
      refine lv_aload_n hx hb dX11_first_8 rfl (lv_at hl 0 rfl) ?_
      refine tz_get (ci := 8) (v := .int h0f0) (C := RX11) (F := TX11) (N := 36) hx hb hU iX11 hown hK hT 0 rfl rfl 0 (by decide) w785 (fun _ h9 => h9) rfl dX11_first_9 ?_
      refine lv_icmp_ge (tgt := 27) hx hb dX11_first_12 (by decide) (fun c_6 => ?_) (fun c_6 => ?_)
      · skip
        have c_6 := ni_le c_6 rfl rfl
        exact tz_retV (B := B_cX11_first_cf9f0 D k h0 h1 h2 h3 h4 h5 h6 h7 h8 h9 h10 h11 h12 h13 h14 h15 h16 h17 h18 h19 h20 h21 h0f0 h0f1 h0f2 h0f3 h0f4 h0f5 h0f8 h0f9 h0f17 h0f18 h0f19 h0f24 h0f25 h0f30 h0f31) hQ hx hb hr hlocks hS (Nat.le_of_ble_eq_true rfl) (Nat.le_of_ble_eq_true rfl) dX11_first_27 (hT)
      · skip
        have c_6 := ni_nle c_6 rfl rfl
        refine lv_aload_n hx hb dX11_first_15 rfl (lv_at hl 1 rfl) ?_
        refine lv_iconst (v := 4) hx hb dX11_first_16 (by decide) ?_
        refine lv_iload_n hx hb dX11_first_17 rfl (lv_at hl 2 rfl) ?_
        refine lv_imul hx hb dX11_first_18 (lv_topi (fun v7 e_v7 => ?_))
        have e_v7 := ai_mul e_v7 li_4 rfl (by omega)
        refine lv_lconst (v := 1) hx hb dX11_first_19 (by decide) ?_
        refine tz_last hx hb hK hT hS 1 rfl (by omega) (fun _ _ => trivial) dX11_first_20 (fun H locs hT hS => ?_)
        obtain ⟨v8, e_v8⟩ : ∃ x : Int32, x = y4 + Int32.ofInt 1 := ⟨_, rfl⟩
        have f_v8 := e_v8.symm
        have e_v8 : v8.toInt = y4.toInt + 1 := ai_add e_v8 rfl (show (Int32.ofInt 1).toInt = 1 from (by decide +kernel)) (by omega)
        refine lv_iinc (v := v8) (lv' := [(2, .int v8), (0, .ref h0), (1, .ref h1)]) hx hb dX11_first_21 hl (k := 2) rfl f_v8 (by decide) rfl (fun ls hl => ?_)
        refine lv_goto (tgt := 7) hx hb dX11_first_24 (by decide) ?_
        exact ih7_5 v8 _ _ _ (by omega)  (by omega) hT hS (lv_sub hl [1, 2, 0] rfl)
  exact lp7_5 ((h0f0.toInt + (-1) * (0 : Int32).toInt + 1).toNat + 1) (0) _ _ _ (by have := li_0; omega)  (Nat.lt_succ_self _) hT hS (lv_sub hl [1, 2, 0] rfl)
abbrev Rm_cX11_isFirst_7fc8c : Room := { frames := 2, cells := 0, slots := 0, locals := 44 }
abbrev B_cX11_isFirst_7fc8c (D : va_G) (k : Nat → ClassId) (h0 h1 h6 h2 h3 h4 h5 h7 h8 h9 h10 h11 h12 h13 h14 h15 h16 h17 h18 h19 h20 h21 : Nat) (h0f0 : Int32) (h0f1 : Int32) (h0f2 : Int32) (h0f3 : Int32) (h0f4 : Int32) (h0f5 : Int32) (h0f8 : Int32) (h0f9 : Int32) (h0f17 : Int32) (h0f18 : Int32) (h0f19 : Int32) (h0f24 : Int32) (h0f25 : Int32) (h0f30 : Int32) (h0f31 : Int32) (A : Nat → Prop) (r : Int32) (H : Heap) : Prop := (0 ≤ r.toInt ∧ r.toInt ≤ 1) ∧ TP D A [(h0, ob 8 [.int h0f0, .int h0f1, .int h0f2, .int h0f3, .int h0f4, .int h0f5, .ref h2, .ref h3, .int h0f8, .int h0f9, .ref h4, .ref h5, .ref h1, .ref h6, .ref h7, .ref h8, .ref h9, .int h0f17, .int h0f18, .int h0f19, .ref h10, .ref h11, .ref h12, .ref h13, .int h0f24, .int h0f25, .ref h14, .ref h15, .ref h16, .ref h17, .int h0f30, .int h0f31, .ref h18, .ref h19, .ref h20, .ref h21]), (h1, aJ (k 1) 9 anJ), (h6, aJ (k 1) 9 anJ)] H
set_option maxHeartbeats 4000000 in
set_option maxRecDepth 100000 in
theorem cX11_isFirst_7fc8c (l : Launch) (D : va_G) (k : Nat → ClassId) (sz : Nat) (h0 h1 h6 h2 h3 h4 h5 h7 h8 h9 h10 h11 h12 h13 h14 h15 h16 h17 h18 h19 h20 h21 : Nat) (h0f0 : Int32) (h0f1 : Int32) (h0f2 : Int32) (h0f3 : Int32) (h0f4 : Int32) (h0f5 : Int32) (h0f8 : Int32) (h0f9 : Int32) (h0f17 : Int32) (h0f18 : Int32) (h0f19 : Int32) (h0f24 : Int32) (h0f25 : Int32) (h0f30 : Int32) (h0f31 : Int32) (b_h0f0 : 1 ≤ h0f0.toInt ∧ h0f0.toInt ≤ 3) (b_h0f1 : 0 ≤ h0f1.toInt ∧ h0f1.toInt ≤ 4) (b_h0f3 : 0 ≤ h0f3.toInt ∧ h0f3.toInt ≤ 3) (b_h0f4 : 0 ≤ h0f4.toInt ∧ h0f4.toInt ≤ 4) (b_h0f8 : 0 ≤ h0f8.toInt ∧ h0f8.toInt ≤ 1) (b_h0f9 : 0 ≤ h0f9.toInt ∧ h0f9.toInt ≤ 1) (b_h0f17 : 0 ≤ h0f17.toInt ∧ h0f17.toInt ≤ 120) (b_h0f18 : 0 ≤ h0f18.toInt ∧ h0f18.toInt ≤ 120) (b_h0f19 : 0 ≤ h0f19.toInt ∧ h0f19.toInt ≤ 4) (b_h0f24 : 0 ≤ h0f24.toInt ∧ h0f24.toInt ≤ 100) (b_h0f25 : 0 ≤ h0f25.toInt ∧ h0f25.toInt ≤ 1) (b_h0f30 : 0 ≤ h0f30.toInt ∧ h0f30.toInt ≤ 60) (b_h0f31 : 0 ≤ h0f31.toInt ∧ h0f31.toInt ≤ 1) : Met l yX11_isFirst (Cond.code yX11_isFirst cX11_isFirst 4 (some .boolean) :: uw) Rm_cX11_isFirst_7fc8c (pT D k sz [.ref h0, .ref h1] [(h0, ob 8 [.int h0f0, .int h0f1, .int h0f2, .int h0f3, .int h0f4, .int h0f5, .ref h2, .ref h3, .int h0f8, .int h0f9, .ref h4, .ref h5, .ref h1, .ref h6, .ref h7, .ref h8, .ref h9, .int h0f17, .int h0f18, .int h0f19, .ref h10, .ref h11, .ref h12, .ref h13, .int h0f24, .int h0f25, .ref h14, .ref h15, .ref h16, .ref h17, .int h0f30, .int h0f31, .ref h18, .ref h19, .ref h20, .ref h21]), (h1, aJ (k 1) 9 anJ), (h6, aJ (k 1) 9 anJ)]) (qI (B_cX11_isFirst_7fc8c D k h0 h1 h6 h2 h3 h4 h5 h7 h8 h9 h10 h11 h12 h13 h14 h15 h16 h17 h18 h19 h20 h21 h0f0 h0f1 h0f2 h0f3 h0f4 h0f5 h0f8 h0f9 h0f17 h0f18 h0f19 h0f24 h0f25 h0f30 h0f31 (zA [h0, h1, h6] sz)) (zA [h0, h1, h6] sz)) 0 0 (zA [h0, h1, h6] sz) := by
  refine tz_begin (as := [h0, h1, h6]) (Qc := fun A => qI (B_cX11_isFirst_7fc8c D k h0 h1 h6 h2 h3 h4 h5 h7 h8 h9 h10 h11 h12 h13 h14 h15 h16 h17 h18 h19 h20 h21 h0f0 h0f1 h0f2 h0f3 h0f4 h0f5 h0f8 h0f9 h0f17 h0f18 h0f19 h0f24 h0f25 h0f30 h0f31 A) A) (by decide +kernel) rfl (Nat.le_of_ble_eq_true rfl) ?_
  intro p e s m args below meth c ls A Q hx hb hr hml hown hlocks hin hU hK hT hS hA hl hQ
  have hl : lv_has ls 4 [(0, .ref h0), (1, .ref h1)] := hl
  have hT : TP D A [(h0, ob 8 [.int h0f0, .int h0f1, .int h0f2, .int h0f3, .int h0f4, .int h0f5, .ref h2, .ref h3, .int h0f8, .int h0f9, .ref h4, .ref h5, .ref h1, .ref h6, .ref h7, .ref h8, .ref h9, .int h0f17, .int h0f18, .int h0f19, .ref h10, .ref h11, .ref h12, .ref h13, .int h0f24, .int h0f25, .ref h14, .ref h15, .ref h16, .ref h17, .int h0f30, .int h0f31, .ref h18, .ref h19, .ref h20, .ref h21]), (h1, aJ (k 1) 9 anJ), (h6, aJ (k 1) 9 anJ)] s.heap := hT
  refine lv_aload_n hx hb dX11_isFirst_0 rfl (lv_at hl 0 rfl) ?_
  refine lv_aload_n hx hb dX11_isFirst_1 rfl (lv_at hl 0 rfl) ?_
  refine tz_get (ci := 8) (v := .ref h6) (C := RX11) (F := TX11) (N := 36) hx hb hU iX11 hown hK hT 0 rfl rfl 13 (by decide) w798 (fun _ h9 => h9) rfl dX11_isFirst_2 ?_
  refine tcV (Tc := [(h0, ob 8 [.int h0f0, .int h0f1, .int h0f2, .int h0f3, .int h0f4, .int h0f5, .ref h2, .ref h3, .int h0f8, .int h0f9, .ref h4, .ref h5, .ref h1, .ref h6, .ref h7, .ref h8, .ref h9, .int h0f17, .int h0f18, .int h0f19, .ref h10, .ref h11, .ref h12, .ref h13, .int h0f24, .int h0f25, .ref h14, .ref h15, .ref h16, .ref h17, .int h0f30, .int h0f31, .ref h18, .ref h19, .ref h20, .ref h21]), (h6, aJ (k 1) 9 anJ)]) (Tr := [(h1, aJ (k 1) 9 anJ)]) (as := [h0, h6]) (zcV (q0 := 0) (ci := 8) (As := [.ref h6]) (rest := []) (Tc := [(h0, ob 8 [.int h0f0, .int h0f1, .int h0f2, .int h0f3, .int h0f4, .int h0f5, .ref h2, .ref h3, .int h0f8, .int h0f9, .ref h4, .ref h5, .ref h1, .ref h6, .ref h7, .ref h8, .ref h9, .int h0f17, .int h0f18, .int h0f19, .ref h10, .ref h11, .ref h12, .ref h13, .int h0f24, .int h0f25, .ref h14, .ref h15, .ref h16, .ref h17, .int h0f30, .int h0f31, .ref h18, .ref h19, .ref h20, .ref h21]), (h6, aJ (k 1) 9 anJ)]) hx hb hml hown hU hK hT rfl rfl [0, 2] rfl (by decide) (cX11_first_cf9f0 l D k _ h0 h6 h2 h3 h4 h5 h1 h7 h8 h9 h10 h11 h12 h13 h14 h15 h16 h17 h18 h19 h20 h21 h0f0 h0f1 h0f2 h0f3 h0f4 h0f5 h0f8 h0f9 h0f17 h0f18 h0f19 h0f24 h0f25 h0f30 h0f31 (by omega) (by omega) (by omega) (by omega) (by omega) (by omega) (by omega) (by omega) (by omega) (by omega) (by omega) (by omega) (by omega)) w919 w916 w918 w28 w72 hdX11_first ⟨rfl, rfl⟩ ⟨Nat.le_of_ble_eq_true rfl, Nat.le_of_ble_eq_true rfl⟩ rfl hl.1 (Nat.le_of_ble_eq_true rfl) dX11_isFirst_5 ⟨Nat.le_of_ble_eq_true rfl, Nat.le_of_ble_eq_true rfl⟩) hT hS hA [0, 2] [1] rfl rfl rfl (by decide) (by decide) (fun H locs hB J hS => ?_)
  have hT1 := hB
  have hT := J _ hT1
  have hT : TP D A [(h1, aJ (k 1) 9 anJ), (h0, ob 8 [.int h0f0, .int h0f1, .int h0f2, .int h0f3, .int h0f4, .int h0f5, .ref h2, .ref h3, .int h0f8, .int h0f9, .ref h4, .ref h5, .ref h1, .ref h6, .ref h7, .ref h8, .ref h9, .int h0f17, .int h0f18, .int h0f19, .ref h10, .ref h11, .ref h12, .ref h13, .int h0f24, .int h0f25, .ref h14, .ref h15, .ref h16, .ref h17, .int h0f30, .int h0f31, .ref h18, .ref h19, .ref h20, .ref h21]), (h6, aJ (k 1) 9 anJ)] H := hT
  refine lv_iconst (v := 1) hx hb dX11_isFirst_8 (by decide) ?_
  refine lv_istore_n (lv' := [(2, .int 1), (0, .ref h0), (1, .ref h1)]) hx hb dX11_isFirst_9 rfl hl (by decide) rfl (fun ls hl => ?_)
  refine lv_iconst (v := 0) hx hb dX11_isFirst_10 (by decide) ?_
  refine lv_istore_n (lv' := [(3, .int 0), (2, .int 1), (0, .ref h0), (1, .ref h1)]) hx hb dX11_isFirst_11 rfl hl (by decide) rfl (fun ls hl => ?_)
  have lp12_16 : ∀ (n : Nat) (y14 : Int32) (y15 : Int32) (H : Heap) (locs : List Loc) (ls : Array Slot), (0 ≤ y14.toInt ∧ y14.toInt ≤ 9) → (0 ≤ y15.toInt ∧ y15.toInt ≤ 1) → ((-1) * y14.toInt + 9 + 1).toNat < n → TP D A [(h1, aJ (k 1) 9 anJ), (h0, ob 8 [.int h0f0, .int h0f1, .int h0f2, .int h0f3, .int h0f4, .int h0f5, .ref h2, .ref h3, .int h0f8, .int h0f9, .ref h4, .ref h5, .ref h1, .ref h6, .ref h7, .ref h8, .ref h9, .int h0f17, .int h0f18, .int h0f19, .ref h10, .ref h11, .ref h12, .ref h13, .int h0f24, .int h0f25, .ref h14, .ref h15, .ref h16, .ref h17, .int h0f30, .int h0f31, .ref h18, .ref h19, .ref h20, .ref h21]), (h6, aJ (k 1) 9 anJ)] H → va_S A s.heap H locs → lv_has ls 4 [(0, .ref h0), (1, .ref h1), (2, .int y15), (3, .int y14)] → W p l e Rm_cX11_isFirst_7fc8c s m args below meth c H locs 0 0 Q (F0 m 12 ls []) := by
    intro n
    induction n with
    | zero => intro y14 y15 H locs ls b_y14 b_y15 hm hT hS hl; exact absurd hm (Nat.not_lt_zero _)
    | succ n ih =>
      intro y14 y15 H locs ls b_y14 b_y15 hm hT hS hl
      have ih12_16 := ih
      clear ih
      refine lv_iload_n hx hb dX11_isFirst_12 rfl (lv_at hl 3 rfl) ?_
      refine lv_bipush (v := 9) hx hb dX11_isFirst_13 (by decide) ?_
      refine lv_icmp_ge (tgt := 47) hx hb dX11_isFirst_15 (by decide) (fun c_17 => ?_) (fun c_17 => ?_)
      · skip
        have c_17 := ni_le c_17 li_9 rfl
        refine lv_iload_n hx hb dX11_isFirst_47 rfl (lv_at hl 2 rfl) ?_
        exact tz_retZ (B := B_cX11_isFirst_7fc8c D k h0 h1 h6 h2 h3 h4 h5 h7 h8 h9 h10 h11 h12 h13 h14 h15 h16 h17 h18 h19 h20 h21 h0f0 h0f1 h0f2 h0f3 h0f4 h0f5 h0f8 h0f9 h0f17 h0f18 h0f19 h0f24 h0f25 h0f30 h0f31) (v := y15) hQ hx hb hr hlocks hS (Nat.le_of_ble_eq_true rfl) (Nat.le_of_ble_eq_true rfl) dX11_isFirst_48 (by omega) (⟨(by omega), (hT.sub [1, 0, 2] (by decide) rfl)⟩)
      · skip
        have c_17 := ni_nle c_17 li_9 rfl
        refine lv_iload_n hx hb dX11_isFirst_18 rfl (lv_at hl 2 rfl) ?_
        refine lv_if_eq (tgt := 39) hx hb dX11_isFirst_19 (by decide) (fun c_18 => ?_) (fun c_18 => ?_)
        · skip
          have c_18 := ni_eq c_18 rfl li_0
          refine lv_iconst (v := 0) hx hb dX11_isFirst_39 (by decide) ?_
          refine lv_istore_n (lv' := [(2, .int 0), (0, .ref h0), (1, .ref h1), (3, .int y14)]) hx hb dX11_isFirst_40 rfl hl (by decide) rfl (fun ls hl => ?_)
          obtain ⟨v19, e_v19⟩ : ∃ x : Int32, x = y14 + Int32.ofInt 1 := ⟨_, rfl⟩
          have f_v19 := e_v19.symm
          have e_v19 : v19.toInt = y14.toInt + 1 := ai_add e_v19 rfl (show (Int32.ofInt 1).toInt = 1 from (by decide +kernel)) (by omega)
          refine lv_iinc (v := v19) (lv' := [(3, .int v19), (2, .int 0), (0, .ref h0), (1, .ref h1)]) hx hb dX11_isFirst_41 hl (k := 3) rfl f_v19 (by decide) rfl (fun ls hl => ?_)
          refine lv_goto (tgt := 12) hx hb dX11_isFirst_44 (by decide) ?_
          exact ih12_16 v19 (0) _ _ _ (by have := li_0; omega) (by have := li_0; omega)  (by have := li_0; omega) hT hS (lv_sub hl [2, 3, 1, 0] rfl)
        · skip
          have c_18 := ni_ne c_18 rfl li_0
          refine lv_aload_n hx hb dX11_isFirst_22 rfl (lv_at hl 1 rfl) ?_
          refine lv_iload_n hx hb dX11_isFirst_23 rfl (lv_at hl 3 rfl) ?_
          refine tz_lald hx hb hK hT 0 rfl (by omega) dX11_isFirst_24 (fun v20 e_v20 => ?_)
          clear e_v20
          refine lv_aload_n hx hb dX11_isFirst_25 rfl (lv_at hl 0 rfl) ?_
          refine tz_get (ci := 8) (v := .ref h6) (C := RX11) (F := TX11) (N := 36) hx hb hU iX11 hown hK hT 1 rfl rfl 13 (by decide) w798 (fun _ h9 => h9) rfl dX11_isFirst_26 ?_
          refine lv_iload_n hx hb dX11_isFirst_29 rfl (lv_at hl 3 rfl) ?_
          refine tz_lald hx hb hK hT 2 rfl (by omega) dX11_isFirst_30 (fun v21 e_v21 => ?_)
          clear e_v21
          refine W.lcmp hx hb dX11_isFirst_31 ?_
          refine lv_if_ne (tgt := 39) hx hb dX11_isFirst_32 (by decide) (fun c_22 => ?_) (fun c_22 => ?_)
          · skip
            have c_22 := nl_ne c_22 rfl rfl
            refine lv_iconst (v := 0) hx hb dX11_isFirst_39 (by decide) ?_
            refine lv_istore_n (lv' := [(2, .int 0), (0, .ref h0), (1, .ref h1), (3, .int y14)]) hx hb dX11_isFirst_40 rfl hl (by decide) rfl (fun ls hl => ?_)
            obtain ⟨v23, e_v23⟩ : ∃ x : Int32, x = y14 + Int32.ofInt 1 := ⟨_, rfl⟩
            have f_v23 := e_v23.symm
            have e_v23 : v23.toInt = y14.toInt + 1 := ai_add e_v23 rfl (show (Int32.ofInt 1).toInt = 1 from (by decide +kernel)) (by omega)
            refine lv_iinc (v := v23) (lv' := [(3, .int v23), (2, .int 0), (0, .ref h0), (1, .ref h1)]) hx hb dX11_isFirst_41 hl (k := 3) rfl f_v23 (by decide) rfl (fun ls hl => ?_)
            refine lv_goto (tgt := 12) hx hb dX11_isFirst_44 (by decide) ?_
            exact ih12_16 v23 (0) _ _ _ (by have := li_0; omega) (by have := li_0; omega)  (by have := li_0; omega) hT hS (lv_sub hl [2, 3, 1, 0] rfl)
          · skip
            have c_22 := nl_eq c_22 rfl rfl
            refine lv_iconst (v := 1) hx hb dX11_isFirst_35 (by decide) ?_
            refine lv_goto (tgt := 40) hx hb dX11_isFirst_36 (by decide) ?_
            refine lv_istore_n (lv' := [(2, .int 1), (0, .ref h0), (1, .ref h1), (3, .int y14)]) hx hb dX11_isFirst_40 rfl hl (by decide) rfl (fun ls hl => ?_)
            obtain ⟨v24, e_v24⟩ : ∃ x : Int32, x = y14 + Int32.ofInt 1 := ⟨_, rfl⟩
            have f_v24 := e_v24.symm
            have e_v24 : v24.toInt = y14.toInt + 1 := ai_add e_v24 rfl (show (Int32.ofInt 1).toInt = 1 from (by decide +kernel)) (by omega)
            refine lv_iinc (v := v24) (lv' := [(3, .int v24), (2, .int 1), (0, .ref h0), (1, .ref h1)]) hx hb dX11_isFirst_41 hl (k := 3) rfl f_v24 (by decide) rfl (fun ls hl => ?_)
            refine lv_goto (tgt := 12) hx hb dX11_isFirst_44 (by decide) ?_
            exact ih12_16 v24 (1) _ _ _ (by have := li_1; omega) (by have := li_1; omega)  (by have := li_1; omega) hT hS (lv_sub hl [2, 3, 1, 0] rfl)
  exact lp12_16 (((-1) * (0 : Int32).toInt + 9 + 1).toNat + 1) (0) (1) _ _ _ (by have := li_0; have := li_1; omega) (by have := li_0; have := li_1; omega)  (Nat.lt_succ_self _) hT hS (lv_sub hl [2, 3, 1, 0] rfl)
abbrev Rm_cX11_isGreat_600a0 : Room := { frames := 1, cells := 0, slots := 0, locals := 25 }
abbrev B_cX11_isGreat_600a0 (D : va_G) (k : Nat → ClassId) (h0 h1 h2 h3 h4 h5 h6 h7 h8 h9 h10 h11 h12 h13 h14 h15 h16 h17 h18 h19 h20 h21 : Nat) (h0f0 : Int32) (h0f1 : Int32) (h0f2 : Int32) (h0f3 : Int32) (h0f4 : Int32) (h0f5 : Int32) (h0f8 : Int32) (h0f9 : Int32) (h0f17 : Int32) (h0f18 : Int32) (h0f19 : Int32) (h0f24 : Int32) (h0f25 : Int32) (h0f30 : Int32) (h0f31 : Int32) (A : Nat → Prop) (r : Int32) (H : Heap) : Prop := (0 ≤ r.toInt ∧ r.toInt ≤ 1) ∧ TP D A [(h0, ob 8 [.int h0f0, .int h0f1, .int h0f2, .int h0f3, .int h0f4, .int h0f5, .ref h2, .ref h3, .int h0f8, .int h0f9, .ref h4, .ref h5, .ref h1, .ref h6, .ref h7, .ref h8, .ref h9, .int h0f17, .int h0f18, .int h0f19, .ref h10, .ref h11, .ref h12, .ref h13, .int h0f24, .int h0f25, .ref h14, .ref h15, .ref h16, .ref h17, .int h0f30, .int h0f31, .ref h18, .ref h19, .ref h20, .ref h21]), (h1, aJ (k 1) 9 anJ)] H
set_option maxHeartbeats 4000000 in
set_option maxRecDepth 100000 in
theorem cX11_isGreat_600a0 (l : Launch) (D : va_G) (k : Nat → ClassId) (sz : Nat) (h0 h1 h2 h3 h4 h5 h6 h7 h8 h9 h10 h11 h12 h13 h14 h15 h16 h17 h18 h19 h20 h21 : Nat) (h0f0 : Int32) (h0f1 : Int32) (h0f2 : Int32) (h0f3 : Int32) (h0f4 : Int32) (h0f5 : Int32) (h0f8 : Int32) (h0f9 : Int32) (h0f17 : Int32) (h0f18 : Int32) (h0f19 : Int32) (h0f24 : Int32) (h0f25 : Int32) (h0f30 : Int32) (h0f31 : Int32) (b_h0f0 : 1 ≤ h0f0.toInt ∧ h0f0.toInt ≤ 3) (b_h0f1 : 0 ≤ h0f1.toInt ∧ h0f1.toInt ≤ 4) (b_h0f3 : 0 ≤ h0f3.toInt ∧ h0f3.toInt ≤ 3) (b_h0f4 : 0 ≤ h0f4.toInt ∧ h0f4.toInt ≤ 4) (b_h0f8 : 0 ≤ h0f8.toInt ∧ h0f8.toInt ≤ 1) (b_h0f9 : 0 ≤ h0f9.toInt ∧ h0f9.toInt ≤ 1) (b_h0f17 : 0 ≤ h0f17.toInt ∧ h0f17.toInt ≤ 120) (b_h0f18 : 0 ≤ h0f18.toInt ∧ h0f18.toInt ≤ 120) (b_h0f19 : 0 ≤ h0f19.toInt ∧ h0f19.toInt ≤ 4) (b_h0f24 : 0 ≤ h0f24.toInt ∧ h0f24.toInt ≤ 100) (b_h0f25 : 0 ≤ h0f25.toInt ∧ h0f25.toInt ≤ 1) (b_h0f30 : 0 ≤ h0f30.toInt ∧ h0f30.toInt ≤ 60) (b_h0f31 : 0 ≤ h0f31.toInt ∧ h0f31.toInt ≤ 1) : Met l yX11_isGreat (Cond.code yX11_isGreat cX11_isGreat 4 (some .boolean) :: uw) Rm_cX11_isGreat_600a0 (pT D k sz [.ref h0, .ref h1] [(h0, ob 8 [.int h0f0, .int h0f1, .int h0f2, .int h0f3, .int h0f4, .int h0f5, .ref h2, .ref h3, .int h0f8, .int h0f9, .ref h4, .ref h5, .ref h1, .ref h6, .ref h7, .ref h8, .ref h9, .int h0f17, .int h0f18, .int h0f19, .ref h10, .ref h11, .ref h12, .ref h13, .int h0f24, .int h0f25, .ref h14, .ref h15, .ref h16, .ref h17, .int h0f30, .int h0f31, .ref h18, .ref h19, .ref h20, .ref h21]), (h1, aJ (k 1) 9 anJ)]) (qI (B_cX11_isGreat_600a0 D k h0 h1 h2 h3 h4 h5 h6 h7 h8 h9 h10 h11 h12 h13 h14 h15 h16 h17 h18 h19 h20 h21 h0f0 h0f1 h0f2 h0f3 h0f4 h0f5 h0f8 h0f9 h0f17 h0f18 h0f19 h0f24 h0f25 h0f30 h0f31 (zA [h0, h1] sz)) (zA [h0, h1] sz)) 0 0 (zA [h0, h1] sz) := by
  refine tz_begin (as := [h0, h1]) (Qc := fun A => qI (B_cX11_isGreat_600a0 D k h0 h1 h2 h3 h4 h5 h6 h7 h8 h9 h10 h11 h12 h13 h14 h15 h16 h17 h18 h19 h20 h21 h0f0 h0f1 h0f2 h0f3 h0f4 h0f5 h0f8 h0f9 h0f17 h0f18 h0f19 h0f24 h0f25 h0f30 h0f31 A) A) (by decide +kernel) rfl (Nat.le_of_ble_eq_true rfl) ?_
  intro p e s m args below meth c ls A Q hx hb hr hml hown hlocks hin hU hK hT hS hA hl hQ
  have hl : lv_has ls 4 [(0, .ref h0), (1, .ref h1)] := hl
  have hT : TP D A [(h0, ob 8 [.int h0f0, .int h0f1, .int h0f2, .int h0f3, .int h0f4, .int h0f5, .ref h2, .ref h3, .int h0f8, .int h0f9, .ref h4, .ref h5, .ref h1, .ref h6, .ref h7, .ref h8, .ref h9, .int h0f17, .int h0f18, .int h0f19, .ref h10, .ref h11, .ref h12, .ref h13, .int h0f24, .int h0f25, .ref h14, .ref h15, .ref h16, .ref h17, .int h0f30, .int h0f31, .ref h18, .ref h19, .ref h20, .ref h21]), (h1, aJ (k 1) 9 anJ)] s.heap := hT
  refine lv_iconst (v := 0) hx hb dX11_isGreat_0 (by decide) ?_
  refine lv_istore_n (lv' := [(2, .int 0), (0, .ref h0), (1, .ref h1)]) hx hb dX11_isGreat_1 rfl hl (by decide) rfl (fun ls hl => ?_)
  refine lv_iconst (v := 0) hx hb dX11_isGreat_2 (by decide) ?_
  refine lv_istore_n (lv' := [(3, .int 0), (2, .int 0), (0, .ref h0), (1, .ref h1)]) hx hb dX11_isGreat_3 rfl hl (by decide) rfl (fun ls hl => ?_)
  have lp4_15 : ∀ (n : Nat) (y13 : Int32) (y14 : Int32) (H : Heap) (locs : List Loc) (ls : Array Slot), (0 ≤ y13.toInt ∧ y13.toInt ≤ 9) → (0 ≤ y14.toInt ∧ y14.toInt ≤ 1) → ((-1) * y13.toInt + 9 + 1).toNat < n → TP D A [(h0, ob 8 [.int h0f0, .int h0f1, .int h0f2, .int h0f3, .int h0f4, .int h0f5, .ref h2, .ref h3, .int h0f8, .int h0f9, .ref h4, .ref h5, .ref h1, .ref h6, .ref h7, .ref h8, .ref h9, .int h0f17, .int h0f18, .int h0f19, .ref h10, .ref h11, .ref h12, .ref h13, .int h0f24, .int h0f25, .ref h14, .ref h15, .ref h16, .ref h17, .int h0f30, .int h0f31, .ref h18, .ref h19, .ref h20, .ref h21]), (h1, aJ (k 1) 9 anJ)] H → va_S A s.heap H locs → lv_has ls 4 [(1, .ref h1), (2, .int y14), (3, .int y13)] → W p l e Rm_cX11_isGreat_600a0 s m args below meth c H locs 0 0 Q (F0 m 4 ls []) := by
    intro n
    induction n with
    | zero => intro y13 y14 H locs ls b_y13 b_y14 hm hT hS hl; exact absurd hm (Nat.not_lt_zero _)
    | succ n ih =>
      intro y13 y14 H locs ls b_y13 b_y14 hm hT hS hl
      have ih4_15 := ih
      clear ih
      refine lv_iload_n hx hb dX11_isGreat_4 rfl (lv_at hl 2 rfl) ?_
      refine lv_bipush (v := 9) hx hb dX11_isGreat_5 (by decide) ?_
      refine lv_icmp_ge (tgt := 41) hx hb dX11_isGreat_7 (by decide) (fun c_16 => ?_) (fun c_16 => ?_)
      · skip
        have c_16 := ni_le c_16 li_9 rfl
        refine lv_iload_n hx hb dX11_isGreat_41 rfl (lv_at hl 1 rfl) ?_
        exact tz_retZ (B := B_cX11_isGreat_600a0 D k h0 h1 h2 h3 h4 h5 h6 h7 h8 h9 h10 h11 h12 h13 h14 h15 h16 h17 h18 h19 h20 h21 h0f0 h0f1 h0f2 h0f3 h0f4 h0f5 h0f8 h0f9 h0f17 h0f18 h0f19 h0f24 h0f25 h0f30 h0f31) (v := y14) hQ hx hb hr hlocks hS (Nat.le_of_ble_eq_true rfl) (Nat.le_of_ble_eq_true rfl) dX11_isGreat_42 (by omega) (⟨(by omega), hT⟩)
      · skip
        have c_16 := ni_nle c_16 li_9 rfl
        refine lv_iload_n hx hb dX11_isGreat_10 rfl (lv_at hl 1 rfl) ?_
        refine lv_if_ne (tgt := 29) hx hb dX11_isGreat_11 (by decide) (fun c_17 => ?_) (fun c_17 => ?_)
        · skip
          have c_17 := ni_ne c_17 rfl li_0
          refine lv_iconst (v := 1) hx hb dX11_isGreat_29 (by decide) ?_
          refine lv_goto (tgt := 34) hx hb dX11_isGreat_30 (by decide) ?_
          refine lv_istore_n (lv' := [(2, .int 1), (1, .ref h1), (3, .int y13)]) hx hb dX11_isGreat_34 rfl hl (by decide) rfl (fun ls hl => ?_)
          obtain ⟨v18, e_v18⟩ : ∃ x : Int32, x = y13 + Int32.ofInt 1 := ⟨_, rfl⟩
          have f_v18 := e_v18.symm
          have e_v18 : v18.toInt = y13.toInt + 1 := ai_add e_v18 rfl (show (Int32.ofInt 1).toInt = 1 from (by decide +kernel)) (by omega)
          refine lv_iinc (v := v18) (lv' := [(3, .int v18), (2, .int 1), (1, .ref h1)]) hx hb dX11_isGreat_35 hl (k := 2) rfl f_v18 (by decide) rfl (fun ls hl => ?_)
          refine lv_goto (tgt := 4) hx hb dX11_isGreat_38 (by decide) ?_
          exact ih4_15 v18 (1) _ _ _ (by have := li_1; omega) (by have := li_1; omega)  (by have := li_1; omega) hT hS (lv_sub hl [2, 1, 0] rfl)
        · skip
          have c_17 := ni_eq c_17 rfl li_0
          refine lv_aload_n hx hb dX11_isGreat_14 rfl (lv_at hl 0 rfl) ?_
          refine lv_iload_n hx hb dX11_isGreat_15 rfl (lv_at hl 2 rfl) ?_
          refine tz_lald hx hb hK hT 1 rfl (by omega) dX11_isGreat_16 (fun v19 e_v19 => ?_)
          clear e_v19
          refine lv_ldc2 hx hb hown (hU _ w981) dX11_isGreat_17 ?_
          refine lv_ldc2 hx hb hown (hU _ w982) dX11_isGreat_20 ?_
          have q_q21 := ll_m1000000000
          have q_q22 := ll_1000000000
          refine tcI (Tc := []) (Tr := [(h0, ob 8 [.int h0f0, .int h0f1, .int h0f2, .int h0f3, .int h0f4, .int h0f5, .ref h2, .ref h3, .int h0f8, .int h0f9, .ref h4, .ref h5, .ref h1, .ref h6, .ref h7, .ref h8, .ref h9, .int h0f17, .int h0f18, .int h0f19, .ref h10, .ref h11, .ref h12, .ref h13, .int h0f24, .int h0f25, .ref h14, .ref h15, .ref h16, .ref h17, .int h0f30, .int h0f31, .ref h18, .ref h19, .ref h20, .ref h21]), (h1, aJ (k 1) 9 anJ)]) (as := []) (zcS (As := [.long v19, .long (-1000000000), .long 1000000000]) (rest := []) (Tc := []) hx hb hml hown hU hK hT [] rfl (by decide) (cX11_in_ca3b9 l D k _ v19 ((-1000000000)) (1000000000) (by have := ll_m1000000000; omega) (by have := ll_1000000000; omega)) w901 w899 w900 w72 hdX11_in ⟨rfl, rfl⟩ ⟨Nat.le_of_ble_eq_true rfl, Nat.le_of_ble_eq_true rfl⟩ rfl hl.1 (Nat.le_of_ble_eq_true rfl) dX11_isGreat_23 ⟨Nat.le_of_ble_eq_true rfl, Nat.le_of_ble_eq_true rfl⟩) hT hS hA [] [0, 1] rfl rfl rfl (by decide) (by decide) (fun r20 H locs hB J hS => ?_)
          rcases hB with ⟨rfl, hT1⟩ | ⟨c_23, c_24, rfl, hT1⟩
          · skip
            have hT := J _ hT1
            have hT : TP D A [(h0, ob 8 [.int h0f0, .int h0f1, .int h0f2, .int h0f3, .int h0f4, .int h0f5, .ref h2, .ref h3, .int h0f8, .int h0f9, .ref h4, .ref h5, .ref h1, .ref h6, .ref h7, .ref h8, .ref h9, .int h0f17, .int h0f18, .int h0f19, .ref h10, .ref h11, .ref h12, .ref h13, .int h0f24, .int h0f25, .ref h14, .ref h15, .ref h16, .ref h17, .int h0f30, .int h0f31, .ref h18, .ref h19, .ref h20, .ref h21]), (h1, aJ (k 1) 9 anJ)] H := hT
            refine lv_if_ne (tgt := 33) hx hb dX11_isGreat_26 (by decide) (fun cc => absurd (by decide +kernel) cc) (fun _ => ?_)
            refine lv_iconst (v := 1) hx hb dX11_isGreat_29 (by decide) ?_
            refine lv_goto (tgt := 34) hx hb dX11_isGreat_30 (by decide) ?_
            refine lv_istore_n (lv' := [(2, .int 1), (1, .ref h1), (3, .int y13)]) hx hb dX11_isGreat_34 rfl hl (by decide) rfl (fun ls hl => ?_)
            obtain ⟨v25, e_v25⟩ : ∃ x : Int32, x = y13 + Int32.ofInt 1 := ⟨_, rfl⟩
            have f_v25 := e_v25.symm
            have e_v25 : v25.toInt = y13.toInt + 1 := ai_add e_v25 rfl (show (Int32.ofInt 1).toInt = 1 from (by decide +kernel)) (by omega)
            refine lv_iinc (v := v25) (lv' := [(3, .int v25), (2, .int 1), (1, .ref h1)]) hx hb dX11_isGreat_35 hl (k := 2) rfl f_v25 (by decide) rfl (fun ls hl => ?_)
            refine lv_goto (tgt := 4) hx hb dX11_isGreat_38 (by decide) ?_
            exact ih4_15 v25 (1) _ _ _ (by have := li_1; omega) (by have := li_1; omega)  (by have := li_1; omega) hT hS (lv_sub hl [2, 1, 0] rfl)
          · skip
            have hT := J _ hT1
            have hT : TP D A [(h0, ob 8 [.int h0f0, .int h0f1, .int h0f2, .int h0f3, .int h0f4, .int h0f5, .ref h2, .ref h3, .int h0f8, .int h0f9, .ref h4, .ref h5, .ref h1, .ref h6, .ref h7, .ref h8, .ref h9, .int h0f17, .int h0f18, .int h0f19, .ref h10, .ref h11, .ref h12, .ref h13, .int h0f24, .int h0f25, .ref h14, .ref h15, .ref h16, .ref h17, .int h0f30, .int h0f31, .ref h18, .ref h19, .ref h20, .ref h21]), (h1, aJ (k 1) 9 anJ)] H := hT
            refine lv_if_ne (tgt := 33) hx hb dX11_isGreat_26 (by decide) (fun _ => ?_) (fun cc => absurd cc (by decide +kernel))
            refine lv_iconst (v := 0) hx hb dX11_isGreat_33 (by decide) ?_
            refine lv_istore_n (lv' := [(2, .int 0), (1, .ref h1), (3, .int y13)]) hx hb dX11_isGreat_34 rfl hl (by decide) rfl (fun ls hl => ?_)
            obtain ⟨v26, e_v26⟩ : ∃ x : Int32, x = y13 + Int32.ofInt 1 := ⟨_, rfl⟩
            have f_v26 := e_v26.symm
            have e_v26 : v26.toInt = y13.toInt + 1 := ai_add e_v26 rfl (show (Int32.ofInt 1).toInt = 1 from (by decide +kernel)) (by omega)
            refine lv_iinc (v := v26) (lv' := [(3, .int v26), (2, .int 0), (1, .ref h1)]) hx hb dX11_isGreat_35 hl (k := 2) rfl f_v26 (by decide) rfl (fun ls hl => ?_)
            refine lv_goto (tgt := 4) hx hb dX11_isGreat_38 (by decide) ?_
            exact ih4_15 v26 (0) _ _ _ (by have := li_0; omega) (by have := li_0; omega)  (by have := li_0; omega) hT hS (lv_sub hl [2, 1, 0] rfl)
  exact lp4_15 (((-1) * (0 : Int32).toInt + 9 + 1).toNat + 1) (0) (0) _ _ _ (by have := li_0; omega) (by have := li_0; omega)  (Nat.lt_succ_self _) hT hS (lv_sub hl [3, 1, 0] rfl)
abbrev Rm_cX11_order_ae9df : Room := { frames := 3, cells := 0, slots := 0, locals := 67 }
abbrev B_cX11_order_ae9df (D : va_G) (k : Nat → ClassId) (h0 h3 h4 h5 h6 h1 h2 h7 h8 h9 h10 h11 h12 h13 h14 h15 h16 h17 h18 h19 h20 h21 : Nat) (h0f0 : Int32) (h0f1 : Int32) (h0f2 : Int32) (h0f3 : Int32) (h0f4 : Int32) (h0f5 : Int32) (h0f8 : Int32) (h0f9 : Int32) (h0f17 : Int32) (h0f18 : Int32) (h0f19 : Int32) (h0f24 : Int32) (h0f25 : Int32) (h0f30 : Int32) (h0f31 : Int32) (A : Nat → Prop) (r : Int32) (H : Heap) : Prop := ((-3) ≤ r.toInt ∧ r.toInt ≤ 12) ∧ TP D A [(h0, ob 8 [.int h0f0, .int h0f1, .int h0f2, .int h0f3, .int h0f4, .int h0f5, .ref h1, .ref h2, .int h0f8, .int h0f9, .ref h3, .ref h4, .ref h5, .ref h6, .ref h7, .ref h8, .ref h9, .int h0f17, .int h0f18, .int h0f19, .ref h10, .ref h11, .ref h12, .ref h13, .int h0f24, .int h0f25, .ref h14, .ref h15, .ref h16, .ref h17, .int h0f30, .int h0f31, .ref h18, .ref h19, .ref h20, .ref h21]), (h3, aJ (k 1) 9 anJ), (h4, aJ (k 1) 9 anJ), (h5, aJ (k 1) 9 anJ), (h6, aJ (k 1) 9 anJ)] H
set_option maxHeartbeats 4000000 in
set_option maxRecDepth 100000 in
theorem cX11_order_ae9df (l : Launch) (D : va_G) (k : Nat → ClassId) (sz : Nat) (h0 h3 h4 h5 h6 h1 h2 h7 h8 h9 h10 h11 h12 h13 h14 h15 h16 h17 h18 h19 h20 h21 : Nat) (h0f0 : Int32) (h0f1 : Int32) (h0f2 : Int32) (h0f3 : Int32) (h0f4 : Int32) (h0f5 : Int32) (h0f8 : Int32) (h0f9 : Int32) (h0f17 : Int32) (h0f18 : Int32) (h0f19 : Int32) (h0f24 : Int32) (h0f25 : Int32) (h0f30 : Int32) (h0f31 : Int32) (b_h0f0 : 1 ≤ h0f0.toInt ∧ h0f0.toInt ≤ 3) (b_h0f1 : 0 ≤ h0f1.toInt ∧ h0f1.toInt ≤ 4) (b_h0f3 : 0 ≤ h0f3.toInt ∧ h0f3.toInt ≤ 3) (b_h0f4 : 0 ≤ h0f4.toInt ∧ h0f4.toInt ≤ 4) (b_h0f8 : 0 ≤ h0f8.toInt ∧ h0f8.toInt ≤ 1) (b_h0f9 : 0 ≤ h0f9.toInt ∧ h0f9.toInt ≤ 1) (b_h0f17 : 0 ≤ h0f17.toInt ∧ h0f17.toInt ≤ 120) (b_h0f18 : 0 ≤ h0f18.toInt ∧ h0f18.toInt ≤ 120) (b_h0f19 : 0 ≤ h0f19.toInt ∧ h0f19.toInt ≤ 4) (b_h0f24 : 0 ≤ h0f24.toInt ∧ h0f24.toInt ≤ 100) (b_h0f25 : 0 ≤ h0f25.toInt ∧ h0f25.toInt ≤ 1) (b_h0f30 : 0 ≤ h0f30.toInt ∧ h0f30.toInt ≤ 60) (b_h0f31 : 0 ≤ h0f31.toInt ∧ h0f31.toInt ≤ 1) : Met l yX11_order (Cond.code yX11_order cX11_order 5 (some .int) :: uw) Rm_cX11_order_ae9df (pT D k sz [.ref h0] [(h0, ob 8 [.int h0f0, .int h0f1, .int h0f2, .int h0f3, .int h0f4, .int h0f5, .ref h1, .ref h2, .int h0f8, .int h0f9, .ref h3, .ref h4, .ref h5, .ref h6, .ref h7, .ref h8, .ref h9, .int h0f17, .int h0f18, .int h0f19, .ref h10, .ref h11, .ref h12, .ref h13, .int h0f24, .int h0f25, .ref h14, .ref h15, .ref h16, .ref h17, .int h0f30, .int h0f31, .ref h18, .ref h19, .ref h20, .ref h21]), (h3, aJ (k 1) 9 anJ), (h4, aJ (k 1) 9 anJ), (h5, aJ (k 1) 9 anJ), (h6, aJ (k 1) 9 anJ)]) (qI (B_cX11_order_ae9df D k h0 h3 h4 h5 h6 h1 h2 h7 h8 h9 h10 h11 h12 h13 h14 h15 h16 h17 h18 h19 h20 h21 h0f0 h0f1 h0f2 h0f3 h0f4 h0f5 h0f8 h0f9 h0f17 h0f18 h0f19 h0f24 h0f25 h0f30 h0f31 (zA [h0, h3, h4, h5, h6] sz)) (zA [h0, h3, h4, h5, h6] sz)) 0 0 (zA [h0, h3, h4, h5, h6] sz) := by
  refine tz_begin (as := [h0, h3, h4, h5, h6]) (Qc := fun A => qI (B_cX11_order_ae9df D k h0 h3 h4 h5 h6 h1 h2 h7 h8 h9 h10 h11 h12 h13 h14 h15 h16 h17 h18 h19 h20 h21 h0f0 h0f1 h0f2 h0f3 h0f4 h0f5 h0f8 h0f9 h0f17 h0f18 h0f19 h0f24 h0f25 h0f30 h0f31 A) A) (by decide +kernel) rfl (Nat.le_of_ble_eq_true rfl) ?_
  intro p e s m args below meth c ls A Q hx hb hr hml hown hlocks hin hU hK hT hS hA hl hQ
  have hl : lv_has ls 5 [(0, .ref h0)] := hl
  have hT : TP D A [(h0, ob 8 [.int h0f0, .int h0f1, .int h0f2, .int h0f3, .int h0f4, .int h0f5, .ref h1, .ref h2, .int h0f8, .int h0f9, .ref h3, .ref h4, .ref h5, .ref h6, .ref h7, .ref h8, .ref h9, .int h0f17, .int h0f18, .int h0f19, .ref h10, .ref h11, .ref h12, .ref h13, .int h0f24, .int h0f25, .ref h14, .ref h15, .ref h16, .ref h17, .int h0f30, .int h0f31, .ref h18, .ref h19, .ref h20, .ref h21]), (h3, aJ (k 1) 9 anJ), (h4, aJ (k 1) 9 anJ), (h5, aJ (k 1) 9 anJ), (h6, aJ (k 1) 9 anJ)] s.heap := hT
  refine lv_aload_n hx hb dX11_order_0 rfl (lv_at hl 0 rfl) ?_
  refine tz_get (ci := 8) (v := .ref h5) (C := RX11) (F := TX11) (N := 36) hx hb hU iX11 hown hK hT 0 rfl rfl 12 (by decide) w797 (fun _ h9 => h9) rfl dX11_order_1 ?_
  refine lv_astore_n (lv' := [(1, .ref h5), (0, .ref h0)]) hx hb dX11_order_4 rfl hl (by decide) rfl (fun ls hl => ?_)
  refine lv_aload_n hx hb dX11_order_5 rfl (lv_at hl 1 rfl) ?_
  refine tz_get (ci := 8) (v := .ref h3) (C := RX11) (F := TX11) (N := 36) hx hb hU iX11 hown hK hT 0 rfl rfl 10 (by decide) w795 (fun _ h9 => h9) rfl dX11_order_6 ?_
  refine lv_astore_n (lv' := [(2, .ref h3), (1, .ref h5), (0, .ref h0)]) hx hb dX11_order_9 rfl hl (by decide) rfl (fun ls hl => ?_)
  refine lv_aload_n hx hb dX11_order_10 rfl (lv_at hl 2 rfl) ?_
  refine lv_aload_n hx hb dX11_order_11 rfl (lv_at hl 1 rfl) ?_
  refine tcV (Tc := [(h0, ob 8 [.int h0f0, .int h0f1, .int h0f2, .int h0f3, .int h0f4, .int h0f5, .ref h1, .ref h2, .int h0f8, .int h0f9, .ref h3, .ref h4, .ref h5, .ref h6, .ref h7, .ref h8, .ref h9, .int h0f17, .int h0f18, .int h0f19, .ref h10, .ref h11, .ref h12, .ref h13, .int h0f24, .int h0f25, .ref h14, .ref h15, .ref h16, .ref h17, .int h0f30, .int h0f31, .ref h18, .ref h19, .ref h20, .ref h21]), (h5, aJ (k 1) 9 anJ)]) (Tr := [(h3, aJ (k 1) 9 anJ), (h4, aJ (k 1) 9 anJ), (h6, aJ (k 1) 9 anJ)]) (as := [h0, h5]) (zcV (q0 := 0) (ci := 8) (As := [.ref h5]) (rest := []) (Tc := [(h0, ob 8 [.int h0f0, .int h0f1, .int h0f2, .int h0f3, .int h0f4, .int h0f5, .ref h1, .ref h2, .int h0f8, .int h0f9, .ref h3, .ref h4, .ref h5, .ref h6, .ref h7, .ref h8, .ref h9, .int h0f17, .int h0f18, .int h0f19, .ref h10, .ref h11, .ref h12, .ref h13, .int h0f24, .int h0f25, .ref h14, .ref h15, .ref h16, .ref h17, .int h0f30, .int h0f31, .ref h18, .ref h19, .ref h20, .ref h21]), (h5, aJ (k 1) 9 anJ)]) hx hb hml hown hU hK hT rfl rfl [0, 3] rfl (by decide) (cX11_first_9406b l D k _ h0 h5 h1 h2 h3 h4 h6 h7 h8 h9 h10 h11 h12 h13 h14 h15 h16 h17 h18 h19 h20 h21 h0f0 h0f1 h0f2 h0f3 h0f4 h0f5 h0f8 h0f9 h0f17 h0f18 h0f19 h0f24 h0f25 h0f30 h0f31 (by omega) (by omega) (by omega) (by omega) (by omega) (by omega) (by omega) (by omega) (by omega) (by omega) (by omega) (by omega) (by omega)) w919 w916 w918 w28 w72 hdX11_first ⟨rfl, rfl⟩ ⟨Nat.le_of_ble_eq_true rfl, Nat.le_of_ble_eq_true rfl⟩ rfl hl.1 (Nat.le_of_ble_eq_true rfl) dX11_order_12 ⟨Nat.le_of_ble_eq_true rfl, Nat.le_of_ble_eq_true rfl⟩) hT hS hA [0, 3] [1, 2, 4] rfl rfl rfl (by decide) (by decide) (fun H locs hB J hS => ?_)
  have hT1 := hB
  have hT := J _ hT1
  have hT : TP D A [(h3, aJ (k 1) 9 anJ), (h4, aJ (k 1) 9 anJ), (h6, aJ (k 1) 9 anJ), (h0, ob 8 [.int h0f0, .int h0f1, .int h0f2, .int h0f3, .int h0f4, .int h0f5, .ref h1, .ref h2, .int h0f8, .int h0f9, .ref h3, .ref h4, .ref h5, .ref h6, .ref h7, .ref h8, .ref h9, .int h0f17, .int h0f18, .int h0f19, .ref h10, .ref h11, .ref h12, .ref h13, .int h0f24, .int h0f25, .ref h14, .ref h15, .ref h16, .ref h17, .int h0f30, .int h0f31, .ref h18, .ref h19, .ref h20, .ref h21]), (h5, aJ (k 1) 9 anJ)] H := hT
  refine lv_iconst (v := 1) hx hb dX11_order_15 (by decide) ?_
  refine lv_istore_n (lv' := [(3, .int 1), (2, .ref h3), (1, .ref h5), (0, .ref h0)]) hx hb dX11_order_16 rfl hl (by decide) rfl (fun ls hl => ?_)
  have lp17_12 : ∀ (n : Nat) (y11 : Int32) (H : Heap) (locs : List Loc) (ls : Array Slot), (1 ≤ y11.toInt ∧ y11.toInt ≤ 13) → ((-1) * y11.toInt + 12 + 1).toNat < n → TP D A [(h3, aJ (k 1) 9 anJ), (h4, aJ (k 1) 9 anJ), (h6, aJ (k 1) 9 anJ), (h0, ob 8 [.int h0f0, .int h0f1, .int h0f2, .int h0f3, .int h0f4, .int h0f5, .ref h1, .ref h2, .int h0f8, .int h0f9, .ref h3, .ref h4, .ref h5, .ref h6, .ref h7, .ref h8, .ref h9, .int h0f17, .int h0f18, .int h0f19, .ref h10, .ref h11, .ref h12, .ref h13, .int h0f24, .int h0f25, .ref h14, .ref h15, .ref h16, .ref h17, .int h0f30, .int h0f31, .ref h18, .ref h19, .ref h20, .ref h21]), (h5, aJ (k 1) 9 anJ)] H → va_S A s.heap H locs → lv_has ls 5 [(0, .ref h0), (1, .ref h5), (2, .ref h3), (3, .int y11)] → W p l e Rm_cX11_order_ae9df s m args below meth c H locs 0 0 Q (F0 m 17 ls []) := by
    intro n
    induction n with
    | zero => intro y11 H locs ls b_y11 hm hT hS hl; exact absurd hm (Nat.not_lt_zero _)
    | succ n ih =>
      intro y11 H locs ls b_y11 hm hT hS hl
      have ih17_12 := ih
      clear ih
      refine lv_iload_n hx hb dX11_order_17 rfl (lv_at hl 3 rfl) ?_
      refine lv_bipush (v := 12) hx hb dX11_order_18 (by decide) ?_
      refine lv_icmp_gt (tgt := 84) hx hb dX11_order_20 (by decide) (fun c_13 => ?_) (fun c_13 => ?_)
      · skip
        have c_13 := ni_lt c_13 li_12 rfl
        refine lv_bipush (v := (-3)) hx hb dX11_order_84 (by decide) ?_
        exact tz_retI (B := B_cX11_order_ae9df D k h0 h3 h4 h5 h6 h1 h2 h7 h8 h9 h10 h11 h12 h13 h14 h15 h16 h17 h18 h19 h20 h21 h0f0 h0f1 h0f2 h0f3 h0f4 h0f5 h0f8 h0f9 h0f17 h0f18 h0f19 h0f24 h0f25 h0f30 h0f31) (v := (-3)) hQ hx hb hr hlocks hS (Nat.le_of_ble_eq_true rfl) (Nat.le_of_ble_eq_true rfl) dX11_order_86 (⟨(by have := li_m3; omega), (hT.sub [3, 0, 1, 4, 2] (by decide) rfl)⟩)
      · skip
        have c_13 := ni_nlt c_13 li_12 rfl
        refine lv_aload_n hx hb dX11_order_23 rfl (lv_at hl 0 rfl) ?_
        refine lv_aload_n hx hb dX11_order_24 rfl (lv_at hl 1 rfl) ?_
        refine lv_aload_n hx hb dX11_order_25 rfl (lv_at hl 0 rfl) ?_
        refine tz_get (ci := 8) (v := .ref h4) (C := RX11) (F := TX11) (N := 36) hx hb hU iX11 hown hK hT 3 rfl rfl 11 (by decide) w796 (fun _ h9 => h9) rfl dX11_order_26 ?_
        refine lv_aload_n hx hb dX11_order_29 rfl (lv_at hl 2 rfl) ?_
        refine tcV (Tc := [(h0, ob 8 [.int h0f0, .int h0f1, .int h0f2, .int h0f3, .int h0f4, .int h0f5, .ref h1, .ref h2, .int h0f8, .int h0f9, .ref h3, .ref h4, .ref h5, .ref h6, .ref h7, .ref h8, .ref h9, .int h0f17, .int h0f18, .int h0f19, .ref h10, .ref h11, .ref h12, .ref h13, .int h0f24, .int h0f25, .ref h14, .ref h15, .ref h16, .ref h17, .int h0f30, .int h0f31, .ref h18, .ref h19, .ref h20, .ref h21]), (h5, aJ (k 1) 9 anJ), (h4, aJ (k 1) 9 anJ), (h3, aJ (k 1) 9 anJ)]) (Tr := [(h6, aJ (k 1) 9 anJ)]) (as := [h0, h5, h4, h3]) (zcV (q0 := 3) (ci := 8) (As := [.ref h5, .ref h4, .ref h3]) (rest := []) (Tc := [(h0, ob 8 [.int h0f0, .int h0f1, .int h0f2, .int h0f3, .int h0f4, .int h0f5, .ref h1, .ref h2, .int h0f8, .int h0f9, .ref h3, .ref h4, .ref h5, .ref h6, .ref h7, .ref h8, .ref h9, .int h0f17, .int h0f18, .int h0f19, .ref h10, .ref h11, .ref h12, .ref h13, .int h0f24, .int h0f25, .ref h14, .ref h15, .ref h16, .ref h17, .int h0f30, .int h0f31, .ref h18, .ref h19, .ref h20, .ref h21]), (h5, aJ (k 1) 9 anJ), (h4, aJ (k 1) 9 anJ), (h3, aJ (k 1) 9 anJ)]) hx hb hml hown hU hK hT rfl rfl [3, 4, 1, 0] rfl (by decide) (cX11_times_e15ea l D k _ h0 h5 h4 h3 h1 h2 h6 h7 h8 h9 h10 h11 h12 h13 h14 h15 h16 h17 h18 h19 h20 h21 h0f0 h0f1 h0f2 h0f3 h0f4 h0f5 h0f8 h0f9 h0f17 h0f18 h0f19 h0f24 h0f25 h0f30 h0f31 (by omega) (by omega) (by omega) (by omega) (by omega) (by omega) (by omega) (by omega) (by omega) (by omega) (by omega) (by omega) (by omega)) w943 w940 w942 w33 w72 hdX11_times ⟨rfl, rfl⟩ ⟨Nat.le_of_ble_eq_true rfl, Nat.le_of_ble_eq_true rfl⟩ rfl hl.1 (Nat.le_of_ble_eq_true rfl) dX11_order_30 ⟨Nat.le_of_ble_eq_true rfl, Nat.le_of_ble_eq_true rfl⟩) hT hS hA [3, 4, 1, 0] [2] rfl rfl rfl (by decide) (by decide) (fun H locs hB J hS => ?_)
        have hT1 := hB
        have hT := J _ hT1
        have hT : TP D A [(h6, aJ (k 1) 9 anJ), (h0, ob 8 [.int h0f0, .int h0f1, .int h0f2, .int h0f3, .int h0f4, .int h0f5, .ref h1, .ref h2, .int h0f8, .int h0f9, .ref h3, .ref h4, .ref h5, .ref h6, .ref h7, .ref h8, .ref h9, .int h0f17, .int h0f18, .int h0f19, .ref h10, .ref h11, .ref h12, .ref h13, .int h0f24, .int h0f25, .ref h14, .ref h15, .ref h16, .ref h17, .int h0f30, .int h0f31, .ref h18, .ref h19, .ref h20, .ref h21]), (h5, aJ (k 1) 9 anJ), (h4, aJ (k 1) 9 anJ), (h3, aJ (k 1) 9 anJ)] H := hT
        refine lv_iconst (v := 0) hx hb dX11_order_33 (by decide) ?_
        refine lv_istore (lv' := [(4, .int 0), (0, .ref h0), (1, .ref h5), (2, .ref h3), (3, .int y11)]) hx hb dX11_order_34 hl (by decide) rfl (fun ls hl => ?_)
        have lp36_22 : ∀ (n : Nat) (y21 : Int32) (H : Heap) (locs : List Loc) (ls : Array Slot), (0 ≤ y21.toInt ∧ y21.toInt ≤ 9) → ((-1) * y21.toInt + 9 + 1).toNat < n → TP D A [(h6, aJ (k 1) 9 anJ), (h0, ob 8 [.int h0f0, .int h0f1, .int h0f2, .int h0f3, .int h0f4, .int h0f5, .ref h1, .ref h2, .int h0f8, .int h0f9, .ref h3, .ref h4, .ref h5, .ref h6, .ref h7, .ref h8, .ref h9, .int h0f17, .int h0f18, .int h0f19, .ref h10, .ref h11, .ref h12, .ref h13, .int h0f24, .int h0f25, .ref h14, .ref h15, .ref h16, .ref h17, .int h0f30, .int h0f31, .ref h18, .ref h19, .ref h20, .ref h21]), (h5, aJ (k 1) 9 anJ), (h4, aJ (k 1) 9 anJ), (h3, aJ (k 1) 9 anJ)] H → va_S A s.heap H locs → lv_has ls 5 [(0, .ref h0), (1, .ref h5), (2, .ref h3), (3, .int y11), (4, .int y21)] → W p l e Rm_cX11_order_ae9df s m args below meth c H locs 0 0 Q (F0 m 36 ls []) := by
          intro n
          induction n with
          | zero => intro y21 H locs ls b_y21 hm hT hS hl; exact absurd hm (Nat.not_lt_zero _)
          | succ n ih =>
            intro y21 H locs ls b_y21 hm hT hS hl
            have ih36_22 := ih
            clear ih
            refine lv_iload hx hb dX11_order_36 (lv_at hl 4 rfl) ?_
            refine lv_bipush (v := 9) hx hb dX11_order_38 (by decide) ?_
            refine lv_icmp_ge (tgt := 57) hx hb dX11_order_40 (by decide) (fun c_23 => ?_) (fun c_23 => ?_)
            · skip
              have c_23 := ni_le c_23 li_9 rfl
              refine lv_aload_n hx hb dX11_order_57 rfl (lv_at hl 0 rfl) ?_
              refine lv_aload_n hx hb dX11_order_58 rfl (lv_at hl 1 rfl) ?_
              refine tcI (Tc := [(h0, ob 8 [.int h0f0, .int h0f1, .int h0f2, .int h0f3, .int h0f4, .int h0f5, .ref h1, .ref h2, .int h0f8, .int h0f9, .ref h3, .ref h4, .ref h5, .ref h6, .ref h7, .ref h8, .ref h9, .int h0f17, .int h0f18, .int h0f19, .ref h10, .ref h11, .ref h12, .ref h13, .int h0f24, .int h0f25, .ref h14, .ref h15, .ref h16, .ref h17, .int h0f30, .int h0f31, .ref h18, .ref h19, .ref h20, .ref h21]), (h5, aJ (k 1) 9 anJ), (h6, aJ (k 1) 9 anJ)]) (Tr := [(h4, aJ (k 1) 9 anJ), (h3, aJ (k 1) 9 anJ)]) (as := [h0, h5, h6]) (zcV (q0 := 1) (ci := 8) (As := [.ref h5]) (rest := []) (Tc := [(h0, ob 8 [.int h0f0, .int h0f1, .int h0f2, .int h0f3, .int h0f4, .int h0f5, .ref h1, .ref h2, .int h0f8, .int h0f9, .ref h3, .ref h4, .ref h5, .ref h6, .ref h7, .ref h8, .ref h9, .int h0f17, .int h0f18, .int h0f19, .ref h10, .ref h11, .ref h12, .ref h13, .int h0f24, .int h0f25, .ref h14, .ref h15, .ref h16, .ref h17, .int h0f30, .int h0f31, .ref h18, .ref h19, .ref h20, .ref h21]), (h5, aJ (k 1) 9 anJ), (h6, aJ (k 1) 9 anJ)]) hx hb hml hown hU hK hT rfl rfl [1, 2, 0] rfl (by decide) (cX11_isFirst_7fc8c l D k _ h0 h5 h6 h1 h2 h3 h4 h7 h8 h9 h10 h11 h12 h13 h14 h15 h16 h17 h18 h19 h20 h21 h0f0 h0f1 h0f2 h0f3 h0f4 h0f5 h0f8 h0f9 h0f17 h0f18 h0f19 h0f24 h0f25 h0f30 h0f31 (by omega) (by omega) (by omega) (by omega) (by omega) (by omega) (by omega) (by omega) (by omega) (by omega) (by omega) (by omega) (by omega)) w976 w973 w975 w38 w72 hdX11_isFirst ⟨rfl, rfl⟩ ⟨Nat.le_of_ble_eq_true rfl, Nat.le_of_ble_eq_true rfl⟩ rfl hl.1 (Nat.le_of_ble_eq_true rfl) dX11_order_59 ⟨Nat.le_of_ble_eq_true rfl, Nat.le_of_ble_eq_true rfl⟩) hT hS hA [1, 2, 0] [3, 4] rfl rfl rfl (by decide) (by decide) (fun r24 H locs hB J hS => ?_)
              obtain ⟨b_r24, hT1⟩ := hB
              have hT := J _ hT1
              have hT : TP D A [(h4, aJ (k 1) 9 anJ), (h3, aJ (k 1) 9 anJ), (h0, ob 8 [.int h0f0, .int h0f1, .int h0f2, .int h0f3, .int h0f4, .int h0f5, .ref h1, .ref h2, .int h0f8, .int h0f9, .ref h3, .ref h4, .ref h5, .ref h6, .ref h7, .ref h8, .ref h9, .int h0f17, .int h0f18, .int h0f19, .ref h10, .ref h11, .ref h12, .ref h13, .int h0f24, .int h0f25, .ref h14, .ref h15, .ref h16, .ref h17, .int h0f30, .int h0f31, .ref h18, .ref h19, .ref h20, .ref h21]), (h5, aJ (k 1) 9 anJ), (h6, aJ (k 1) 9 anJ)] H := hT
              refine lv_if_eq (tgt := 67) hx hb dX11_order_62 (by decide) (fun c_25 => ?_) (fun c_25 => ?_)
              · skip
                have c_25 := ni_eq c_25 rfl li_0
                refine lv_aload_n hx hb dX11_order_67 rfl (lv_at hl 0 rfl) ?_
                refine lv_aload_n hx hb dX11_order_68 rfl (lv_at hl 1 rfl) ?_
                refine tcI (Tc := [(h0, ob 8 [.int h0f0, .int h0f1, .int h0f2, .int h0f3, .int h0f4, .int h0f5, .ref h1, .ref h2, .int h0f8, .int h0f9, .ref h3, .ref h4, .ref h5, .ref h6, .ref h7, .ref h8, .ref h9, .int h0f17, .int h0f18, .int h0f19, .ref h10, .ref h11, .ref h12, .ref h13, .int h0f24, .int h0f25, .ref h14, .ref h15, .ref h16, .ref h17, .int h0f30, .int h0f31, .ref h18, .ref h19, .ref h20, .ref h21]), (h5, aJ (k 1) 9 anJ)]) (Tr := [(h4, aJ (k 1) 9 anJ), (h3, aJ (k 1) 9 anJ), (h6, aJ (k 1) 9 anJ)]) (as := [h0, h5]) (zcV (q0 := 2) (ci := 8) (As := [.ref h5]) (rest := []) (Tc := [(h0, ob 8 [.int h0f0, .int h0f1, .int h0f2, .int h0f3, .int h0f4, .int h0f5, .ref h1, .ref h2, .int h0f8, .int h0f9, .ref h3, .ref h4, .ref h5, .ref h6, .ref h7, .ref h8, .ref h9, .int h0f17, .int h0f18, .int h0f19, .ref h10, .ref h11, .ref h12, .ref h13, .int h0f24, .int h0f25, .ref h14, .ref h15, .ref h16, .ref h17, .int h0f30, .int h0f31, .ref h18, .ref h19, .ref h20, .ref h21]), (h5, aJ (k 1) 9 anJ)]) hx hb hml hown hU hK hT rfl rfl [2, 3] rfl (by decide) (cX11_isGreat_600a0 l D k _ h0 h5 h1 h2 h3 h4 h6 h7 h8 h9 h10 h11 h12 h13 h14 h15 h16 h17 h18 h19 h20 h21 h0f0 h0f1 h0f2 h0f3 h0f4 h0f5 h0f8 h0f9 h0f17 h0f18 h0f19 h0f24 h0f25 h0f30 h0f31 (by omega) (by omega) (by omega) (by omega) (by omega) (by omega) (by omega) (by omega) (by omega) (by omega) (by omega) (by omega) (by omega)) w980 w977 w979 w39 w72 hdX11_isGreat ⟨rfl, rfl⟩ ⟨Nat.le_of_ble_eq_true rfl, Nat.le_of_ble_eq_true rfl⟩ rfl hl.1 (Nat.le_of_ble_eq_true rfl) dX11_order_69 ⟨Nat.le_of_ble_eq_true rfl, Nat.le_of_ble_eq_true rfl⟩) hT hS hA [2, 3] [0, 1, 4] rfl rfl rfl (by decide) (by decide) (fun r26 H locs hB J hS => ?_)
                obtain ⟨b_r26, hT1⟩ := hB
                have hT := J _ hT1
                have hT : TP D A [(h4, aJ (k 1) 9 anJ), (h3, aJ (k 1) 9 anJ), (h6, aJ (k 1) 9 anJ), (h0, ob 8 [.int h0f0, .int h0f1, .int h0f2, .int h0f3, .int h0f4, .int h0f5, .ref h1, .ref h2, .int h0f8, .int h0f9, .ref h3, .ref h4, .ref h5, .ref h6, .ref h7, .ref h8, .ref h9, .int h0f17, .int h0f18, .int h0f19, .ref h10, .ref h11, .ref h12, .ref h13, .int h0f24, .int h0f25, .ref h14, .ref h15, .ref h16, .ref h17, .int h0f30, .int h0f31, .ref h18, .ref h19, .ref h20, .ref h21]), (h5, aJ (k 1) 9 anJ)] H := hT
                refine lv_if_eq (tgt := 78) hx hb dX11_order_72 (by decide) (fun c_27 => ?_) (fun c_27 => ?_)
                · skip
                  have c_27 := ni_eq c_27 rfl li_0
                  obtain ⟨v28, e_v28⟩ : ∃ x : Int32, x = y11 + Int32.ofInt 1 := ⟨_, rfl⟩
                  have f_v28 := e_v28.symm
                  have e_v28 : v28.toInt = y11.toInt + 1 := ai_add e_v28 rfl (show (Int32.ofInt 1).toInt = 1 from (by decide +kernel)) (by omega)
                  refine lv_iinc (v := v28) (lv' := [(3, .int v28), (0, .ref h0), (1, .ref h5), (2, .ref h3), (4, .int y21)]) hx hb dX11_order_78 hl (k := 3) rfl f_v28 (by decide) rfl (fun ls hl => ?_)
                  refine lv_goto (tgt := 17) hx hb dX11_order_81 (by decide) ?_
                  exact ih17_12 v28 _ _ _ (by omega)  (by omega) (hT.sub [1, 0, 2, 3, 4] (by decide) rfl) hS (lv_sub hl [1, 2, 3, 0] rfl)
                · skip
                  have c_27 := ni_ne c_27 rfl li_0
                  refine lv_bipush (v := (-3)) hx hb dX11_order_75 (by decide) ?_
                  exact tz_retI (B := B_cX11_order_ae9df D k h0 h3 h4 h5 h6 h1 h2 h7 h8 h9 h10 h11 h12 h13 h14 h15 h16 h17 h18 h19 h20 h21 h0f0 h0f1 h0f2 h0f3 h0f4 h0f5 h0f8 h0f9 h0f17 h0f18 h0f19 h0f24 h0f25 h0f30 h0f31) (v := (-3)) hQ hx hb hr hlocks hS (Nat.le_of_ble_eq_true rfl) (Nat.le_of_ble_eq_true rfl) dX11_order_77 (⟨(by have := li_m3; omega), (hT.sub [3, 1, 0, 4, 2] (by decide) rfl)⟩)
              · skip
                have c_25 := ni_ne c_25 rfl li_0
                refine lv_iload_n hx hb dX11_order_65 rfl (lv_at hl 3 rfl) ?_
                exact tz_retI (B := B_cX11_order_ae9df D k h0 h3 h4 h5 h6 h1 h2 h7 h8 h9 h10 h11 h12 h13 h14 h15 h16 h17 h18 h19 h20 h21 h0f0 h0f1 h0f2 h0f3 h0f4 h0f5 h0f8 h0f9 h0f17 h0f18 h0f19 h0f24 h0f25 h0f30 h0f31) (v := y11) hQ hx hb hr hlocks hS (Nat.le_of_ble_eq_true rfl) (Nat.le_of_ble_eq_true rfl) dX11_order_66 (⟨(by omega), (hT.sub [2, 1, 0, 3, 4] (by decide) rfl)⟩)
            · skip
              have c_23 := ni_nle c_23 li_9 rfl
              refine lv_aload_n hx hb dX11_order_43 rfl (lv_at hl 1 rfl) ?_
              refine lv_iload hx hb dX11_order_44 (lv_at hl 4 rfl) ?_
              refine lv_aload_n hx hb dX11_order_46 rfl (lv_at hl 2 rfl) ?_
              refine lv_iload hx hb dX11_order_47 (lv_at hl 4 rfl) ?_
              refine tz_lald hx hb hK hT 4 rfl (by omega) dX11_order_49 (fun v29 e_v29 => ?_)
              clear e_v29
              refine tz_last hx hb hK hT hS 2 rfl (by omega) (fun _ _ => trivial) dX11_order_50 (fun H locs hT hS => ?_)
              obtain ⟨v30, e_v30⟩ : ∃ x : Int32, x = y21 + Int32.ofInt 1 := ⟨_, rfl⟩
              have f_v30 := e_v30.symm
              have e_v30 : v30.toInt = y21.toInt + 1 := ai_add e_v30 rfl (show (Int32.ofInt 1).toInt = 1 from (by decide +kernel)) (by omega)
              refine lv_iinc (v := v30) (lv' := [(4, .int v30), (0, .ref h0), (1, .ref h5), (2, .ref h3), (3, .int y11)]) hx hb dX11_order_51 hl (k := 4) rfl f_v30 (by decide) rfl (fun ls hl => ?_)
              refine lv_goto (tgt := 36) hx hb dX11_order_54 (by decide) ?_
              exact ih36_22 v30 _ _ _ (by omega)  (by omega) hT hS (lv_sub hl [1, 2, 3, 4, 0] rfl)
        exact lp36_22 (((-1) * (0 : Int32).toInt + 9 + 1).toNat + 1) (0) _ _ _ (by have := li_0; omega)  (Nat.lt_succ_self _) hT hS (lv_sub hl [1, 2, 3, 4, 0] rfl)
  exact lp17_12 (((-1) * (1 : Int32).toInt + 12 + 1).toNat + 1) (1) _ _ _ (by have := li_1; omega)  (Nat.lt_succ_self _) hT hS (lv_sub hl [3, 2, 1, 0] rfl)
abbrev Rm_cX11_of_dc492 : Room := { frames := 4, cells := 0, slots := 0, locals := 91 }
abbrev B_cX11_of_dc492 (D : va_G) (k : Nat → ClassId) (h0 h1 h3 h4 h5 h6 h2 h7 h8 h9 h10 h11 h12 h13 h14 h15 h16 h17 h18 h19 h20 h21 : Nat) (x1 : Int32) (x2 : Int32) (h0f0 : Int32) (h0f1 : Int32) (h0f2 : Int32) (h0f3 : Int32) (h0f4 : Int32) (h0f5 : Int32) (h0f8 : Int32) (h0f9 : Int32) (h0f17 : Int32) (h0f18 : Int32) (h0f19 : Int32) (h0f24 : Int32) (h0f25 : Int32) (h0f30 : Int32) (h0f31 : Int32) (A : Nat → Prop) (r : Int32) (H : Heap) : Prop := TP D A [(h0, ob 8 [.int h0f0, .int h0f1, .int h0f2, .int h0f3, .int h0f4, .int h0f5, .ref h1, .ref h2, .int h0f8, .int h0f9, .ref h3, .ref h4, .ref h5, .ref h6, .ref h7, .ref h8, .ref h9, .int h0f17, .int h0f18, .int h0f19, .ref h10, .ref h11, .ref h12, .ref h13, .int h0f24, .int h0f25, .ref h14, .ref h15, .ref h16, .ref h17, .int h0f30, .int h0f31, .ref h18, .ref h19, .ref h20, .ref h21]), (h1, aI (k 0) 36 anI), (h3, aJ (k 1) 9 anJ), (h4, aJ (k 1) 9 anJ), (h5, aJ (k 1) 9 anJ), (h6, aJ (k 1) 9 anJ)] H
set_option maxHeartbeats 4000000 in
set_option maxRecDepth 100000 in
theorem cX11_of_dc492 (l : Launch) (D : va_G) (k : Nat → ClassId) (sz : Nat) (h0 h1 h3 h4 h5 h6 h2 h7 h8 h9 h10 h11 h12 h13 h14 h15 h16 h17 h18 h19 h20 h21 : Nat) (x1 : Int32) (x2 : Int32) (h0f0 : Int32) (h0f1 : Int32) (h0f2 : Int32) (h0f3 : Int32) (h0f4 : Int32) (h0f5 : Int32) (h0f8 : Int32) (h0f9 : Int32) (h0f17 : Int32) (h0f18 : Int32) (h0f19 : Int32) (h0f24 : Int32) (h0f25 : Int32) (h0f30 : Int32) (h0f31 : Int32) (b_h0f0 : 1 ≤ h0f0.toInt ∧ h0f0.toInt ≤ 3) (b_h0f1 : 0 ≤ h0f1.toInt ∧ h0f1.toInt ≤ 4) (b_h0f3 : 0 ≤ h0f3.toInt ∧ h0f3.toInt ≤ 3) (b_h0f4 : 0 ≤ h0f4.toInt ∧ h0f4.toInt ≤ 4) (b_h0f8 : 0 ≤ h0f8.toInt ∧ h0f8.toInt ≤ 1) (b_h0f9 : 0 ≤ h0f9.toInt ∧ h0f9.toInt ≤ 1) (b_h0f17 : 0 ≤ h0f17.toInt ∧ h0f17.toInt ≤ 120) (b_h0f18 : 0 ≤ h0f18.toInt ∧ h0f18.toInt ≤ 120) (b_h0f19 : 0 ≤ h0f19.toInt ∧ h0f19.toInt ≤ 4) (b_h0f24 : 0 ≤ h0f24.toInt ∧ h0f24.toInt ≤ 100) (b_h0f25 : 0 ≤ h0f25.toInt ∧ h0f25.toInt ≤ 1) (b_h0f30 : 0 ≤ h0f30.toInt ∧ h0f30.toInt ≤ 60) (b_h0f31 : 0 ≤ h0f31.toInt ∧ h0f31.toInt ≤ 1) : Met l yX11_of (Cond.code yX11_of cX11_of 3 (some .int) :: uw) Rm_cX11_of_dc492 (pT D k sz [.ref h0, .int x1, .int x2] [(h0, ob 8 [.int h0f0, .int h0f1, .int h0f2, .int h0f3, .int h0f4, .int h0f5, .ref h1, .ref h2, .int h0f8, .int h0f9, .ref h3, .ref h4, .ref h5, .ref h6, .ref h7, .ref h8, .ref h9, .int h0f17, .int h0f18, .int h0f19, .ref h10, .ref h11, .ref h12, .ref h13, .int h0f24, .int h0f25, .ref h14, .ref h15, .ref h16, .ref h17, .int h0f30, .int h0f31, .ref h18, .ref h19, .ref h20, .ref h21]), (h1, aI (k 0) 36 anI), (h3, aJ (k 1) 9 anJ), (h4, aJ (k 1) 9 anJ), (h5, aJ (k 1) 9 anJ), (h6, aJ (k 1) 9 anJ)]) (qI (B_cX11_of_dc492 D k h0 h1 h3 h4 h5 h6 h2 h7 h8 h9 h10 h11 h12 h13 h14 h15 h16 h17 h18 h19 h20 h21 x1 x2 h0f0 h0f1 h0f2 h0f3 h0f4 h0f5 h0f8 h0f9 h0f17 h0f18 h0f19 h0f24 h0f25 h0f30 h0f31 (zA [h0, h1, h3, h4, h5, h6] sz)) (zA [h0, h1, h3, h4, h5, h6] sz)) 0 0 (zA [h0, h1, h3, h4, h5, h6] sz) := by
  refine tz_begin (as := [h0, h1, h3, h4, h5, h6]) (Qc := fun A => qI (B_cX11_of_dc492 D k h0 h1 h3 h4 h5 h6 h2 h7 h8 h9 h10 h11 h12 h13 h14 h15 h16 h17 h18 h19 h20 h21 x1 x2 h0f0 h0f1 h0f2 h0f3 h0f4 h0f5 h0f8 h0f9 h0f17 h0f18 h0f19 h0f24 h0f25 h0f30 h0f31 A) A) (by decide +kernel) rfl (Nat.le_of_ble_eq_true rfl) ?_
  intro p e s m args below meth c ls A Q hx hb hr hml hown hlocks hin hU hK hT hS hA hl hQ
  have hl : lv_has ls 3 [(0, .ref h0), (1, .int x1), (2, .int x2)] := hl
  have hT : TP D A [(h0, ob 8 [.int h0f0, .int h0f1, .int h0f2, .int h0f3, .int h0f4, .int h0f5, .ref h1, .ref h2, .int h0f8, .int h0f9, .ref h3, .ref h4, .ref h5, .ref h6, .ref h7, .ref h8, .ref h9, .int h0f17, .int h0f18, .int h0f19, .ref h10, .ref h11, .ref h12, .ref h13, .int h0f24, .int h0f25, .ref h14, .ref h15, .ref h16, .ref h17, .int h0f30, .int h0f31, .ref h18, .ref h19, .ref h20, .ref h21]), (h1, aI (k 0) 36 anI), (h3, aJ (k 1) 9 anJ), (h4, aJ (k 1) 9 anJ), (h5, aJ (k 1) 9 anJ), (h6, aJ (k 1) 9 anJ)] s.heap := hT
  refine lv_aload_n hx hb dX11_of_0 rfl (lv_at hl 0 rfl) ?_
  refine lv_iload_n hx hb dX11_of_1 rfl (lv_at hl 1 rfl) ?_
  refine tcI (Tc := [(h0, ob 8 [.int h0f0, .int h0f1, .int h0f2, .int h0f3, .int h0f4, .int h0f5, .ref h1, .ref h2, .int h0f8, .int h0f9, .ref h3, .ref h4, .ref h5, .ref h6, .ref h7, .ref h8, .ref h9, .int h0f17, .int h0f18, .int h0f19, .ref h10, .ref h11, .ref h12, .ref h13, .int h0f24, .int h0f25, .ref h14, .ref h15, .ref h16, .ref h17, .int h0f30, .int h0f31, .ref h18, .ref h19, .ref h20, .ref h21])]) (Tr := [(h1, aI (k 0) 36 anI), (h3, aJ (k 1) 9 anJ), (h4, aJ (k 1) 9 anJ), (h5, aJ (k 1) 9 anJ), (h6, aJ (k 1) 9 anJ)]) (as := [h0]) (zcV (q0 := 0) (ci := 8) (As := [.int x1]) (rest := []) (Tc := [(h0, ob 8 [.int h0f0, .int h0f1, .int h0f2, .int h0f3, .int h0f4, .int h0f5, .ref h1, .ref h2, .int h0f8, .int h0f9, .ref h3, .ref h4, .ref h5, .ref h6, .ref h7, .ref h8, .ref h9, .int h0f17, .int h0f18, .int h0f19, .ref h10, .ref h11, .ref h12, .ref h13, .int h0f24, .int h0f25, .ref h14, .ref h15, .ref h16, .ref h17, .int h0f30, .int h0f31, .ref h18, .ref h19, .ref h20, .ref h21])]) hx hb hml hown hU hK hT rfl rfl [0] rfl (by decide) (cX11_isGen_590eb l D k _ h0 h1 h2 h3 h4 h5 h6 h7 h8 h9 h10 h11 h12 h13 h14 h15 h16 h17 h18 h19 h20 h21 x1 h0f0 h0f1 h0f2 h0f3 h0f4 h0f5 h0f8 h0f9 h0f17 h0f18 h0f19 h0f24 h0f25 h0f30 h0f31 (by omega) (by omega) (by omega) (by omega) (by omega) (by omega) (by omega) (by omega) (by omega) (by omega) (by omega) (by omega) (by omega)) w935 w932 w934 w31 w72 hdX11_isGen ⟨rfl, rfl⟩ ⟨Nat.le_of_ble_eq_true rfl, Nat.le_of_ble_eq_true rfl⟩ rfl hl.1 (Nat.le_of_ble_eq_true rfl) dX11_of_2 ⟨Nat.le_of_ble_eq_true rfl, Nat.le_of_ble_eq_true rfl⟩) hT hS hA [0] [1, 2, 3, 4, 5] rfl rfl rfl (by decide) (by decide) (fun r1 H locs hB J hS => ?_)
  rcases hB with ⟨rfl, hT1⟩ | ⟨c_2, c_3, rfl, hT1⟩
  · skip
    have hT := J _ hT1
    have hT : TP D A [(h1, aI (k 0) 36 anI), (h3, aJ (k 1) 9 anJ), (h4, aJ (k 1) 9 anJ), (h5, aJ (k 1) 9 anJ), (h6, aJ (k 1) 9 anJ), (h0, ob 8 [.int h0f0, .int h0f1, .int h0f2, .int h0f3, .int h0f4, .int h0f5, .ref h1, .ref h2, .int h0f8, .int h0f9, .ref h3, .ref h4, .ref h5, .ref h6, .ref h7, .ref h8, .ref h9, .int h0f17, .int h0f18, .int h0f19, .ref h10, .ref h11, .ref h12, .ref h13, .int h0f24, .int h0f25, .ref h14, .ref h15, .ref h16, .ref h17, .int h0f30, .int h0f31, .ref h18, .ref h19, .ref h20, .ref h21])] H := hT
    refine lv_if_ne (tgt := 10) hx hb dX11_of_5 (by decide) (fun cc => absurd (by decide +kernel) cc) (fun _ => ?_)
    refine lv_iconst (v := (-1)) hx hb dX11_of_8 (by decide) ?_
    exact tz_retI (B := B_cX11_of_dc492 D k h0 h1 h3 h4 h5 h6 h2 h7 h8 h9 h10 h11 h12 h13 h14 h15 h16 h17 h18 h19 h20 h21 x1 x2 h0f0 h0f1 h0f2 h0f3 h0f4 h0f5 h0f8 h0f9 h0f17 h0f18 h0f19 h0f24 h0f25 h0f30 h0f31) (v := (-1)) hQ hx hb hr hlocks hS (Nat.le_of_ble_eq_true rfl) (Nat.le_of_ble_eq_true rfl) dX11_of_9 ((hT.sub [5, 0, 1, 2, 3, 4] (by decide) rfl))
  · skip
    have hT := J _ hT1
    have hT : TP D A [(h1, aI (k 0) 36 anI), (h3, aJ (k 1) 9 anJ), (h4, aJ (k 1) 9 anJ), (h5, aJ (k 1) 9 anJ), (h6, aJ (k 1) 9 anJ), (h0, ob 8 [.int h0f0, .int h0f1, .int h0f2, .int h0f3, .int h0f4, .int h0f5, .ref h1, .ref h2, .int h0f8, .int h0f9, .ref h3, .ref h4, .ref h5, .ref h6, .ref h7, .ref h8, .ref h9, .int h0f17, .int h0f18, .int h0f19, .ref h10, .ref h11, .ref h12, .ref h13, .int h0f24, .int h0f25, .ref h14, .ref h15, .ref h16, .ref h17, .int h0f30, .int h0f31, .ref h18, .ref h19, .ref h20, .ref h21])] H := hT
    refine lv_if_ne (tgt := 10) hx hb dX11_of_5 (by decide) (fun _ => ?_) (fun cc => absurd cc (by decide +kernel))
    refine lv_aload_n hx hb dX11_of_10 rfl (lv_at hl 0 rfl) ?_
    refine lv_iload_n hx hb dX11_of_11 rfl (lv_at hl 1 rfl) ?_
    refine lv_aload_n hx hb dX11_of_12 rfl (lv_at hl 0 rfl) ?_
    refine tz_get (ci := 8) (v := .ref h4) (C := RX11) (F := TX11) (N := 36) hx hb hU iX11 hown hK hT 5 rfl rfl 11 (by decide) w796 (fun _ h9 => h9) rfl dX11_of_13 ?_
    refine tcV (Tc := [(h0, ob 8 [.int h0f0, .int h0f1, .int h0f2, .int h0f3, .int h0f4, .int h0f5, .ref h1, .ref h2, .int h0f8, .int h0f9, .ref h3, .ref h4, .ref h5, .ref h6, .ref h7, .ref h8, .ref h9, .int h0f17, .int h0f18, .int h0f19, .ref h10, .ref h11, .ref h12, .ref h13, .int h0f24, .int h0f25, .ref h14, .ref h15, .ref h16, .ref h17, .int h0f30, .int h0f31, .ref h18, .ref h19, .ref h20, .ref h21]), (h4, aJ (k 1) 9 anJ), (h1, aI (k 0) 36 anI)]) (Tr := [(h3, aJ (k 1) 9 anJ), (h5, aJ (k 1) 9 anJ), (h6, aJ (k 1) 9 anJ)]) (as := [h0, h4, h1]) (zcV (q0 := 5) (ci := 8) (As := [.int x1, .ref h4]) (rest := []) (Tc := [(h0, ob 8 [.int h0f0, .int h0f1, .int h0f2, .int h0f3, .int h0f4, .int h0f5, .ref h1, .ref h2, .int h0f8, .int h0f9, .ref h3, .ref h4, .ref h5, .ref h6, .ref h7, .ref h8, .ref h9, .int h0f17, .int h0f18, .int h0f19, .ref h10, .ref h11, .ref h12, .ref h13, .int h0f24, .int h0f25, .ref h14, .ref h15, .ref h16, .ref h17, .int h0f30, .int h0f31, .ref h18, .ref h19, .ref h20, .ref h21]), (h4, aJ (k 1) 9 anJ), (h1, aI (k 0) 36 anI)]) hx hb hml hown hU hK hT rfl rfl [5, 2, 0] rfl (by decide) (cX11_takes_15868 l D k _ h0 h4 h1 h2 h3 h5 h6 h7 h8 h9 h10 h11 h12 h13 h14 h15 h16 h17 h18 h19 h20 h21 x1 h0f0 h0f1 h0f2 h0f3 h0f4 h0f5 h0f8 h0f9 h0f17 h0f18 h0f19 h0f24 h0f25 h0f30 h0f31 (by omega) (by omega) (by omega) (by omega) (by omega) (by omega) (by omega) (by omega) (by omega) (by omega) (by omega) (by omega) (by omega) (by omega)) w939 w936 w938 w32 w72 hdX11_takes ⟨rfl, rfl⟩ ⟨Nat.le_of_ble_eq_true rfl, Nat.le_of_ble_eq_true rfl⟩ rfl hl.1 (Nat.le_of_ble_eq_true rfl) dX11_of_16 ⟨Nat.le_of_ble_eq_true rfl, Nat.le_of_ble_eq_true rfl⟩) hT hS hA [5, 2, 0] [1, 3, 4] rfl rfl rfl (by decide) (by decide) (fun H locs hB J hS => ?_)
    have hT1 := hB
    have hT := J _ hT1
    have hT : TP D A [(h3, aJ (k 1) 9 anJ), (h5, aJ (k 1) 9 anJ), (h6, aJ (k 1) 9 anJ), (h0, ob 8 [.int h0f0, .int h0f1, .int h0f2, .int h0f3, .int h0f4, .int h0f5, .ref h1, .ref h2, .int h0f8, .int h0f9, .ref h3, .ref h4, .ref h5, .ref h6, .ref h7, .ref h8, .ref h9, .int h0f17, .int h0f18, .int h0f19, .ref h10, .ref h11, .ref h12, .ref h13, .int h0f24, .int h0f25, .ref h14, .ref h15, .ref h16, .ref h17, .int h0f30, .int h0f31, .ref h18, .ref h19, .ref h20, .ref h21]), (h4, aJ (k 1) 9 anJ), (h1, aI (k 0) 36 anI)] H := hT
    refine lv_iload_n hx hb dX11_of_19 rfl (lv_at hl 2 rfl) ?_
    rcases (show (x2.toInt < 0 ∨ 2 < x2.toInt) ∨ x2.toInt = 0 ∨ x2.toInt = 1 ∨ x2.toInt = 2 by omega) with c_5 | c_5 | c_5 | c_5
    · skip
      refine lv_tableOut (tgt := 94) hx hb dX11_of_20 c_5 (by decide) ?_
      refine lv_iconst (v := (-1)) hx hb dX11_of_94 (by decide) ?_
      exact tz_retI (B := B_cX11_of_dc492 D k h0 h1 h3 h4 h5 h6 h2 h7 h8 h9 h10 h11 h12 h13 h14 h15 h16 h17 h18 h19 h20 h21 x1 x2 h0f0 h0f1 h0f2 h0f3 h0f4 h0f5 h0f8 h0f9 h0f17 h0f18 h0f19 h0f24 h0f25 h0f30 h0f31) (v := (-1)) hQ hx hb hr hlocks hS (Nat.le_of_ble_eq_true rfl) (Nat.le_of_ble_eq_true rfl) dX11_of_95 ((hT.sub [3, 5, 0, 4, 1, 2] (by decide) rfl))
    · skip
      refine lv_tableIn (tgt := 48) (off := 28) hx hb dX11_of_20 (by omega) (by omega) (by rw [c_5]; decide +kernel) (by decide) ?_
      refine lv_sipush (v := 1000) hx hb dX11_of_48 (by decide) ?_
      refine lv_aload_n hx hb dX11_of_51 rfl (lv_at hl 0 rfl) ?_
      refine lv_aload_n hx hb dX11_of_52 rfl (lv_at hl 0 rfl) ?_
      refine tz_get (ci := 8) (v := .ref h4) (C := RX11) (F := TX11) (N := 36) hx hb hU iX11 hown hK hT 3 rfl rfl 11 (by decide) w796 (fun _ h9 => h9) rfl dX11_of_53 ?_
      refine tcL (Tc := [(h0, ob 8 [.int h0f0, .int h0f1, .int h0f2, .int h0f3, .int h0f4, .int h0f5, .ref h1, .ref h2, .int h0f8, .int h0f9, .ref h3, .ref h4, .ref h5, .ref h6, .ref h7, .ref h8, .ref h9, .int h0f17, .int h0f18, .int h0f19, .ref h10, .ref h11, .ref h12, .ref h13, .int h0f24, .int h0f25, .ref h14, .ref h15, .ref h16, .ref h17, .int h0f30, .int h0f31, .ref h18, .ref h19, .ref h20, .ref h21]), (h4, aJ (k 1) 9 anJ)]) (Tr := [(h3, aJ (k 1) 9 anJ), (h5, aJ (k 1) 9 anJ), (h6, aJ (k 1) 9 anJ), (h1, aI (k 0) 36 anI)]) (as := [h0, h4]) (zcV (q0 := 3) (ci := 8) (As := [.ref h4]) (rest := [.int 1000]) (Tc := [(h0, ob 8 [.int h0f0, .int h0f1, .int h0f2, .int h0f3, .int h0f4, .int h0f5, .ref h1, .ref h2, .int h0f8, .int h0f9, .ref h3, .ref h4, .ref h5, .ref h6, .ref h7, .ref h8, .ref h9, .int h0f17, .int h0f18, .int h0f19, .ref h10, .ref h11, .ref h12, .ref h13, .int h0f24, .int h0f25, .ref h14, .ref h15, .ref h16, .ref h17, .int h0f30, .int h0f31, .ref h18, .ref h19, .ref h20, .ref h21]), (h4, aJ (k 1) 9 anJ)]) hx hb hml hown hU hK hT rfl rfl [3, 4] rfl (by decide) (cX11_det_d3262 l D k _ h0 h4 h1 h2 h3 h5 h6 h7 h8 h9 h10 h11 h12 h13 h14 h15 h16 h17 h18 h19 h20 h21 h0f0 h0f1 h0f2 h0f3 h0f4 h0f5 h0f8 h0f9 h0f17 h0f18 h0f19 h0f24 h0f25 h0f30 h0f31 (by omega) (by omega) (by omega) (by omega) (by omega) (by omega) (by omega) (by omega) (by omega) (by omega) (by omega) (by omega) (by omega)) w952 w949 w951 w35 w72 hdX11_det ⟨rfl, rfl⟩ ⟨Nat.le_of_ble_eq_true rfl, Nat.le_of_ble_eq_true rfl⟩ rfl hl.1 (Nat.le_of_ble_eq_true rfl) dX11_of_56 ⟨Nat.le_of_ble_eq_true rfl, Nat.le_of_ble_eq_true rfl⟩) hT hS hA [3, 4] [0, 1, 2, 5] rfl rfl rfl (by decide) (by decide) (fun r6 H locs hB J hS => ?_)
      have hT1 := hB
      have hT := J _ hT1
      have hT : TP D A [(h3, aJ (k 1) 9 anJ), (h5, aJ (k 1) 9 anJ), (h6, aJ (k 1) 9 anJ), (h1, aI (k 0) 36 anI), (h0, ob 8 [.int h0f0, .int h0f1, .int h0f2, .int h0f3, .int h0f4, .int h0f5, .ref h1, .ref h2, .int h0f8, .int h0f9, .ref h3, .ref h4, .ref h5, .ref h6, .ref h7, .ref h8, .ref h9, .int h0f17, .int h0f18, .int h0f19, .ref h10, .ref h11, .ref h12, .ref h13, .int h0f24, .int h0f25, .ref h14, .ref h15, .ref h16, .ref h17, .int h0f30, .int h0f31, .ref h18, .ref h19, .ref h20, .ref h21]), (h4, aJ (k 1) 9 anJ)] H := hT
      refine lv_l2i hx hb dX11_of_59 rfl (lv_topi (fun v7 _ => ?_))
      refine lv_iadd hx hb dX11_of_60 (lv_topi (fun v8 e_v8 => ?_))
      exact tz_retI (B := B_cX11_of_dc492 D k h0 h1 h3 h4 h5 h6 h2 h7 h8 h9 h10 h11 h12 h13 h14 h15 h16 h17 h18 h19 h20 h21 x1 x2 h0f0 h0f1 h0f2 h0f3 h0f4 h0f5 h0f8 h0f9 h0f17 h0f18 h0f19 h0f24 h0f25 h0f30 h0f31) (v := v8) hQ hx hb hr hlocks hS (Nat.le_of_ble_eq_true rfl) (Nat.le_of_ble_eq_true rfl) dX11_of_61 ((hT.sub [4, 3, 0, 5, 1, 2] (by decide) rfl))
    · skip
      refine lv_tableIn (tgt := 62) (off := 42) hx hb dX11_of_20 (by omega) (by omega) (by rw [c_5]; decide +kernel) (by decide) ?_
      refine lv_sipush (v := 1000) hx hb dX11_of_62 (by decide) ?_
      refine lv_aload_n hx hb dX11_of_65 rfl (lv_at hl 0 rfl) ?_
      refine tz_get (ci := 8) (v := .ref h4) (C := RX11) (F := TX11) (N := 36) hx hb hU iX11 hown hK hT 3 rfl rfl 11 (by decide) w796 (fun _ h9 => h9) rfl dX11_of_66 ?_
      refine lv_iconst (v := 0) hx hb dX11_of_69 (by decide) ?_
      refine tz_lald hx hb hK hT 4 rfl (by have := li_0; omega) dX11_of_70 (fun v9 e_v9 => ?_)
      clear e_v9
      refine lv_aload_n hx hb dX11_of_71 rfl (lv_at hl 0 rfl) ?_
      refine tz_get (ci := 8) (v := .ref h4) (C := RX11) (F := TX11) (N := 36) hx hb hU iX11 hown hK hT 3 rfl rfl 11 (by decide) w796 (fun _ h9 => h9) rfl dX11_of_72 ?_
      refine lv_iconst (v := 4) hx hb dX11_of_75 (by decide) ?_
      refine tz_lald hx hb hK hT 4 rfl (by have := li_4; omega) dX11_of_76 (fun v10 e_v10 => ?_)
      clear e_v10
      refine lv_ladd hx hb dX11_of_77 (lv_topl (fun v11 e_v11 => ?_))
      refine lv_aload_n hx hb dX11_of_78 rfl (lv_at hl 0 rfl) ?_
      refine tz_get (ci := 8) (v := .ref h4) (C := RX11) (F := TX11) (N := 36) hx hb hU iX11 hown hK hT 3 rfl rfl 11 (by decide) w796 (fun _ h9 => h9) rfl dX11_of_79 ?_
      refine lv_bipush (v := 8) hx hb dX11_of_82 (by decide) ?_
      refine tz_lald hx hb hK hT 4 rfl (by have := li_8; omega) dX11_of_84 (fun v12 e_v12 => ?_)
      clear e_v12
      refine lv_ladd hx hb dX11_of_85 (lv_topl (fun v13 e_v13 => ?_))
      refine lv_l2i hx hb dX11_of_86 rfl (lv_topi (fun v14 _ => ?_))
      refine lv_iadd hx hb dX11_of_87 (lv_topi (fun v15 e_v15 => ?_))
      exact tz_retI (B := B_cX11_of_dc492 D k h0 h1 h3 h4 h5 h6 h2 h7 h8 h9 h10 h11 h12 h13 h14 h15 h16 h17 h18 h19 h20 h21 x1 x2 h0f0 h0f1 h0f2 h0f3 h0f4 h0f5 h0f8 h0f9 h0f17 h0f18 h0f19 h0f24 h0f25 h0f30 h0f31) (v := v15) hQ hx hb hr hlocks hS (Nat.le_of_ble_eq_true rfl) (Nat.le_of_ble_eq_true rfl) dX11_of_88 ((hT.sub [3, 5, 0, 4, 1, 2] (by decide) rfl))
    · skip
      refine lv_tableIn (tgt := 89) (off := 69) hx hb dX11_of_20 (by omega) (by omega) (by rw [c_5]; decide +kernel) (by decide) ?_
      refine lv_aload_n hx hb dX11_of_89 rfl (lv_at hl 0 rfl) ?_
      refine tcI (Tc := [(h0, ob 8 [.int h0f0, .int h0f1, .int h0f2, .int h0f3, .int h0f4, .int h0f5, .ref h1, .ref h2, .int h0f8, .int h0f9, .ref h3, .ref h4, .ref h5, .ref h6, .ref h7, .ref h8, .ref h9, .int h0f17, .int h0f18, .int h0f19, .ref h10, .ref h11, .ref h12, .ref h13, .int h0f24, .int h0f25, .ref h14, .ref h15, .ref h16, .ref h17, .int h0f30, .int h0f31, .ref h18, .ref h19, .ref h20, .ref h21]), (h3, aJ (k 1) 9 anJ), (h4, aJ (k 1) 9 anJ), (h5, aJ (k 1) 9 anJ), (h6, aJ (k 1) 9 anJ)]) (Tr := [(h1, aI (k 0) 36 anI)]) (as := [h0, h3, h4, h5, h6]) (zcV (q0 := 3) (ci := 8) (As := []) (rest := []) (Tc := [(h0, ob 8 [.int h0f0, .int h0f1, .int h0f2, .int h0f3, .int h0f4, .int h0f5, .ref h1, .ref h2, .int h0f8, .int h0f9, .ref h3, .ref h4, .ref h5, .ref h6, .ref h7, .ref h8, .ref h9, .int h0f17, .int h0f18, .int h0f19, .ref h10, .ref h11, .ref h12, .ref h13, .int h0f24, .int h0f25, .ref h14, .ref h15, .ref h16, .ref h17, .int h0f30, .int h0f31, .ref h18, .ref h19, .ref h20, .ref h21]), (h3, aJ (k 1) 9 anJ), (h4, aJ (k 1) 9 anJ), (h5, aJ (k 1) 9 anJ), (h6, aJ (k 1) 9 anJ)]) hx hb hml hown hU hK hT rfl rfl [3, 0, 4, 1, 2] rfl (by decide) (cX11_order_ae9df l D k _ h0 h3 h4 h5 h6 h1 h2 h7 h8 h9 h10 h11 h12 h13 h14 h15 h16 h17 h18 h19 h20 h21 h0f0 h0f1 h0f2 h0f3 h0f4 h0f5 h0f8 h0f9 h0f17 h0f18 h0f19 h0f24 h0f25 h0f30 h0f31 (by omega) (by omega) (by omega) (by omega) (by omega) (by omega) (by omega) (by omega) (by omega) (by omega) (by omega) (by omega) (by omega)) w972 w969 w971 w37 w72 hdX11_order ⟨rfl, rfl⟩ ⟨Nat.le_of_ble_eq_true rfl, Nat.le_of_ble_eq_true rfl⟩ rfl hl.1 (Nat.le_of_ble_eq_true rfl) dX11_of_90 ⟨Nat.le_of_ble_eq_true rfl, Nat.le_of_ble_eq_true rfl⟩) hT hS hA [3, 0, 4, 1, 2] [5] rfl rfl rfl (by decide) (by decide) (fun r16 H locs hB J hS => ?_)
      obtain ⟨b_r16, hT1⟩ := hB
      have hT := J _ hT1
      have hT : TP D A [(h1, aI (k 0) 36 anI), (h0, ob 8 [.int h0f0, .int h0f1, .int h0f2, .int h0f3, .int h0f4, .int h0f5, .ref h1, .ref h2, .int h0f8, .int h0f9, .ref h3, .ref h4, .ref h5, .ref h6, .ref h7, .ref h8, .ref h9, .int h0f17, .int h0f18, .int h0f19, .ref h10, .ref h11, .ref h12, .ref h13, .int h0f24, .int h0f25, .ref h14, .ref h15, .ref h16, .ref h17, .int h0f30, .int h0f31, .ref h18, .ref h19, .ref h20, .ref h21]), (h3, aJ (k 1) 9 anJ), (h4, aJ (k 1) 9 anJ), (h5, aJ (k 1) 9 anJ), (h6, aJ (k 1) 9 anJ)] H := hT
      exact tz_retI (B := B_cX11_of_dc492 D k h0 h1 h3 h4 h5 h6 h2 h7 h8 h9 h10 h11 h12 h13 h14 h15 h16 h17 h18 h19 h20 h21 x1 x2 h0f0 h0f1 h0f2 h0f3 h0f4 h0f5 h0f8 h0f9 h0f17 h0f18 h0f19 h0f24 h0f25 h0f30 h0f31) (v := r16) hQ hx hb hr hlocks hS (Nat.le_of_ble_eq_true rfl) (Nat.le_of_ble_eq_true rfl) dX11_of_93 ((hT.sub [1, 0, 2, 3, 4, 5] (by decide) rfl))
abbrev Rm_cX7_cofactor_42523 : Room := { frames := 0, cells := 0, slots := 0, locals := 0 }
abbrev B_cX7_cofactor_42523 (D : va_G) (k : Nat → ClassId) (h0 : Nat) (x1 : Int32) (x3 : Int32) (x4 : Int32) (A : Nat → Prop) (r : Int64) (H : Heap) : Prop := TP D A [(h0, aJ (k 1) 36 anJ)] H
set_option maxHeartbeats 4000000 in
set_option maxRecDepth 100000 in
theorem cX7_cofactor_42523 (l : Launch) (D : va_G) (k : Nat → ClassId) (sz : Nat) (h0 : Nat) (x1 : Int32) (x3 : Int32) (x4 : Int32) (b_x1 : 0 ≤ x1.toInt ∧ x1.toInt ≤ 27) (b_x3 : 0 ≤ x3.toInt ∧ x3.toInt ≤ 2) (b_x4 : 0 ≤ x4.toInt ∧ x4.toInt ≤ 2) : Met l yX7_cofactor (Cond.code yX7_cofactor cX7_cofactor 9 (some .long) :: uw) Rm_cX7_cofactor_42523 (pT D k sz [.ref h0, .int x1, .int 3, .int x3, .int x4] [(h0, aJ (k 1) 36 anJ)]) (qL (B_cX7_cofactor_42523 D k h0 x1 x3 x4 (zA [h0] sz)) (zA [h0] sz)) 0 0 (zA [h0] sz) := by
  refine tz_begin (as := [h0]) (Qc := fun A => qL (B_cX7_cofactor_42523 D k h0 x1 x3 x4 A) A) (by decide +kernel) rfl (Nat.le_of_ble_eq_true rfl) ?_
  intro p e s m args below meth c ls A Q hx hb hr hml hown hlocks hin hU hK hT hS hA hl hQ
  have hl : lv_has ls 9 [(0, .ref h0), (1, .int x1), (2, .int 3), (3, .int x3), (4, .int x4)] := hl
  have hT : TP D A [(h0, aJ (k 1) 36 anJ)] s.heap := hT
  refine lv_iload_n hx hb dX7_cofactor_0 rfl (lv_at hl 2 rfl) ?_
  refine lv_iconst (v := 1) hx hb dX7_cofactor_1 (by decide) ?_
  refine lv_icmp_ne (tgt := 7) hx hb dX7_cofactor_2 (by decide) (fun _ => ?_) (fun cc => absurd cc (by decide +kernel))
  refine lv_iload_n hx hb dX7_cofactor_7 rfl (lv_at hl 2 rfl) ?_
  refine lv_iconst (v := 2) hx hb dX7_cofactor_8 (by decide) ?_
  refine lv_icmp_ne (tgt := 43) hx hb dX7_cofactor_9 (by decide) (fun _ => ?_) (fun cc => absurd cc (by decide +kernel))
  refine lv_iload_n hx hb dX7_cofactor_43 rfl (lv_at hl 1 rfl) ?_
  refine lv_iload_n hx hb dX7_cofactor_44 rfl (lv_at hl 3 rfl) ?_
  refine lv_iconst (v := 1) hx hb dX7_cofactor_45 (by decide) ?_
  refine lv_iadd hx hb dX7_cofactor_46 (lv_topi (fun v1 e_v1 => ?_))
  have e_v1 := ai_add e_v1 rfl li_1 (by omega)
  refine lv_iconst (v := 3) hx hb dX7_cofactor_47 (by decide) ?_
  refine lv_irem hx hb dX7_cofactor_48 (by decide +kernel) (lv_topi (fun v2 e_v2 => ?_))
  have e_v2 := ai_rem e_v2 rfl li_3 (by omega)
  refine lv_iconst (v := 3) hx hb dX7_cofactor_49 (by decide) ?_
  refine lv_imul hx hb dX7_cofactor_50 (lv_topi (fun v3 e_v3 => ?_))
  have e_v3 := ai_mul e_v3 rfl li_3 (by omega)
  refine lv_iadd hx hb dX7_cofactor_51 (lv_topi (fun v4 e_v4 => ?_))
  have e_v4 := ai_add e_v4 rfl rfl (by omega)
  refine lv_istore (lv' := [(5, .int v4), (0, .ref h0), (1, .int x1), (2, .int 3), (3, .int x3), (4, .int x4)]) hx hb dX7_cofactor_52 hl (by decide) rfl (fun ls hl => ?_)
  refine lv_iload_n hx hb dX7_cofactor_54 rfl (lv_at hl 2 rfl) ?_
  refine lv_iload_n hx hb dX7_cofactor_55 rfl (lv_at hl 4 rfl) ?_
  refine lv_iconst (v := 2) hx hb dX7_cofactor_56 (by decide) ?_
  refine lv_iadd hx hb dX7_cofactor_57 (lv_topi (fun v5 e_v5 => ?_))
  have e_v5 := ai_add e_v5 rfl li_2 (by omega)
  refine lv_iconst (v := 3) hx hb dX7_cofactor_58 (by decide) ?_
  refine lv_irem hx hb dX7_cofactor_59 (by decide +kernel) (lv_topi (fun v6 e_v6 => ?_))
  have e_v6 := ai_rem e_v6 rfl li_3 (by omega)
  refine lv_iconst (v := 3) hx hb dX7_cofactor_60 (by decide) ?_
  refine lv_imul hx hb dX7_cofactor_61 (lv_topi (fun v7 e_v7 => ?_))
  have e_v7 := ai_mul e_v7 rfl li_3 (by omega)
  refine lv_iadd hx hb dX7_cofactor_62 (lv_topi (fun v8 e_v8 => ?_))
  have e_v8 := ai_add e_v8 rfl rfl (by omega)
  refine lv_istore (lv' := [(6, .int v8), (5, .int v4), (0, .ref h0), (1, .int x1), (2, .int 3), (3, .int x3), (4, .int x4)]) hx hb dX7_cofactor_63 hl (by decide) rfl (fun ls hl => ?_)
  refine lv_iload hx hb dX7_cofactor_65 (lv_at hl 6 rfl) ?_
  refine lv_iconst (v := 1) hx hb dX7_cofactor_67 (by decide) ?_
  refine lv_iadd hx hb dX7_cofactor_68 (lv_topi (fun v9 e_v9 => ?_))
  have e_v9 := ai_add e_v9 rfl li_1 (by omega)
  refine lv_iconst (v := 3) hx hb dX7_cofactor_69 (by decide) ?_
  refine lv_irem hx hb dX7_cofactor_70 (by decide +kernel) (lv_topi (fun v10 e_v10 => ?_))
  have e_v10 := ai_rem e_v10 rfl li_3 (by omega)
  refine lv_istore (lv' := [(7, .int v10), (6, .int v8), (5, .int v4), (0, .ref h0), (1, .int x1), (2, .int 3), (3, .int x3), (4, .int x4)]) hx hb dX7_cofactor_71 hl (by decide) rfl (fun ls hl => ?_)
  refine lv_iload hx hb dX7_cofactor_73 (lv_at hl 7 rfl) ?_
  refine lv_iconst (v := 2) hx hb dX7_cofactor_75 (by decide) ?_
  refine lv_iadd hx hb dX7_cofactor_76 (lv_topi (fun v11 e_v11 => ?_))
  have e_v11 := ai_add e_v11 rfl li_2 (by omega)
  refine lv_iconst (v := 3) hx hb dX7_cofactor_77 (by decide) ?_
  refine lv_irem hx hb dX7_cofactor_78 (by decide +kernel) (lv_topi (fun v12 e_v12 => ?_))
  have e_v12 := ai_rem e_v12 rfl li_3 (by omega)
  refine lv_istore (lv' := [(8, .int v12), (7, .int v10), (6, .int v8), (5, .int v4), (0, .ref h0), (1, .int x1), (2, .int 3), (3, .int x3), (4, .int x4)]) hx hb dX7_cofactor_79 hl (by decide) rfl (fun ls hl => ?_)
  refine lv_aload_n hx hb dX7_cofactor_81 rfl (lv_at hl 4 rfl) ?_
  refine lv_iload hx hb dX7_cofactor_82 (lv_at hl 3 rfl) ?_
  refine lv_iload hx hb dX7_cofactor_84 (lv_at hl 1 rfl) ?_
  refine lv_iadd hx hb dX7_cofactor_86 (lv_topi (fun v13 e_v13 => ?_))
  have e_v13 := ai_add e_v13 rfl rfl (by omega)
  refine tz_lald hx hb hK hT 0 rfl (by omega) dX7_cofactor_87 (fun v14 e_v14 => ?_)
  clear e_v14
  refine lv_aload_n hx hb dX7_cofactor_88 rfl (lv_at hl 4 rfl) ?_
  refine lv_iload hx hb dX7_cofactor_89 (lv_at hl 2 rfl) ?_
  refine lv_iload hx hb dX7_cofactor_91 (lv_at hl 0 rfl) ?_
  refine lv_iadd hx hb dX7_cofactor_93 (lv_topi (fun v15 e_v15 => ?_))
  have e_v15 := ai_add e_v15 rfl rfl (by omega)
  refine tz_lald hx hb hK hT 0 rfl (by omega) dX7_cofactor_94 (fun v16 e_v16 => ?_)
  clear e_v16
  refine lv_lmul hx hb dX7_cofactor_95 (lv_topl (fun v17 e_v17 => ?_))
  refine lv_aload_n hx hb dX7_cofactor_96 rfl (lv_at hl 4 rfl) ?_
  refine lv_iload hx hb dX7_cofactor_97 (lv_at hl 3 rfl) ?_
  refine lv_iload hx hb dX7_cofactor_99 (lv_at hl 0 rfl) ?_
  refine lv_iadd hx hb dX7_cofactor_101 (lv_topi (fun v18 e_v18 => ?_))
  have e_v18 := ai_add e_v18 rfl rfl (by omega)
  refine tz_lald hx hb hK hT 0 rfl (by omega) dX7_cofactor_102 (fun v19 e_v19 => ?_)
  clear e_v19
  refine lv_aload_n hx hb dX7_cofactor_103 rfl (lv_at hl 4 rfl) ?_
  refine lv_iload hx hb dX7_cofactor_104 (lv_at hl 2 rfl) ?_
  refine lv_iload hx hb dX7_cofactor_106 (lv_at hl 1 rfl) ?_
  refine lv_iadd hx hb dX7_cofactor_108 (lv_topi (fun v20 e_v20 => ?_))
  have e_v20 := ai_add e_v20 rfl rfl (by omega)
  refine tz_lald hx hb hK hT 0 rfl (by omega) dX7_cofactor_109 (fun v21 e_v21 => ?_)
  clear e_v21
  refine lv_lmul hx hb dX7_cofactor_110 (lv_topl (fun v22 e_v22 => ?_))
  refine lv_lsub hx hb dX7_cofactor_111 (lv_topl (fun v23 e_v23 => ?_))
  exact tz_retL (B := B_cX7_cofactor_42523 D k h0 x1 x3 x4) (v := v23) hQ hx hb hr hlocks hS (Nat.le_of_ble_eq_true rfl) (Nat.le_of_ble_eq_true rfl) dX7_cofactor_112 (hT)
abbrev Rm_cX3_characterOf_18d92 : Room := { frames := 2, cells := 1, slots := 4, locals := 54 }
abbrev B_cX3_characterOf_18d92 (D : va_G) (k : Nat → ClassId) (h0 : Nat) (x1 : Int32) (x2 : Int32) (A : Nat → Prop) (r : Nat) (H : Heap) : Prop := ∃ n0 : Nat, n0 = r ∧ TP D A [(h0, aJ (k 1) 36 anJ), (n0, aJ (k 1) 4 anJ)] H
set_option maxHeartbeats 4000000 in
set_option maxRecDepth 100000 in
theorem cX3_characterOf_18d92 (l : Launch) (D : va_G) (k : Nat → ClassId) (sz : Nat) (h0 : Nat) (x1 : Int32) (x2 : Int32) (b_x1 : 0 ≤ x1.toInt ∧ x1.toInt ≤ 27) (b_x2 : 1 ≤ x2.toInt ∧ x2.toInt ≤ 3) : Met l yX3_characterOf (Cond.code yX3_characterOf cX3_characterOf 7 (some (.array .long)) :: uw) Rm_cX3_characterOf_18d92 (pT D k sz [.ref h0, .int x1, .int x2] [(h0, aJ (k 1) 36 anJ)]) (qR (B_cX3_characterOf_18d92 D k h0 x1 x2 (zA [h0] sz)) (zA [h0] sz)) 1 4 (zA [h0] sz) := by
  refine tz_begin (as := [h0]) (Qc := fun A => qR (B_cX3_characterOf_18d92 D k h0 x1 x2 A) A) (by decide +kernel) rfl (Nat.le_of_ble_eq_true rfl) ?_
  intro p e s m args below meth c ls A Q hx hb hr hml hown hlocks hin hU hK hT hS hA hl hQ
  have hl : lv_has ls 7 [(0, .ref h0), (1, .int x1), (2, .int x2)] := hl
  have hT : TP D A [(h0, aJ (k 1) 36 anJ)] s.heap := hT
  refine lv_iconst (v := 4) hx hb dX3_characterOf_0 (by decide) ?_
  refine tz_nal (N := 4) hx hb hU w113 hK hT hS hA (by decide +kernel) (by decide +kernel) (Nat.le_of_ble_eq_true rfl) (Nat.le_of_ble_eq_true rfl) (Nat.le_of_ble_eq_true rfl) dX3_characterOf_1 (fun q1 H hT hS => ?_)
  have hT : TP D A [(h0, aJ (k 1) 36 anJ), (q1, aJ (k 1) 4 anJ)] H := hT
  refine lv_astore_n (lv' := [(3, .ref q1), (0, .ref h0), (1, .int x1), (2, .int x2)]) hx hb dX3_characterOf_3 rfl hl (by decide) rfl (fun ls hl => ?_)
  refine lv_aload_n hx hb dX3_characterOf_4 rfl (lv_at hl 1 rfl) ?_
  refine lv_iload_n hx hb dX3_characterOf_5 rfl (lv_at hl 2 rfl) ?_
  refine lv_iload_n hx hb dX3_characterOf_6 rfl (lv_at hl 3 rfl) ?_
  refine lv_iload_n hx hb dX3_characterOf_7 rfl (lv_at hl 3 rfl) ?_
  refine tcL (Tc := [(h0, aJ (k 1) 36 anJ)]) (Tr := [(q1, aJ (k 1) 4 anJ)]) (as := [h0]) (zcS (As := [.ref h0, .int x1, .int x2, .int x2]) (rest := []) (Tc := [(h0, aJ (k 1) 36 anJ)]) hx hb hml hown hU hK hT [0] rfl (by decide) (cX7_determinant_05929 l D k _ h0 x1 x2 x2 (by omega) (by omega) (by omega)) w372 w423 w371 w74 hdX7_determinant ⟨rfl, rfl⟩ ⟨Nat.le_of_ble_eq_true rfl, Nat.le_of_ble_eq_true rfl⟩ rfl hl.1 (Nat.le_of_ble_eq_true rfl) dX3_characterOf_8 ⟨Nat.le_of_ble_eq_true rfl, Nat.le_of_ble_eq_true rfl⟩) hT hS hA [0] [1] rfl rfl rfl (by decide) (by decide) (fun r2 H locs hB J hS => ?_)
  have hT1 := hB
  have hT := J _ hT1
  have hT : TP D A [(q1, aJ (k 1) 4 anJ), (h0, aJ (k 1) 36 anJ)] H := hT
  refine lv_lstore (lv' := [(4, .long r2), (3, .ref q1), (0, .ref h0), (1, .int x1), (2, .int x2)]) hx hb dX3_characterOf_11 hl (by decide) rfl (fun ls hl => ?_)
  refine lv_aload_n hx hb dX3_characterOf_13 rfl (lv_at hl 1 rfl) ?_
  refine lv_iconst (v := 0) hx hb dX3_characterOf_14 (by decide) ?_
  refine lv_iload_n hx hb dX3_characterOf_15 rfl (lv_at hl 4 rfl) ?_
  refine lv_iconst (v := 2) hx hb dX3_characterOf_16 (by decide) ?_
  refine lv_icmp_ne (tgt := 25) hx hb dX3_characterOf_17 (by decide) (fun c_3 => ?_) (fun c_3 => ?_)
  · skip
    have c_3 := ni_ne c_3 rfl li_2
    refine lv_lload hx hb dX3_characterOf_25 (lv_at hl 0 rfl) ?_
    refine lv_lneg hx hb dX3_characterOf_27 (lv_topl (fun v4 e_v4 => ?_))
    refine tz_last hx hb hK hT hS 0 rfl (by have := li_0; omega) (fun _ _ => trivial) dX3_characterOf_28 (fun H locs hT hS => ?_)
    refine lv_iload_n hx hb dX3_characterOf_29 rfl (lv_at hl 4 rfl) ?_
    refine lv_iconst (v := 3) hx hb dX3_characterOf_30 (by decide) ?_
    refine lv_icmp_ne (tgt := 65) hx hb dX3_characterOf_31 (by decide) (fun c_5 => ?_) (fun c_5 => ?_)
    · skip
      have c_5 := ni_ne c_5 rfl li_3
      refine lv_iload_n hx hb dX3_characterOf_65 rfl (lv_at hl 4 rfl) ?_
      refine lv_iconst (v := 1) hx hb dX3_characterOf_66 (by decide) ?_
      refine lv_icmp_le (tgt := 82) hx hb dX3_characterOf_67 (by decide) (fun c_6 => ?_) (fun c_6 => ?_)
      · skip
        have c_6 := ni_le c_6 rfl li_1
        refine lv_aload_n hx hb dX3_characterOf_82 rfl (lv_at hl 1 rfl) ?_
        refine lv_iload_n hx hb dX3_characterOf_83 rfl (lv_at hl 4 rfl) ?_
        refine lv_lconst (v := 1) hx hb dX3_characterOf_84 (by decide) ?_
        refine tz_last hx hb hK hT hS 0 rfl (by omega) (fun _ _ => trivial) dX3_characterOf_85 (fun H locs hT hS => ?_)
        refine lv_aload_n hx hb dX3_characterOf_86 rfl (lv_at hl 1 rfl) ?_
        exact tz_retA (B := B_cX3_characterOf_18d92 D k h0 x1 x2) (v := q1) hQ hx hb hr hlocks hS (Nat.le_of_ble_eq_true rfl) (Nat.le_of_ble_eq_true rfl) dX3_characterOf_87 (⟨q1, rfl, (hT.sub [1, 0] (by decide) rfl)⟩)
      · skip
        have c_6 := ni_nle c_6 rfl li_1
        exfalso; omega
    · skip
      have c_5 := ni_eq c_5 rfl li_3
      refine lv_iconst (v := 0) hx hb dX3_characterOf_34 (by decide) ?_
      refine lv_istore (lv' := [(6, .int 0), (4, .long r2), (3, .ref q1), (0, .ref h0), (1, .int x1), (2, .int x2)]) hx hb dX3_characterOf_35 hl (by decide) rfl (fun ls hl => ?_)
      have lp37_10 : ∀ (n : Nat) (y9 : Int32) (H : Heap) (locs : List Loc) (ls : Array Slot), (0 ≤ y9.toInt ∧ y9.toInt ≤ 3) → ((-1) * y9.toInt + 3 + 1).toNat < n → TP D A [(q1, aJ (k 1) 4 anJ), (h0, aJ (k 1) 36 anJ)] H → va_S A s.heap H locs → lv_has ls 7 [(0, .ref h0), (1, .int x1), (2, .int x2), (3, .ref q1), (6, .int y9)] → W p l e Rm_cX3_characterOf_18d92 s m args below meth c H locs 1 4 Q (F0 m 37 ls []) := by
        intro n
        induction n with
        | zero => intro y9 H locs ls b_y9 hm hT hS hl; exact absurd hm (Nat.not_lt_zero _)
        | succ n ih =>
          intro y9 H locs ls b_y9 hm hT hS hl
          have ih37_10 := ih
          clear ih
          refine lv_iload hx hb dX3_characterOf_37 (lv_at hl 4 rfl) ?_
          refine lv_iconst (v := 3) hx hb dX3_characterOf_39 (by decide) ?_
          refine lv_icmp_ge (tgt := 65) hx hb dX3_characterOf_40 (by decide) (fun c_11 => ?_) (fun c_11 => ?_)
          · skip
            have c_11 := ni_le c_11 li_3 rfl
            refine lv_iload_n hx hb dX3_characterOf_65 rfl (lv_at hl 2 rfl) ?_
            refine lv_iconst (v := 1) hx hb dX3_characterOf_66 (by decide) ?_
            refine lv_icmp_le (tgt := 82) hx hb dX3_characterOf_67 (by decide) (fun c_12 => ?_) (fun c_12 => ?_)
            · skip
              have c_12 := ni_le c_12 rfl li_1
              exfalso; omega
            · skip
              have c_12 := ni_nle c_12 rfl li_1
              refine lv_aload_n hx hb dX3_characterOf_70 rfl (lv_at hl 3 rfl) ?_
              refine lv_iload_n hx hb dX3_characterOf_71 rfl (lv_at hl 2 rfl) ?_
              refine lv_iconst (v := 1) hx hb dX3_characterOf_72 (by decide) ?_
              have hq13 : x2.toInt = 3 := by omega
              refine lv_isub hx hb dX3_characterOf_73 (lv_topi (fun v14 e_v14 => ?_))
              have e_v14 := ai_sub e_v14 hq13 li_1 (by omega)
              refine lv_aload_n hx hb dX3_characterOf_74 rfl (lv_at hl 0 rfl) ?_
              refine lv_iload_n hx hb dX3_characterOf_75 rfl (lv_at hl 1 rfl) ?_
              refine lv_iload_n hx hb dX3_characterOf_76 rfl (lv_at hl 2 rfl) ?_
              refine tcL (Tc := [(h0, aJ (k 1) 36 anJ)]) (Tr := [(q1, aJ (k 1) 4 anJ)]) (as := [h0]) (zcS (As := [.ref h0, .int x1, .int x2]) (rest := [.int v14, .ref q1]) (Tc := [(h0, aJ (k 1) 36 anJ)]) hx hb hml hown hU hK hT [1] rfl (by decide) (cX7_trace_e2d54 l D k _ h0 x1 x2 (by omega) (by omega)) w405 w425 w404 w74 hdX7_trace ⟨rfl, rfl⟩ ⟨Nat.le_of_ble_eq_true rfl, Nat.le_of_ble_eq_true rfl⟩ rfl hl.1 (Nat.le_of_ble_eq_true rfl) dX3_characterOf_77 ⟨Nat.le_of_ble_eq_true rfl, Nat.le_of_ble_eq_true rfl⟩) hT hS hA [1] [0] rfl rfl rfl (by decide) (by decide) (fun r15 H locs hB J hS => ?_)
              have hT1 := hB
              have hT := J _ hT1
              have hT : TP D A [(q1, aJ (k 1) 4 anJ), (h0, aJ (k 1) 36 anJ)] H := hT
              refine lv_lneg hx hb dX3_characterOf_80 (lv_topl (fun v16 e_v16 => ?_))
              refine tz_last hx hb hK hT hS 0 rfl (by omega) (fun _ _ => trivial) dX3_characterOf_81 (fun H locs hT hS => ?_)
              refine lv_aload_n hx hb dX3_characterOf_82 rfl (lv_at hl 3 rfl) ?_
              refine lv_iload_n hx hb dX3_characterOf_83 rfl (lv_at hl 2 rfl) ?_
              refine lv_lconst (v := 1) hx hb dX3_characterOf_84 (by decide) ?_
              refine tz_last hx hb hK hT hS 0 rfl (by omega) (fun _ _ => trivial) dX3_characterOf_85 (fun H locs hT hS => ?_)
              refine lv_aload_n hx hb dX3_characterOf_86 rfl (lv_at hl 3 rfl) ?_
              exact tz_retA (B := B_cX3_characterOf_18d92 D k h0 x1 x2) (v := q1) hQ hx hb hr hlocks hS (Nat.le_of_ble_eq_true rfl) (Nat.le_of_ble_eq_true rfl) dX3_characterOf_87 (⟨q1, rfl, (hT.sub [1, 0] (by decide) rfl)⟩)
          · skip
            have c_11 := ni_nle c_11 li_3 rfl
            refine lv_aload_n hx hb dX3_characterOf_43 rfl (lv_at hl 3 rfl) ?_
            refine lv_iconst (v := 1) hx hb dX3_characterOf_44 (by decide) ?_
            refine lv_dup2_11 hx hb dX3_characterOf_45 rfl rfl ?_
            refine tz_lald hx hb hK hT 0 rfl (by have := li_1; omega) dX3_characterOf_46 (fun v17 e_v17 => ?_)
            clear e_v17
            refine lv_aload_n hx hb dX3_characterOf_47 rfl (lv_at hl 0 rfl) ?_
            refine lv_iload_n hx hb dX3_characterOf_48 rfl (lv_at hl 1 rfl) ?_
            refine lv_iconst (v := 3) hx hb dX3_characterOf_49 (by decide) ?_
            refine lv_iload hx hb dX3_characterOf_50 (lv_at hl 4 rfl) ?_
            refine lv_iload hx hb dX3_characterOf_52 (lv_at hl 4 rfl) ?_
            refine tcL (Tc := [(h0, aJ (k 1) 36 anJ)]) (Tr := [(q1, aJ (k 1) 4 anJ)]) (as := [h0]) (zcS (As := [.ref h0, .int x1, .int 3, .int y9, .int y9]) (rest := [.long v17, .int 1, .ref q1]) (Tc := [(h0, aJ (k 1) 36 anJ)]) hx hb hml hown hU hK hT [1] rfl (by decide) (cX7_cofactor_42523 l D k _ h0 x1 y9 y9 (by omega) (by omega) (by omega)) w375 w424 w374 w74 hdX7_cofactor ⟨rfl, rfl⟩ ⟨Nat.le_of_ble_eq_true rfl, Nat.le_of_ble_eq_true rfl⟩ rfl hl.1 (Nat.le_of_ble_eq_true rfl) dX3_characterOf_54 ⟨Nat.le_of_ble_eq_true rfl, Nat.le_of_ble_eq_true rfl⟩) hT hS hA [1] [0] rfl rfl rfl (by decide) (by decide) (fun r18 H locs hB J hS => ?_)
            have hT1 := hB
            have hT := J _ hT1
            have hT : TP D A [(q1, aJ (k 1) 4 anJ), (h0, aJ (k 1) 36 anJ)] H := hT
            refine lv_ladd hx hb dX3_characterOf_57 (lv_topl (fun v19 e_v19 => ?_))
            refine tz_last hx hb hK hT hS 0 rfl (by have := li_1; omega) (fun _ _ => trivial) dX3_characterOf_58 (fun H locs hT hS => ?_)
            obtain ⟨v20, e_v20⟩ : ∃ x : Int32, x = y9 + Int32.ofInt 1 := ⟨_, rfl⟩
            have f_v20 := e_v20.symm
            have e_v20 : v20.toInt = y9.toInt + 1 := ai_add e_v20 rfl (show (Int32.ofInt 1).toInt = 1 from (by decide +kernel)) (by omega)
            refine lv_iinc (v := v20) (lv' := [(6, .int v20), (0, .ref h0), (1, .int x1), (2, .int x2), (3, .ref q1)]) hx hb dX3_characterOf_59 hl (k := 4) rfl f_v20 (by decide) rfl (fun ls hl => ?_)
            refine lv_goto (tgt := 37) hx hb dX3_characterOf_62 (by decide) ?_
            exact ih37_10 v20 _ _ _ (by omega)  (by omega) hT hS (lv_sub hl [1, 2, 3, 4, 0] rfl)
      exact lp37_10 (((-1) * (0 : Int32).toInt + 3 + 1).toNat + 1) (0) _ _ _ (by have := li_0; omega)  (Nat.lt_succ_self _) hT hS (lv_sub hl [3, 4, 5, 2, 0] rfl)
  · skip
    have c_3 := ni_eq c_3 rfl li_2
    refine lv_lload hx hb dX3_characterOf_20 (lv_at hl 0 rfl) ?_
    refine lv_goto (tgt := 28) hx hb dX3_characterOf_22 (by decide) ?_
    refine tz_last hx hb hK hT hS 0 rfl (by have := li_0; omega) (fun _ _ => trivial) dX3_characterOf_28 (fun H locs hT hS => ?_)
    refine lv_iload_n hx hb dX3_characterOf_29 rfl (lv_at hl 4 rfl) ?_
    refine lv_iconst (v := 3) hx hb dX3_characterOf_30 (by decide) ?_
    refine lv_icmp_ne (tgt := 65) hx hb dX3_characterOf_31 (by decide) (fun c_21 => ?_) (fun c_21 => ?_)
    · skip
      have c_21 := ni_ne c_21 rfl li_3
      refine lv_iload_n hx hb dX3_characterOf_65 rfl (lv_at hl 4 rfl) ?_
      refine lv_iconst (v := 1) hx hb dX3_characterOf_66 (by decide) ?_
      refine lv_icmp_le (tgt := 82) hx hb dX3_characterOf_67 (by decide) (fun c_22 => ?_) (fun c_22 => ?_)
      · skip
        have c_22 := ni_le c_22 rfl li_1
        exfalso; omega
      · skip
        have c_22 := ni_nle c_22 rfl li_1
        refine lv_aload_n hx hb dX3_characterOf_70 rfl (lv_at hl 1 rfl) ?_
        refine lv_iload_n hx hb dX3_characterOf_71 rfl (lv_at hl 4 rfl) ?_
        refine lv_iconst (v := 1) hx hb dX3_characterOf_72 (by decide) ?_
        have hq23 : x2.toInt = 2 := by omega
        refine lv_isub hx hb dX3_characterOf_73 (lv_topi (fun v24 e_v24 => ?_))
        have e_v24 := ai_sub e_v24 hq23 li_1 (by omega)
        refine lv_aload_n hx hb dX3_characterOf_74 rfl (lv_at hl 2 rfl) ?_
        refine lv_iload_n hx hb dX3_characterOf_75 rfl (lv_at hl 3 rfl) ?_
        refine lv_iload_n hx hb dX3_characterOf_76 rfl (lv_at hl 4 rfl) ?_
        refine tcL (Tc := [(h0, aJ (k 1) 36 anJ)]) (Tr := [(q1, aJ (k 1) 4 anJ)]) (as := [h0]) (zcS (As := [.ref h0, .int x1, .int x2]) (rest := [.int v24, .ref q1]) (Tc := [(h0, aJ (k 1) 36 anJ)]) hx hb hml hown hU hK hT [1] rfl (by decide) (cX7_trace_e2d54 l D k _ h0 x1 x2 (by omega) (by omega)) w405 w425 w404 w74 hdX7_trace ⟨rfl, rfl⟩ ⟨Nat.le_of_ble_eq_true rfl, Nat.le_of_ble_eq_true rfl⟩ rfl hl.1 (Nat.le_of_ble_eq_true rfl) dX3_characterOf_77 ⟨Nat.le_of_ble_eq_true rfl, Nat.le_of_ble_eq_true rfl⟩) hT hS hA [1] [0] rfl rfl rfl (by decide) (by decide) (fun r25 H locs hB J hS => ?_)
        have hT1 := hB
        have hT := J _ hT1
        have hT : TP D A [(q1, aJ (k 1) 4 anJ), (h0, aJ (k 1) 36 anJ)] H := hT
        refine lv_lneg hx hb dX3_characterOf_80 (lv_topl (fun v26 e_v26 => ?_))
        refine tz_last hx hb hK hT hS 0 rfl (by omega) (fun _ _ => trivial) dX3_characterOf_81 (fun H locs hT hS => ?_)
        refine lv_aload_n hx hb dX3_characterOf_82 rfl (lv_at hl 1 rfl) ?_
        refine lv_iload_n hx hb dX3_characterOf_83 rfl (lv_at hl 4 rfl) ?_
        refine lv_lconst (v := 1) hx hb dX3_characterOf_84 (by decide) ?_
        refine tz_last hx hb hK hT hS 0 rfl (by omega) (fun _ _ => trivial) dX3_characterOf_85 (fun H locs hT hS => ?_)
        refine lv_aload_n hx hb dX3_characterOf_86 rfl (lv_at hl 1 rfl) ?_
        exact tz_retA (B := B_cX3_characterOf_18d92 D k h0 x1 x2) (v := q1) hQ hx hb hr hlocks hS (Nat.le_of_ble_eq_true rfl) (Nat.le_of_ble_eq_true rfl) dX3_characterOf_87 (⟨q1, rfl, (hT.sub [1, 0] (by decide) rfl)⟩)
    · skip
      have c_21 := ni_eq c_21 rfl li_3
      exfalso; omega
abbrev Rm_cX10_character_b8220 : Room := { frames := 3, cells := 1, slots := 4, locals := 80 }
abbrev B_cX10_character_b8220 (D : va_G) (k : Nat → ClassId) (h0 h1 h13 h2 h3 h4 h5 h6 h7 h8 h9 h10 h11 h12 : Nat) (x1 : Int32) (x2 : Int32) (h0f2 : Int32) (h0f6 : Int32) (h0f8 : Int32) (h0f11 : Int32) (h1f0 : Int32) (h1f1 : Int32) (h1f2 : Int32) (A : Nat → Prop) (r : Int32) (H : Heap) : Prop := TP D A [(h0, ob 7 [.ref h1, .ref h2, .int h0f2, .ref h3, .ref h4, .ref h5, .int h0f6, .ref h6, .int h0f8, .null, .ref h7, .int h0f11, .ref h8, .ref h9, .ref h10, .ref h11, .ref h12]), (h1, ob 4 [.int h1f0, .int h1f1, .int h1f2, .ref h13]), (h13, aJ (k 1) 36 anJ)] H
set_option maxHeartbeats 4000000 in
set_option maxRecDepth 100000 in
theorem cX10_character_b8220 (l : Launch) (D : va_G) (k : Nat → ClassId) (sz : Nat) (h0 h1 h13 h2 h3 h4 h5 h6 h7 h8 h9 h10 h11 h12 : Nat) (x1 : Int32) (x2 : Int32) (h0f2 : Int32) (h0f6 : Int32) (h0f8 : Int32) (h0f11 : Int32) (h1f0 : Int32) (h1f1 : Int32) (h1f2 : Int32) (b_h0f2 : 0 ≤ h0f2.toInt ∧ h0f2.toInt ≤ 1) (b_h0f6 : 0 ≤ h0f6.toInt ∧ h0f6.toInt ≤ 1) (b_h0f8 : 0 ≤ h0f8.toInt ∧ h0f8.toInt ≤ 1) (b_h0f11 : 0 ≤ h0f11.toInt ∧ h0f11.toInt ≤ 200) (b_h1f0 : 1 ≤ h1f0.toInt ∧ h1f0.toInt ≤ 3) (b_h1f1 : 0 ≤ h1f1.toInt ∧ h1f1.toInt ≤ 4) : Met l yX10_character (Cond.code yX10_character cX10_character 3 (some .int) :: uw) Rm_cX10_character_b8220 (pT D k sz [.ref h0, .int x1, .int x2] [(h0, ob 7 [.ref h1, .ref h2, .int h0f2, .ref h3, .ref h4, .ref h5, .int h0f6, .ref h6, .int h0f8, .null, .ref h7, .int h0f11, .ref h8, .ref h9, .ref h10, .ref h11, .ref h12]), (h1, ob 4 [.int h1f0, .int h1f1, .int h1f2, .ref h13]), (h13, aJ (k 1) 36 anJ)]) (qI (B_cX10_character_b8220 D k h0 h1 h13 h2 h3 h4 h5 h6 h7 h8 h9 h10 h11 h12 x1 x2 h0f2 h0f6 h0f8 h0f11 h1f0 h1f1 h1f2 (zA [h0, h1, h13] sz)) (zA [h0, h1, h13] sz)) 1 4 (zA [h0, h1, h13] sz) := by
  refine tz_begin (as := [h0, h1, h13]) (Qc := fun A => qI (B_cX10_character_b8220 D k h0 h1 h13 h2 h3 h4 h5 h6 h7 h8 h9 h10 h11 h12 x1 x2 h0f2 h0f6 h0f8 h0f11 h1f0 h1f1 h1f2 A) A) (by decide +kernel) rfl (Nat.le_of_ble_eq_true rfl) ?_
  intro p e s m args below meth c ls A Q hx hb hr hml hown hlocks hin hU hK hT hS hA hl hQ
  have hl : lv_has ls 3 [(0, .ref h0), (1, .int x1), (2, .int x2)] := hl
  have hT : TP D A [(h0, ob 7 [.ref h1, .ref h2, .int h0f2, .ref h3, .ref h4, .ref h5, .int h0f6, .ref h6, .int h0f8, .null, .ref h7, .int h0f11, .ref h8, .ref h9, .ref h10, .ref h11, .ref h12]), (h1, ob 4 [.int h1f0, .int h1f1, .int h1f2, .ref h13]), (h13, aJ (k 1) 36 anJ)] s.heap := hT
  refine lv_aload_n hx hb dX10_character_0 rfl (lv_at hl 0 rfl) ?_
  refine tz_get (ci := 7) (v := .ref h1) (C := RX10) (F := TX10) (N := 17) hx hb hU iX10 hown hK hT 0 rfl rfl 0 (by decide) w249 (fun _ h9 => h9) rfl dX10_character_1 ?_
  refine lv_iload_n hx hb dX10_character_4 rfl (lv_at hl 1 rfl) ?_
  refine tcI (Tc := [(h1, ob 4 [.int h1f0, .int h1f1, .int h1f2, .ref h13])]) (Tr := [(h0, ob 7 [.ref h1, .ref h2, .int h0f2, .ref h3, .ref h4, .ref h5, .int h0f6, .ref h6, .int h0f8, .null, .ref h7, .int h0f11, .ref h8, .ref h9, .ref h10, .ref h11, .ref h12]), (h13, aJ (k 1) 36 anJ)]) (as := [h1]) (zcV (q0 := 1) (ci := 4) (As := [.int x1]) (rest := []) (Tc := [(h1, ob 4 [.int h1f0, .int h1f1, .int h1f2, .ref h13])]) hx hb hml hown hU hK hT rfl rfl [1] rfl (by decide) (cX5_has_64567 l D k _ h1 h13 x1 h1f0 h1f1 h1f2 (by omega) (by omega)) w356 w353 w354 w355 w64 hdX5_has ⟨rfl, rfl⟩ ⟨Nat.le_of_ble_eq_true rfl, Nat.le_of_ble_eq_true rfl⟩ rfl hl.1 (Nat.le_of_ble_eq_true rfl) dX10_character_5 ⟨Nat.le_of_ble_eq_true rfl, Nat.le_of_ble_eq_true rfl⟩) hT hS hA [1] [0, 2] rfl rfl rfl (by decide) (by decide) (fun r1 H locs hB J hS => ?_)
  rcases hB with ⟨rfl, hT1⟩ | ⟨c_2, c_3, rfl, hT1⟩
  · skip
    have hT := J _ hT1
    have hT : TP D A [(h0, ob 7 [.ref h1, .ref h2, .int h0f2, .ref h3, .ref h4, .ref h5, .int h0f6, .ref h6, .int h0f8, .null, .ref h7, .int h0f11, .ref h8, .ref h9, .ref h10, .ref h11, .ref h12]), (h13, aJ (k 1) 36 anJ), (h1, ob 4 [.int h1f0, .int h1f1, .int h1f2, .ref h13])] H := hT
    refine lv_if_eq (tgt := 26) hx hb dX10_character_8 (by decide) (fun _ => ?_) (fun cc => absurd (by decide +kernel) cc)
    refine lv_iconst (v := (-1)) hx hb dX10_character_26 (by decide) ?_
    exact tz_retI (B := B_cX10_character_b8220 D k h0 h1 h13 h2 h3 h4 h5 h6 h7 h8 h9 h10 h11 h12 x1 x2 h0f2 h0f6 h0f8 h0f11 h1f0 h1f1 h1f2) (v := (-1)) hQ hx hb hr hlocks hS (Nat.le_of_ble_eq_true rfl) (Nat.le_of_ble_eq_true rfl) dX10_character_27 ((hT.sub [0, 2, 1] (by decide) rfl))
  · skip
    have hT := J _ hT1
    have hT : TP D A [(h0, ob 7 [.ref h1, .ref h2, .int h0f2, .ref h3, .ref h4, .ref h5, .int h0f6, .ref h6, .int h0f8, .null, .ref h7, .int h0f11, .ref h8, .ref h9, .ref h10, .ref h11, .ref h12]), (h13, aJ (k 1) 36 anJ), (h1, ob 4 [.int h1f0, .int h1f1, .int h1f2, .ref h13])] H := hT
    refine lv_if_eq (tgt := 26) hx hb dX10_character_8 (by decide) (fun cc => absurd cc (by decide +kernel)) (fun _ => ?_)
    refine lv_iload_n hx hb dX10_character_11 rfl (lv_at hl 2 rfl) ?_
    refine lv_if_lt (tgt := 26) hx hb dX10_character_12 (by decide) (fun c_4 => ?_) (fun c_4 => ?_)
    · skip
      have c_4 := ni_lt c_4 rfl li_0
      refine lv_iconst (v := (-1)) hx hb dX10_character_26 (by decide) ?_
      exact tz_retI (B := B_cX10_character_b8220 D k h0 h1 h13 h2 h3 h4 h5 h6 h7 h8 h9 h10 h11 h12 x1 x2 h0f2 h0f6 h0f8 h0f11 h1f0 h1f1 h1f2) (v := (-1)) hQ hx hb hr hlocks hS (Nat.le_of_ble_eq_true rfl) (Nat.le_of_ble_eq_true rfl) dX10_character_27 ((hT.sub [0, 2, 1] (by decide) rfl))
    · skip
      have c_4 := ni_nlt c_4 rfl li_0
      refine lv_iload_n hx hb dX10_character_15 rfl (lv_at hl 2 rfl) ?_
      refine lv_aload_n hx hb dX10_character_16 rfl (lv_at hl 0 rfl) ?_
      refine tz_get (ci := 7) (v := .ref h1) (C := RX10) (F := TX10) (N := 17) hx hb hU iX10 hown hK hT 0 rfl rfl 0 (by decide) w249 (fun _ h9 => h9) rfl dX10_character_17 ?_
      refine tz_get (ci := 4) (v := .int h1f0) (C := RX5) (F := TX5) (N := 4) hx hb hU iX5 hown hK hT 2 rfl rfl 0 (by decide) w93 (fun _ h9 => h9) rfl dX10_character_20 ?_
      refine lv_icmp_le (tgt := 28) hx hb dX10_character_23 (by decide) (fun c_5 => ?_) (fun c_5 => ?_)
      · skip
        have c_5 := ni_le c_5 rfl rfl
        refine lv_ldc hx hb hown (hU _ w419) dX10_character_28 ?_
        refine lv_aload_n hx hb dX10_character_30 rfl (lv_at hl 0 rfl) ?_
        refine tz_get (ci := 7) (v := .ref h1) (C := RX10) (F := TX10) (N := 17) hx hb hU iX10 hown hK hT 0 rfl rfl 0 (by decide) w249 (fun _ h9 => h9) rfl dX10_character_31 ?_
        refine tz_get (ci := 4) (v := .ref h13) (C := RX5) (F := TX5) (N := 4) hx hb hU iX5 hown hK hT 2 rfl rfl 3 (by decide) w103 (fun _ h9 => h9) rfl dX10_character_34 ?_
        refine lv_iload_n hx hb dX10_character_37 rfl (lv_at hl 1 rfl) ?_
        refine lv_bipush (v := 9) hx hb dX10_character_38 (by decide) ?_
        refine lv_imul hx hb dX10_character_40 (lv_topi (fun v6 e_v6 => ?_))
        have e_v6 := ai_mul e_v6 rfl li_9 (by omega)
        refine lv_aload_n hx hb dX10_character_41 rfl (lv_at hl 0 rfl) ?_
        refine tz_get (ci := 7) (v := .ref h1) (C := RX10) (F := TX10) (N := 17) hx hb hU iX10 hown hK hT 0 rfl rfl 0 (by decide) w249 (fun _ h9 => h9) rfl dX10_character_42 ?_
        refine tz_get (ci := 4) (v := .int h1f0) (C := RX5) (F := TX5) (N := 4) hx hb hU iX5 hown hK hT 2 rfl rfl 0 (by decide) w93 (fun _ h9 => h9) rfl dX10_character_45 ?_
        refine tcR (Tc := [(h13, aJ (k 1) 36 anJ)]) (Tr := [(h0, ob 7 [.ref h1, .ref h2, .int h0f2, .ref h3, .ref h4, .ref h5, .int h0f6, .ref h6, .int h0f8, .null, .ref h7, .int h0f11, .ref h8, .ref h9, .ref h10, .ref h11, .ref h12]), (h1, ob 4 [.int h1f0, .int h1f1, .int h1f2, .ref h13])]) (as := [h13]) (zcS (As := [.ref h13, .int v6, .int h1f0]) (rest := [.int 1000000]) (Tc := [(h13, aJ (k 1) 36 anJ)]) hx hb hml hown hU hK hT [1] rfl (by decide) (cX3_characterOf_18d92 l D k _ h13 v6 h1f0 (by omega) (by omega)) w422 w420 w421 w76 hdX3_characterOf ⟨rfl, rfl⟩ ⟨Nat.le_of_ble_eq_true rfl, Nat.le_of_ble_eq_true rfl⟩ rfl hl.1 (Nat.le_of_ble_eq_true rfl) dX10_character_48 ⟨Nat.le_of_ble_eq_true rfl, Nat.le_of_ble_eq_true rfl⟩) hT hS hA [1] [0, 2] rfl rfl rfl (by decide) (by decide) (fun r7 H locs hB J hS => ?_)
        obtain ⟨q8, rfl, hT1⟩ := hB
        have hT := J _ hT1
        have hT : TP D A [(h0, ob 7 [.ref h1, .ref h2, .int h0f2, .ref h3, .ref h4, .ref h5, .int h0f6, .ref h6, .int h0f8, .null, .ref h7, .int h0f11, .ref h8, .ref h9, .ref h10, .ref h11, .ref h12]), (h1, ob 4 [.int h1f0, .int h1f1, .int h1f2, .ref h13]), (h13, aJ (k 1) 36 anJ), (q8, aJ (k 1) 4 anJ)] H := hT
        refine lv_iload_n hx hb dX10_character_51 rfl (lv_at hl 2 rfl) ?_
        refine tz_lald hx hb hK hT 3 rfl (by omega) dX10_character_52 (fun v9 e_v9 => ?_)
        clear e_v9
        refine lv_l2i hx hb dX10_character_53 rfl (lv_topi (fun v10 _ => ?_))
        refine lv_iadd hx hb dX10_character_54 (lv_topi (fun v11 e_v11 => ?_))
        exact tz_retI (B := B_cX10_character_b8220 D k h0 h1 h13 h2 h3 h4 h5 h6 h7 h8 h9 h10 h11 h12 x1 x2 h0f2 h0f6 h0f8 h0f11 h1f0 h1f1 h1f2) (v := v11) hQ hx hb hr hlocks hS (Nat.le_of_ble_eq_true rfl) (Nat.le_of_ble_eq_true rfl) dX10_character_55 ((hT.sub [0, 1, 2] (by decide) rfl))
      · skip
        have c_5 := ni_nle c_5 rfl rfl
        refine lv_iconst (v := (-1)) hx hb dX10_character_26 (by decide) ?_
        exact tz_retI (B := B_cX10_character_b8220 D k h0 h1 h13 h2 h3 h4 h5 h6 h7 h8 h9 h10 h11 h12 x1 x2 h0f2 h0f6 h0f8 h0f11 h1f0 h1f1 h1f2) (v := (-1)) hQ hx hb hr hlocks hS (Nat.le_of_ble_eq_true rfl) (Nat.le_of_ble_eq_true rfl) dX10_character_27 ((hT.sub [0, 2, 1] (by decide) rfl))
abbrev Rm_cX10_character_23280 : Room := { frames := 3, cells := 1, slots := 4, locals := 80 }
abbrev B_cX10_character_23280 (D : va_G) (k : Nat → ClassId) (h0 h1 h14 h2 h3 h4 h5 h6 h7 h8 h9 h10 h11 h12 h13 : Nat) (x1 : Int32) (x2 : Int32) (h0f2 : Int32) (h0f6 : Int32) (h0f8 : Int32) (h0f11 : Int32) (h1f0 : Int32) (h1f1 : Int32) (h1f2 : Int32) (A : Nat → Prop) (r : Int32) (H : Heap) : Prop := TP D A [(h0, ob 7 [.ref h1, .ref h2, .int h0f2, .ref h3, .ref h4, .ref h5, .int h0f6, .ref h6, .int h0f8, .ref h7, .ref h8, .int h0f11, .ref h9, .ref h10, .ref h11, .ref h12, .ref h13]), (h1, ob 4 [.int h1f0, .int h1f1, .int h1f2, .ref h14]), (h14, aJ (k 1) 36 anJ)] H
set_option maxHeartbeats 4000000 in
set_option maxRecDepth 100000 in
theorem cX10_character_23280 (l : Launch) (D : va_G) (k : Nat → ClassId) (sz : Nat) (h0 h1 h14 h2 h3 h4 h5 h6 h7 h8 h9 h10 h11 h12 h13 : Nat) (x1 : Int32) (x2 : Int32) (h0f2 : Int32) (h0f6 : Int32) (h0f8 : Int32) (h0f11 : Int32) (h1f0 : Int32) (h1f1 : Int32) (h1f2 : Int32) (b_h0f2 : 0 ≤ h0f2.toInt ∧ h0f2.toInt ≤ 1) (b_h0f6 : 0 ≤ h0f6.toInt ∧ h0f6.toInt ≤ 1) (b_h0f8 : 0 ≤ h0f8.toInt ∧ h0f8.toInt ≤ 1) (b_h0f11 : 0 ≤ h0f11.toInt ∧ h0f11.toInt ≤ 200) (b_h1f0 : 1 ≤ h1f0.toInt ∧ h1f0.toInt ≤ 3) (b_h1f1 : 0 ≤ h1f1.toInt ∧ h1f1.toInt ≤ 4) : Met l yX10_character (Cond.code yX10_character cX10_character 3 (some .int) :: uw) Rm_cX10_character_23280 (pT D k sz [.ref h0, .int x1, .int x2] [(h0, ob 7 [.ref h1, .ref h2, .int h0f2, .ref h3, .ref h4, .ref h5, .int h0f6, .ref h6, .int h0f8, .ref h7, .ref h8, .int h0f11, .ref h9, .ref h10, .ref h11, .ref h12, .ref h13]), (h1, ob 4 [.int h1f0, .int h1f1, .int h1f2, .ref h14]), (h14, aJ (k 1) 36 anJ)]) (qI (B_cX10_character_23280 D k h0 h1 h14 h2 h3 h4 h5 h6 h7 h8 h9 h10 h11 h12 h13 x1 x2 h0f2 h0f6 h0f8 h0f11 h1f0 h1f1 h1f2 (zA [h0, h1, h14] sz)) (zA [h0, h1, h14] sz)) 1 4 (zA [h0, h1, h14] sz) := by
  refine tz_begin (as := [h0, h1, h14]) (Qc := fun A => qI (B_cX10_character_23280 D k h0 h1 h14 h2 h3 h4 h5 h6 h7 h8 h9 h10 h11 h12 h13 x1 x2 h0f2 h0f6 h0f8 h0f11 h1f0 h1f1 h1f2 A) A) (by decide +kernel) rfl (Nat.le_of_ble_eq_true rfl) ?_
  intro p e s m args below meth c ls A Q hx hb hr hml hown hlocks hin hU hK hT hS hA hl hQ
  have hl : lv_has ls 3 [(0, .ref h0), (1, .int x1), (2, .int x2)] := hl
  have hT : TP D A [(h0, ob 7 [.ref h1, .ref h2, .int h0f2, .ref h3, .ref h4, .ref h5, .int h0f6, .ref h6, .int h0f8, .ref h7, .ref h8, .int h0f11, .ref h9, .ref h10, .ref h11, .ref h12, .ref h13]), (h1, ob 4 [.int h1f0, .int h1f1, .int h1f2, .ref h14]), (h14, aJ (k 1) 36 anJ)] s.heap := hT
  refine lv_aload_n hx hb dX10_character_0 rfl (lv_at hl 0 rfl) ?_
  refine tz_get (ci := 7) (v := .ref h1) (C := RX10) (F := TX10) (N := 17) hx hb hU iX10 hown hK hT 0 rfl rfl 0 (by decide) w249 (fun _ h9 => h9) rfl dX10_character_1 ?_
  refine lv_iload_n hx hb dX10_character_4 rfl (lv_at hl 1 rfl) ?_
  refine tcI (Tc := [(h1, ob 4 [.int h1f0, .int h1f1, .int h1f2, .ref h14])]) (Tr := [(h0, ob 7 [.ref h1, .ref h2, .int h0f2, .ref h3, .ref h4, .ref h5, .int h0f6, .ref h6, .int h0f8, .ref h7, .ref h8, .int h0f11, .ref h9, .ref h10, .ref h11, .ref h12, .ref h13]), (h14, aJ (k 1) 36 anJ)]) (as := [h1]) (zcV (q0 := 1) (ci := 4) (As := [.int x1]) (rest := []) (Tc := [(h1, ob 4 [.int h1f0, .int h1f1, .int h1f2, .ref h14])]) hx hb hml hown hU hK hT rfl rfl [1] rfl (by decide) (cX5_has_64567 l D k _ h1 h14 x1 h1f0 h1f1 h1f2 (by omega) (by omega)) w356 w353 w354 w355 w64 hdX5_has ⟨rfl, rfl⟩ ⟨Nat.le_of_ble_eq_true rfl, Nat.le_of_ble_eq_true rfl⟩ rfl hl.1 (Nat.le_of_ble_eq_true rfl) dX10_character_5 ⟨Nat.le_of_ble_eq_true rfl, Nat.le_of_ble_eq_true rfl⟩) hT hS hA [1] [0, 2] rfl rfl rfl (by decide) (by decide) (fun r1 H locs hB J hS => ?_)
  rcases hB with ⟨rfl, hT1⟩ | ⟨c_2, c_3, rfl, hT1⟩
  · skip
    have hT := J _ hT1
    have hT : TP D A [(h0, ob 7 [.ref h1, .ref h2, .int h0f2, .ref h3, .ref h4, .ref h5, .int h0f6, .ref h6, .int h0f8, .ref h7, .ref h8, .int h0f11, .ref h9, .ref h10, .ref h11, .ref h12, .ref h13]), (h14, aJ (k 1) 36 anJ), (h1, ob 4 [.int h1f0, .int h1f1, .int h1f2, .ref h14])] H := hT
    refine lv_if_eq (tgt := 26) hx hb dX10_character_8 (by decide) (fun _ => ?_) (fun cc => absurd (by decide +kernel) cc)
    refine lv_iconst (v := (-1)) hx hb dX10_character_26 (by decide) ?_
    exact tz_retI (B := B_cX10_character_23280 D k h0 h1 h14 h2 h3 h4 h5 h6 h7 h8 h9 h10 h11 h12 h13 x1 x2 h0f2 h0f6 h0f8 h0f11 h1f0 h1f1 h1f2) (v := (-1)) hQ hx hb hr hlocks hS (Nat.le_of_ble_eq_true rfl) (Nat.le_of_ble_eq_true rfl) dX10_character_27 ((hT.sub [0, 2, 1] (by decide) rfl))
  · skip
    have hT := J _ hT1
    have hT : TP D A [(h0, ob 7 [.ref h1, .ref h2, .int h0f2, .ref h3, .ref h4, .ref h5, .int h0f6, .ref h6, .int h0f8, .ref h7, .ref h8, .int h0f11, .ref h9, .ref h10, .ref h11, .ref h12, .ref h13]), (h14, aJ (k 1) 36 anJ), (h1, ob 4 [.int h1f0, .int h1f1, .int h1f2, .ref h14])] H := hT
    refine lv_if_eq (tgt := 26) hx hb dX10_character_8 (by decide) (fun cc => absurd cc (by decide +kernel)) (fun _ => ?_)
    refine lv_iload_n hx hb dX10_character_11 rfl (lv_at hl 2 rfl) ?_
    refine lv_if_lt (tgt := 26) hx hb dX10_character_12 (by decide) (fun c_4 => ?_) (fun c_4 => ?_)
    · skip
      have c_4 := ni_lt c_4 rfl li_0
      refine lv_iconst (v := (-1)) hx hb dX10_character_26 (by decide) ?_
      exact tz_retI (B := B_cX10_character_23280 D k h0 h1 h14 h2 h3 h4 h5 h6 h7 h8 h9 h10 h11 h12 h13 x1 x2 h0f2 h0f6 h0f8 h0f11 h1f0 h1f1 h1f2) (v := (-1)) hQ hx hb hr hlocks hS (Nat.le_of_ble_eq_true rfl) (Nat.le_of_ble_eq_true rfl) dX10_character_27 ((hT.sub [0, 2, 1] (by decide) rfl))
    · skip
      have c_4 := ni_nlt c_4 rfl li_0
      refine lv_iload_n hx hb dX10_character_15 rfl (lv_at hl 2 rfl) ?_
      refine lv_aload_n hx hb dX10_character_16 rfl (lv_at hl 0 rfl) ?_
      refine tz_get (ci := 7) (v := .ref h1) (C := RX10) (F := TX10) (N := 17) hx hb hU iX10 hown hK hT 0 rfl rfl 0 (by decide) w249 (fun _ h9 => h9) rfl dX10_character_17 ?_
      refine tz_get (ci := 4) (v := .int h1f0) (C := RX5) (F := TX5) (N := 4) hx hb hU iX5 hown hK hT 2 rfl rfl 0 (by decide) w93 (fun _ h9 => h9) rfl dX10_character_20 ?_
      refine lv_icmp_le (tgt := 28) hx hb dX10_character_23 (by decide) (fun c_5 => ?_) (fun c_5 => ?_)
      · skip
        have c_5 := ni_le c_5 rfl rfl
        refine lv_ldc hx hb hown (hU _ w419) dX10_character_28 ?_
        refine lv_aload_n hx hb dX10_character_30 rfl (lv_at hl 0 rfl) ?_
        refine tz_get (ci := 7) (v := .ref h1) (C := RX10) (F := TX10) (N := 17) hx hb hU iX10 hown hK hT 0 rfl rfl 0 (by decide) w249 (fun _ h9 => h9) rfl dX10_character_31 ?_
        refine tz_get (ci := 4) (v := .ref h14) (C := RX5) (F := TX5) (N := 4) hx hb hU iX5 hown hK hT 2 rfl rfl 3 (by decide) w103 (fun _ h9 => h9) rfl dX10_character_34 ?_
        refine lv_iload_n hx hb dX10_character_37 rfl (lv_at hl 1 rfl) ?_
        refine lv_bipush (v := 9) hx hb dX10_character_38 (by decide) ?_
        refine lv_imul hx hb dX10_character_40 (lv_topi (fun v6 e_v6 => ?_))
        have e_v6 := ai_mul e_v6 rfl li_9 (by omega)
        refine lv_aload_n hx hb dX10_character_41 rfl (lv_at hl 0 rfl) ?_
        refine tz_get (ci := 7) (v := .ref h1) (C := RX10) (F := TX10) (N := 17) hx hb hU iX10 hown hK hT 0 rfl rfl 0 (by decide) w249 (fun _ h9 => h9) rfl dX10_character_42 ?_
        refine tz_get (ci := 4) (v := .int h1f0) (C := RX5) (F := TX5) (N := 4) hx hb hU iX5 hown hK hT 2 rfl rfl 0 (by decide) w93 (fun _ h9 => h9) rfl dX10_character_45 ?_
        refine tcR (Tc := [(h14, aJ (k 1) 36 anJ)]) (Tr := [(h0, ob 7 [.ref h1, .ref h2, .int h0f2, .ref h3, .ref h4, .ref h5, .int h0f6, .ref h6, .int h0f8, .ref h7, .ref h8, .int h0f11, .ref h9, .ref h10, .ref h11, .ref h12, .ref h13]), (h1, ob 4 [.int h1f0, .int h1f1, .int h1f2, .ref h14])]) (as := [h14]) (zcS (As := [.ref h14, .int v6, .int h1f0]) (rest := [.int 1000000]) (Tc := [(h14, aJ (k 1) 36 anJ)]) hx hb hml hown hU hK hT [1] rfl (by decide) (cX3_characterOf_18d92 l D k _ h14 v6 h1f0 (by omega) (by omega)) w422 w420 w421 w76 hdX3_characterOf ⟨rfl, rfl⟩ ⟨Nat.le_of_ble_eq_true rfl, Nat.le_of_ble_eq_true rfl⟩ rfl hl.1 (Nat.le_of_ble_eq_true rfl) dX10_character_48 ⟨Nat.le_of_ble_eq_true rfl, Nat.le_of_ble_eq_true rfl⟩) hT hS hA [1] [0, 2] rfl rfl rfl (by decide) (by decide) (fun r7 H locs hB J hS => ?_)
        obtain ⟨q8, rfl, hT1⟩ := hB
        have hT := J _ hT1
        have hT : TP D A [(h0, ob 7 [.ref h1, .ref h2, .int h0f2, .ref h3, .ref h4, .ref h5, .int h0f6, .ref h6, .int h0f8, .ref h7, .ref h8, .int h0f11, .ref h9, .ref h10, .ref h11, .ref h12, .ref h13]), (h1, ob 4 [.int h1f0, .int h1f1, .int h1f2, .ref h14]), (h14, aJ (k 1) 36 anJ), (q8, aJ (k 1) 4 anJ)] H := hT
        refine lv_iload_n hx hb dX10_character_51 rfl (lv_at hl 2 rfl) ?_
        refine tz_lald hx hb hK hT 3 rfl (by omega) dX10_character_52 (fun v9 e_v9 => ?_)
        clear e_v9
        refine lv_l2i hx hb dX10_character_53 rfl (lv_topi (fun v10 _ => ?_))
        refine lv_iadd hx hb dX10_character_54 (lv_topi (fun v11 e_v11 => ?_))
        exact tz_retI (B := B_cX10_character_23280 D k h0 h1 h14 h2 h3 h4 h5 h6 h7 h8 h9 h10 h11 h12 h13 x1 x2 h0f2 h0f6 h0f8 h0f11 h1f0 h1f1 h1f2) (v := v11) hQ hx hb hr hlocks hS (Nat.le_of_ble_eq_true rfl) (Nat.le_of_ble_eq_true rfl) dX10_character_55 ((hT.sub [0, 1, 2] (by decide) rfl))
      · skip
        have c_5 := ni_nle c_5 rfl rfl
        refine lv_iconst (v := (-1)) hx hb dX10_character_26 (by decide) ?_
        exact tz_retI (B := B_cX10_character_23280 D k h0 h1 h14 h2 h3 h4 h5 h6 h7 h8 h9 h10 h11 h12 h13 x1 x2 h0f2 h0f6 h0f8 h0f11 h1f0 h1f1 h1f2) (v := (-1)) hQ hx hb hr hlocks hS (Nat.le_of_ble_eq_true rfl) (Nat.le_of_ble_eq_true rfl) dX10_character_27 ((hT.sub [0, 2, 1] (by decide) rfl))
abbrev Rm_cX11_finds_96b14 : Room := { frames := 1, cells := 0, slots := 0, locals := 27 }
abbrev B_cX11_finds_96b14 (D : va_G) (k : Nat → ClassId) (h0 h1 h4 h7 h2 h3 h5 h6 h8 h9 h10 h11 h12 h13 h14 h15 h16 h17 h18 h19 h20 h21 : Nat) (x1 : Int32) (h0f0 : Int32) (h0f1 : Int32) (h0f2 : Int32) (h0f3 : Int32) (h0f4 : Int32) (h0f5 : Int32) (h0f8 : Int32) (h0f9 : Int32) (h0f17 : Int32) (h0f18 : Int32) (h0f19 : Int32) (h0f24 : Int32) (h0f25 : Int32) (h0f30 : Int32) (h0f31 : Int32) (A : Nat → Prop) (H : Heap) : Prop := TP D A [(h0, ob 8 [.int h0f0, .int h0f1, .int h0f2, .int h0f3, .int h0f4, .int h0f5, .ref h1, .ref h2, .int h0f8, .int h0f9, .ref h3, .ref h4, .ref h5, .ref h6, .ref h7, .ref h8, .ref h9, .int h0f17, .int h0f18, .int h0f19, .ref h10, .ref h11, .ref h12, .ref h13, .int h0f24, .int h0f25, .ref h14, .ref h15, .ref h16, .ref h17, .int h0f30, .int h0f31, .ref h18, .ref h19, .ref h20, .ref h21]), (h1, aI (k 0) 36 anI), (h4, aJ (k 1) 9 anJ), (h7, aJ (k 1) 4 anJ)] H
set_option maxHeartbeats 4000000 in
set_option maxRecDepth 100000 in
theorem cX11_finds_96b14 (l : Launch) (D : va_G) (k : Nat → ClassId) (sz : Nat) (h0 h1 h4 h7 h2 h3 h5 h6 h8 h9 h10 h11 h12 h13 h14 h15 h16 h17 h18 h19 h20 h21 : Nat) (x1 : Int32) (h0f0 : Int32) (h0f1 : Int32) (h0f2 : Int32) (h0f3 : Int32) (h0f4 : Int32) (h0f5 : Int32) (h0f8 : Int32) (h0f9 : Int32) (h0f17 : Int32) (h0f18 : Int32) (h0f19 : Int32) (h0f24 : Int32) (h0f25 : Int32) (h0f30 : Int32) (h0f31 : Int32) (b_x1 : 0 ≤ x1.toInt ∧ x1.toInt ≤ 3) (b_h0f0 : 1 ≤ h0f0.toInt ∧ h0f0.toInt ≤ 3) (b_h0f1 : 1 ≤ h0f1.toInt ∧ h0f1.toInt ≤ 4) (b_h0f3 : 0 ≤ h0f3.toInt ∧ h0f3.toInt ≤ 3) (b_h0f4 : 0 ≤ h0f4.toInt ∧ h0f4.toInt ≤ 4) (b_h0f8 : 0 ≤ h0f8.toInt ∧ h0f8.toInt ≤ 1) (b_h0f9 : 0 ≤ h0f9.toInt ∧ h0f9.toInt ≤ 1) (b_h0f17 : 0 ≤ h0f17.toInt ∧ h0f17.toInt ≤ 120) (b_h0f18 : 0 ≤ h0f18.toInt ∧ h0f18.toInt ≤ 120) (b_h0f19 : 0 ≤ h0f19.toInt ∧ h0f19.toInt ≤ 4) (b_h0f24 : 0 ≤ h0f24.toInt ∧ h0f24.toInt ≤ 100) (b_h0f25 : 0 ≤ h0f25.toInt ∧ h0f25.toInt ≤ 1) (b_h0f30 : 0 ≤ h0f30.toInt ∧ h0f30.toInt ≤ 60) (b_h0f31 : 0 ≤ h0f31.toInt ∧ h0f31.toInt ≤ 1) : Met l yX11_finds (Cond.code yX11_finds cX11_finds 4 none :: uw) Rm_cX11_finds_96b14 (pT D k sz [.ref h0, .int x1] [(h0, ob 8 [.int h0f0, .int h0f1, .int h0f2, .int h0f3, .int h0f4, .int h0f5, .ref h1, .ref h2, .int h0f8, .int h0f9, .ref h3, .ref h4, .ref h5, .ref h6, .ref h7, .ref h8, .ref h9, .int h0f17, .int h0f18, .int h0f19, .ref h10, .ref h11, .ref h12, .ref h13, .int h0f24, .int h0f25, .ref h14, .ref h15, .ref h16, .ref h17, .int h0f30, .int h0f31, .ref h18, .ref h19, .ref h20, .ref h21]), (h1, aI (k 0) 36 anI), (h4, aJ (k 1) 9 anJ), (h7, aJ (k 1) 4 anJ)]) (qV (B_cX11_finds_96b14 D k h0 h1 h4 h7 h2 h3 h5 h6 h8 h9 h10 h11 h12 h13 h14 h15 h16 h17 h18 h19 h20 h21 x1 h0f0 h0f1 h0f2 h0f3 h0f4 h0f5 h0f8 h0f9 h0f17 h0f18 h0f19 h0f24 h0f25 h0f30 h0f31 (zA [h0, h1, h4, h7] sz)) (zA [h0, h1, h4, h7] sz)) 0 0 (zA [h0, h1, h4, h7] sz) := by
  refine tz_begin (as := [h0, h1, h4, h7]) (Qc := fun A => qV (B_cX11_finds_96b14 D k h0 h1 h4 h7 h2 h3 h5 h6 h8 h9 h10 h11 h12 h13 h14 h15 h16 h17 h18 h19 h20 h21 x1 h0f0 h0f1 h0f2 h0f3 h0f4 h0f5 h0f8 h0f9 h0f17 h0f18 h0f19 h0f24 h0f25 h0f30 h0f31 A) A) (by decide +kernel) rfl (Nat.le_of_ble_eq_true rfl) ?_
  intro p e s m args below meth c ls A Q hx hb hr hml hown hlocks hin hU hK hT hS hA hl hQ
  have hl : lv_has ls 4 [(0, .ref h0), (1, .int x1)] := hl
  have hT : TP D A [(h0, ob 8 [.int h0f0, .int h0f1, .int h0f2, .int h0f3, .int h0f4, .int h0f5, .ref h1, .ref h2, .int h0f8, .int h0f9, .ref h3, .ref h4, .ref h5, .ref h6, .ref h7, .ref h8, .ref h9, .int h0f17, .int h0f18, .int h0f19, .ref h10, .ref h11, .ref h12, .ref h13, .int h0f24, .int h0f25, .ref h14, .ref h15, .ref h16, .ref h17, .int h0f30, .int h0f31, .ref h18, .ref h19, .ref h20, .ref h21]), (h1, aI (k 0) 36 anI), (h4, aJ (k 1) 9 anJ), (h7, aJ (k 1) 4 anJ)] s.heap := hT
  refine lv_aload_n hx hb dX11_finds_0 rfl (lv_at hl 0 rfl) ?_
  refine lv_iload_n hx hb dX11_finds_1 rfl (lv_at hl 1 rfl) ?_
  refine lv_aload_n hx hb dX11_finds_2 rfl (lv_at hl 0 rfl) ?_
  refine tz_get (ci := 8) (v := .ref h4) (C := RX11) (F := TX11) (N := 36) hx hb hU iX11 hown hK hT 0 rfl rfl 11 (by decide) w796 (fun _ h9 => h9) rfl dX11_finds_3 ?_
  refine tcV (Tc := [(h0, ob 8 [.int h0f0, .int h0f1, .int h0f2, .int h0f3, .int h0f4, .int h0f5, .ref h1, .ref h2, .int h0f8, .int h0f9, .ref h3, .ref h4, .ref h5, .ref h6, .ref h7, .ref h8, .ref h9, .int h0f17, .int h0f18, .int h0f19, .ref h10, .ref h11, .ref h12, .ref h13, .int h0f24, .int h0f25, .ref h14, .ref h15, .ref h16, .ref h17, .int h0f30, .int h0f31, .ref h18, .ref h19, .ref h20, .ref h21]), (h4, aJ (k 1) 9 anJ), (h1, aI (k 0) 36 anI)]) (Tr := [(h7, aJ (k 1) 4 anJ)]) (as := [h0, h4, h1]) (zcV (q0 := 0) (ci := 8) (As := [.int x1, .ref h4]) (rest := []) (Tc := [(h0, ob 8 [.int h0f0, .int h0f1, .int h0f2, .int h0f3, .int h0f4, .int h0f5, .ref h1, .ref h2, .int h0f8, .int h0f9, .ref h3, .ref h4, .ref h5, .ref h6, .ref h7, .ref h8, .ref h9, .int h0f17, .int h0f18, .int h0f19, .ref h10, .ref h11, .ref h12, .ref h13, .int h0f24, .int h0f25, .ref h14, .ref h15, .ref h16, .ref h17, .int h0f30, .int h0f31, .ref h18, .ref h19, .ref h20, .ref h21]), (h4, aJ (k 1) 9 anJ), (h1, aI (k 0) 36 anI)]) hx hb hml hown hU hK hT rfl rfl [0, 2, 1] rfl (by decide) (cX11_takes_15868 l D k _ h0 h4 h1 h2 h3 h5 h6 h7 h8 h9 h10 h11 h12 h13 h14 h15 h16 h17 h18 h19 h20 h21 x1 h0f0 h0f1 h0f2 h0f3 h0f4 h0f5 h0f8 h0f9 h0f17 h0f18 h0f19 h0f24 h0f25 h0f30 h0f31 (by omega) (by omega) (by omega) (by omega) (by omega) (by omega) (by omega) (by omega) (by omega) (by omega) (by omega) (by omega) (by omega) (by omega)) w939 w936 w938 w32 w72 hdX11_takes ⟨rfl, rfl⟩ ⟨Nat.le_of_ble_eq_true rfl, Nat.le_of_ble_eq_true rfl⟩ rfl hl.1 (Nat.le_of_ble_eq_true rfl) dX11_finds_6 ⟨Nat.le_of_ble_eq_true rfl, Nat.le_of_ble_eq_true rfl⟩) hT hS hA [0, 2, 1] [3] rfl rfl rfl (by decide) (by decide) (fun H locs hB J hS => ?_)
  have hT1 := hB
  have hT := J _ hT1
  have hT : TP D A [(h7, aJ (k 1) 4 anJ), (h0, ob 8 [.int h0f0, .int h0f1, .int h0f2, .int h0f3, .int h0f4, .int h0f5, .ref h1, .ref h2, .int h0f8, .int h0f9, .ref h3, .ref h4, .ref h5, .ref h6, .ref h7, .ref h8, .ref h9, .int h0f17, .int h0f18, .int h0f19, .ref h10, .ref h11, .ref h12, .ref h13, .int h0f24, .int h0f25, .ref h14, .ref h15, .ref h16, .ref h17, .int h0f30, .int h0f31, .ref h18, .ref h19, .ref h20, .ref h21]), (h4, aJ (k 1) 9 anJ), (h1, aI (k 0) 36 anI)] H := hT
  refine lv_aload_n hx hb dX11_finds_9 rfl (lv_at hl 0 rfl) ?_
  refine tz_get (ci := 8) (v := .ref h4) (C := RX11) (F := TX11) (N := 36) hx hb hU iX11 hown hK hT 1 rfl rfl 11 (by decide) w796 (fun _ h9 => h9) rfl dX11_finds_10 ?_
  refine lv_iconst (v := 0) hx hb dX11_finds_13 (by decide) ?_
  refine tz_lald hx hb hK hT 2 rfl (by have := li_0; omega) dX11_finds_14 (fun v2 e_v2 => ?_)
  clear e_v2
  refine lv_aload_n hx hb dX11_finds_15 rfl (lv_at hl 0 rfl) ?_
  refine tz_get (ci := 8) (v := .ref h4) (C := RX11) (F := TX11) (N := 36) hx hb hU iX11 hown hK hT 1 rfl rfl 11 (by decide) w796 (fun _ h9 => h9) rfl dX11_finds_16 ?_
  refine lv_iconst (v := 4) hx hb dX11_finds_19 (by decide) ?_
  refine tz_lald hx hb hK hT 2 rfl (by have := li_4; omega) dX11_finds_20 (fun v3 e_v3 => ?_)
  clear e_v3
  refine lv_ladd hx hb dX11_finds_21 (lv_topl (fun v4 e_v4 => ?_))
  refine lv_aload_n hx hb dX11_finds_22 rfl (lv_at hl 0 rfl) ?_
  refine tz_get (ci := 8) (v := .ref h4) (C := RX11) (F := TX11) (N := 36) hx hb hU iX11 hown hK hT 1 rfl rfl 11 (by decide) w796 (fun _ h9 => h9) rfl dX11_finds_23 ?_
  refine lv_bipush (v := 8) hx hb dX11_finds_26 (by decide) ?_
  refine tz_lald hx hb hK hT 2 rfl (by have := li_8; omega) dX11_finds_28 (fun v5 e_v5 => ?_)
  clear e_v5
  refine lv_ladd hx hb dX11_finds_29 (lv_topl (fun v6 e_v6 => ?_))
  refine lv_lstore_n (lv' := [(2, .long v6), (0, .ref h0), (1, .int x1)]) hx hb dX11_finds_30 rfl hl (by decide) rfl (fun ls hl => ?_)
  refine lv_aload_n hx hb dX11_finds_31 rfl (lv_at hl 1 rfl) ?_
  refine tz_get (ci := 8) (v := .ref h7) (C := RX11) (F := TX11) (N := 36) hx hb hU iX11 hown hK hT 1 rfl rfl 14 (by decide) w799 (fun _ h9 => h9) rfl dX11_finds_32 ?_
  refine lv_iconst (v := 0) hx hb dX11_finds_35 (by decide) ?_
  refine lv_aload_n hx hb dX11_finds_36 rfl (lv_at hl 1 rfl) ?_
  refine tz_get (ci := 8) (v := .int h0f0) (C := RX11) (F := TX11) (N := 36) hx hb hU iX11 hown hK hT 1 rfl rfl 0 (by decide) w785 (fun _ h9 => h9) rfl dX11_finds_37 ?_
  refine lv_iconst (v := 2) hx hb dX11_finds_40 (by decide) ?_
  refine lv_irem hx hb dX11_finds_41 (by decide +kernel) (lv_topi (fun v7 e_v7 => ?_))
  have e_v7 := ai_rem e_v7 rfl li_2 (by omega)
  refine lv_if_ne (tgt := 56) hx hb dX11_finds_42 (by decide) (fun c_8 => ?_) (fun c_8 => ?_)
  · skip
    have c_8 := ni_ne c_8 rfl li_0
    refine lv_aload_n hx hb dX11_finds_56 rfl (lv_at hl 1 rfl) ?_
    refine lv_aload_n hx hb dX11_finds_57 rfl (lv_at hl 1 rfl) ?_
    refine tz_get (ci := 8) (v := .ref h4) (C := RX11) (F := TX11) (N := 36) hx hb hU iX11 hown hK hT 1 rfl rfl 11 (by decide) w796 (fun _ h9 => h9) rfl dX11_finds_58 ?_
    refine tcL (Tc := [(h0, ob 8 [.int h0f0, .int h0f1, .int h0f2, .int h0f3, .int h0f4, .int h0f5, .ref h1, .ref h2, .int h0f8, .int h0f9, .ref h3, .ref h4, .ref h5, .ref h6, .ref h7, .ref h8, .ref h9, .int h0f17, .int h0f18, .int h0f19, .ref h10, .ref h11, .ref h12, .ref h13, .int h0f24, .int h0f25, .ref h14, .ref h15, .ref h16, .ref h17, .int h0f30, .int h0f31, .ref h18, .ref h19, .ref h20, .ref h21]), (h4, aJ (k 1) 9 anJ)]) (Tr := [(h7, aJ (k 1) 4 anJ), (h1, aI (k 0) 36 anI)]) (as := [h0, h4]) (zcV (q0 := 1) (ci := 8) (As := [.ref h4]) (rest := [.int 0, .ref h7]) (Tc := [(h0, ob 8 [.int h0f0, .int h0f1, .int h0f2, .int h0f3, .int h0f4, .int h0f5, .ref h1, .ref h2, .int h0f8, .int h0f9, .ref h3, .ref h4, .ref h5, .ref h6, .ref h7, .ref h8, .ref h9, .int h0f17, .int h0f18, .int h0f19, .ref h10, .ref h11, .ref h12, .ref h13, .int h0f24, .int h0f25, .ref h14, .ref h15, .ref h16, .ref h17, .int h0f30, .int h0f31, .ref h18, .ref h19, .ref h20, .ref h21]), (h4, aJ (k 1) 9 anJ)]) hx hb hml hown hU hK hT rfl rfl [1, 2] rfl (by decide) (cX11_det_d3262 l D k _ h0 h4 h1 h2 h3 h5 h6 h7 h8 h9 h10 h11 h12 h13 h14 h15 h16 h17 h18 h19 h20 h21 h0f0 h0f1 h0f2 h0f3 h0f4 h0f5 h0f8 h0f9 h0f17 h0f18 h0f19 h0f24 h0f25 h0f30 h0f31 (by omega) (by omega) (by omega) (by omega) (by omega) (by omega) (by omega) (by omega) (by omega) (by omega) (by omega) (by omega) (by omega)) w952 w949 w951 w35 w72 hdX11_det ⟨rfl, rfl⟩ ⟨Nat.le_of_ble_eq_true rfl, Nat.le_of_ble_eq_true rfl⟩ rfl hl.1 (Nat.le_of_ble_eq_true rfl) dX11_finds_61 ⟨Nat.le_of_ble_eq_true rfl, Nat.le_of_ble_eq_true rfl⟩) hT hS hA [1, 2] [0, 3] rfl rfl rfl (by decide) (by decide) (fun r9 H locs hB J hS => ?_)
    have hT1 := hB
    have hT := J _ hT1
    have hT : TP D A [(h7, aJ (k 1) 4 anJ), (h1, aI (k 0) 36 anI), (h0, ob 8 [.int h0f0, .int h0f1, .int h0f2, .int h0f3, .int h0f4, .int h0f5, .ref h1, .ref h2, .int h0f8, .int h0f9, .ref h3, .ref h4, .ref h5, .ref h6, .ref h7, .ref h8, .ref h9, .int h0f17, .int h0f18, .int h0f19, .ref h10, .ref h11, .ref h12, .ref h13, .int h0f24, .int h0f25, .ref h14, .ref h15, .ref h16, .ref h17, .int h0f30, .int h0f31, .ref h18, .ref h19, .ref h20, .ref h21]), (h4, aJ (k 1) 9 anJ)] H := hT
    refine lv_lneg hx hb dX11_finds_64 (lv_topl (fun v10 e_v10 => ?_))
    refine tz_last hx hb hK hT hS 0 rfl (by have := li_0; omega) (fun _ _ => trivial) dX11_finds_65 (fun H locs hT hS => ?_)
    refine lv_aload_n hx hb dX11_finds_66 rfl (lv_at hl 1 rfl) ?_
    refine tz_get (ci := 8) (v := .ref h7) (C := RX11) (F := TX11) (N := 36) hx hb hU iX11 hown hK hT 2 rfl rfl 14 (by decide) w799 (fun _ h9 => h9) rfl dX11_finds_67 ?_
    refine lv_iconst (v := 1) hx hb dX11_finds_70 (by decide) ?_
    refine lv_aload_n hx hb dX11_finds_71 rfl (lv_at hl 1 rfl) ?_
    refine tz_get (ci := 8) (v := .int h0f0) (C := RX11) (F := TX11) (N := 36) hx hb hU iX11 hown hK hT 2 rfl rfl 0 (by decide) w785 (fun _ h9 => h9) rfl dX11_finds_72 ?_
    refine lv_iconst (v := 1) hx hb dX11_finds_75 (by decide) ?_
    refine lv_icmp_ne (tgt := 83) hx hb dX11_finds_76 (by decide) (fun c_11 => ?_) (fun c_11 => ?_)
    · skip
      have c_11 := ni_ne c_11 rfl li_1
      refine lv_aload_n hx hb dX11_finds_83 rfl (lv_at hl 1 rfl) ?_
      refine tz_get (ci := 8) (v := .int h0f0) (C := RX11) (F := TX11) (N := 36) hx hb hU iX11 hown hK hT 2 rfl rfl 0 (by decide) w785 (fun _ h9 => h9) rfl dX11_finds_84 ?_
      refine lv_iconst (v := 2) hx hb dX11_finds_87 (by decide) ?_
      refine lv_icmp_ne (tgt := 96) hx hb dX11_finds_88 (by decide) (fun c_12 => ?_) (fun c_12 => ?_)
      · skip
        have c_12 := ni_ne c_12 rfl li_2
        refine lv_aload_n hx hb dX11_finds_96 rfl (lv_at hl 1 rfl) ?_
        refine lv_aload_n hx hb dX11_finds_97 rfl (lv_at hl 1 rfl) ?_
        refine tz_get (ci := 8) (v := .ref h4) (C := RX11) (F := TX11) (N := 36) hx hb hU iX11 hown hK hT 2 rfl rfl 11 (by decide) w796 (fun _ h9 => h9) rfl dX11_finds_98 ?_
        refine lv_iconst (v := 0) hx hb dX11_finds_101 (by decide) ?_
        refine lv_iconst (v := 0) hx hb dX11_finds_102 (by decide) ?_
        have q_q14 := li_0
        have q_q15 := li_0
        refine tcL (Tc := [(h0, ob 8 [.int h0f0, .int h0f1, .int h0f2, .int h0f3, .int h0f4, .int h0f5, .ref h1, .ref h2, .int h0f8, .int h0f9, .ref h3, .ref h4, .ref h5, .ref h6, .ref h7, .ref h8, .ref h9, .int h0f17, .int h0f18, .int h0f19, .ref h10, .ref h11, .ref h12, .ref h13, .int h0f24, .int h0f25, .ref h14, .ref h15, .ref h16, .ref h17, .int h0f30, .int h0f31, .ref h18, .ref h19, .ref h20, .ref h21]), (h4, aJ (k 1) 9 anJ)]) (Tr := [(h7, aJ (k 1) 4 anJ), (h1, aI (k 0) 36 anI)]) (as := [h0, h4]) (zcV (q0 := 2) (ci := 8) (As := [.ref h4, .int 0, .int 0]) (rest := [.int 1, .ref h7]) (Tc := [(h0, ob 8 [.int h0f0, .int h0f1, .int h0f2, .int h0f3, .int h0f4, .int h0f5, .ref h1, .ref h2, .int h0f8, .int h0f9, .ref h3, .ref h4, .ref h5, .ref h6, .ref h7, .ref h8, .ref h9, .int h0f17, .int h0f18, .int h0f19, .ref h10, .ref h11, .ref h12, .ref h13, .int h0f24, .int h0f25, .ref h14, .ref h15, .ref h16, .ref h17, .int h0f30, .int h0f31, .ref h18, .ref h19, .ref h20, .ref h21]), (h4, aJ (k 1) 9 anJ)]) hx hb hml hown hU hK hT rfl rfl [2, 3] rfl (by decide) (cX11_without_7abd5 l D k _ h0 h4 h1 h2 h3 h5 h6 h7 h8 h9 h10 h11 h12 h13 h14 h15 h16 h17 h18 h19 h20 h21 (0) (0) h0f0 h0f1 h0f2 h0f3 h0f4 h0f5 h0f8 h0f9 h0f17 h0f18 h0f19 h0f24 h0f25 h0f30 h0f31 (by have := li_0; omega) (by have := li_0; omega) (by omega) (by omega) (by omega) (by omega) (by omega) (by omega) (by omega) (by omega) (by omega) (by omega) (by omega) (by omega) (by omega)) w948 w945 w947 w34 w72 hdX11_without ⟨rfl, rfl⟩ ⟨Nat.le_of_ble_eq_true rfl, Nat.le_of_ble_eq_true rfl⟩ rfl hl.1 (Nat.le_of_ble_eq_true rfl) dX11_finds_103 ⟨Nat.le_of_ble_eq_true rfl, Nat.le_of_ble_eq_true rfl⟩) hT hS hA [2, 3] [0, 1] rfl rfl rfl (by decide) (by decide) (fun r13 H locs hB J hS => ?_)
        have hT1 := hB
        have hT := J _ hT1
        have hT : TP D A [(h7, aJ (k 1) 4 anJ), (h1, aI (k 0) 36 anI), (h0, ob 8 [.int h0f0, .int h0f1, .int h0f2, .int h0f3, .int h0f4, .int h0f5, .ref h1, .ref h2, .int h0f8, .int h0f9, .ref h3, .ref h4, .ref h5, .ref h6, .ref h7, .ref h8, .ref h9, .int h0f17, .int h0f18, .int h0f19, .ref h10, .ref h11, .ref h12, .ref h13, .int h0f24, .int h0f25, .ref h14, .ref h15, .ref h16, .ref h17, .int h0f30, .int h0f31, .ref h18, .ref h19, .ref h20, .ref h21]), (h4, aJ (k 1) 9 anJ)] H := hT
        refine lv_aload_n hx hb dX11_finds_106 rfl (lv_at hl 1 rfl) ?_
        refine lv_aload_n hx hb dX11_finds_107 rfl (lv_at hl 1 rfl) ?_
        refine tz_get (ci := 8) (v := .ref h4) (C := RX11) (F := TX11) (N := 36) hx hb hU iX11 hown hK hT 2 rfl rfl 11 (by decide) w796 (fun _ h9 => h9) rfl dX11_finds_108 ?_
        refine lv_iconst (v := 1) hx hb dX11_finds_111 (by decide) ?_
        refine lv_iconst (v := 1) hx hb dX11_finds_112 (by decide) ?_
        have q_q17 := li_1
        have q_q18 := li_1
        refine tcL (Tc := [(h0, ob 8 [.int h0f0, .int h0f1, .int h0f2, .int h0f3, .int h0f4, .int h0f5, .ref h1, .ref h2, .int h0f8, .int h0f9, .ref h3, .ref h4, .ref h5, .ref h6, .ref h7, .ref h8, .ref h9, .int h0f17, .int h0f18, .int h0f19, .ref h10, .ref h11, .ref h12, .ref h13, .int h0f24, .int h0f25, .ref h14, .ref h15, .ref h16, .ref h17, .int h0f30, .int h0f31, .ref h18, .ref h19, .ref h20, .ref h21]), (h4, aJ (k 1) 9 anJ)]) (Tr := [(h7, aJ (k 1) 4 anJ), (h1, aI (k 0) 36 anI)]) (as := [h0, h4]) (zcV (q0 := 2) (ci := 8) (As := [.ref h4, .int 1, .int 1]) (rest := [.long r13, .int 1, .ref h7]) (Tc := [(h0, ob 8 [.int h0f0, .int h0f1, .int h0f2, .int h0f3, .int h0f4, .int h0f5, .ref h1, .ref h2, .int h0f8, .int h0f9, .ref h3, .ref h4, .ref h5, .ref h6, .ref h7, .ref h8, .ref h9, .int h0f17, .int h0f18, .int h0f19, .ref h10, .ref h11, .ref h12, .ref h13, .int h0f24, .int h0f25, .ref h14, .ref h15, .ref h16, .ref h17, .int h0f30, .int h0f31, .ref h18, .ref h19, .ref h20, .ref h21]), (h4, aJ (k 1) 9 anJ)]) hx hb hml hown hU hK hT rfl rfl [2, 3] rfl (by decide) (cX11_without_7abd5 l D k _ h0 h4 h1 h2 h3 h5 h6 h7 h8 h9 h10 h11 h12 h13 h14 h15 h16 h17 h18 h19 h20 h21 (1) (1) h0f0 h0f1 h0f2 h0f3 h0f4 h0f5 h0f8 h0f9 h0f17 h0f18 h0f19 h0f24 h0f25 h0f30 h0f31 (by have := li_1; omega) (by have := li_1; omega) (by omega) (by omega) (by omega) (by omega) (by omega) (by omega) (by omega) (by omega) (by omega) (by omega) (by omega) (by omega) (by omega)) w948 w945 w947 w34 w72 hdX11_without ⟨rfl, rfl⟩ ⟨Nat.le_of_ble_eq_true rfl, Nat.le_of_ble_eq_true rfl⟩ rfl hl.1 (Nat.le_of_ble_eq_true rfl) dX11_finds_113 ⟨Nat.le_of_ble_eq_true rfl, Nat.le_of_ble_eq_true rfl⟩) hT hS hA [2, 3] [0, 1] rfl rfl rfl (by decide) (by decide) (fun r16 H locs hB J hS => ?_)
        have hT1 := hB
        have hT := J _ hT1
        have hT : TP D A [(h7, aJ (k 1) 4 anJ), (h1, aI (k 0) 36 anI), (h0, ob 8 [.int h0f0, .int h0f1, .int h0f2, .int h0f3, .int h0f4, .int h0f5, .ref h1, .ref h2, .int h0f8, .int h0f9, .ref h3, .ref h4, .ref h5, .ref h6, .ref h7, .ref h8, .ref h9, .int h0f17, .int h0f18, .int h0f19, .ref h10, .ref h11, .ref h12, .ref h13, .int h0f24, .int h0f25, .ref h14, .ref h15, .ref h16, .ref h17, .int h0f30, .int h0f31, .ref h18, .ref h19, .ref h20, .ref h21]), (h4, aJ (k 1) 9 anJ)] H := hT
        refine lv_ladd hx hb dX11_finds_116 (lv_topl (fun v19 e_v19 => ?_))
        refine lv_aload_n hx hb dX11_finds_117 rfl (lv_at hl 1 rfl) ?_
        refine lv_aload_n hx hb dX11_finds_118 rfl (lv_at hl 1 rfl) ?_
        refine tz_get (ci := 8) (v := .ref h4) (C := RX11) (F := TX11) (N := 36) hx hb hU iX11 hown hK hT 2 rfl rfl 11 (by decide) w796 (fun _ h9 => h9) rfl dX11_finds_119 ?_
        refine lv_iconst (v := 2) hx hb dX11_finds_122 (by decide) ?_
        refine lv_iconst (v := 2) hx hb dX11_finds_123 (by decide) ?_
        have q_q21 := li_2
        have q_q22 := li_2
        refine tcL (Tc := [(h0, ob 8 [.int h0f0, .int h0f1, .int h0f2, .int h0f3, .int h0f4, .int h0f5, .ref h1, .ref h2, .int h0f8, .int h0f9, .ref h3, .ref h4, .ref h5, .ref h6, .ref h7, .ref h8, .ref h9, .int h0f17, .int h0f18, .int h0f19, .ref h10, .ref h11, .ref h12, .ref h13, .int h0f24, .int h0f25, .ref h14, .ref h15, .ref h16, .ref h17, .int h0f30, .int h0f31, .ref h18, .ref h19, .ref h20, .ref h21]), (h4, aJ (k 1) 9 anJ)]) (Tr := [(h7, aJ (k 1) 4 anJ), (h1, aI (k 0) 36 anI)]) (as := [h0, h4]) (zcV (q0 := 2) (ci := 8) (As := [.ref h4, .int 2, .int 2]) (rest := [.long v19, .int 1, .ref h7]) (Tc := [(h0, ob 8 [.int h0f0, .int h0f1, .int h0f2, .int h0f3, .int h0f4, .int h0f5, .ref h1, .ref h2, .int h0f8, .int h0f9, .ref h3, .ref h4, .ref h5, .ref h6, .ref h7, .ref h8, .ref h9, .int h0f17, .int h0f18, .int h0f19, .ref h10, .ref h11, .ref h12, .ref h13, .int h0f24, .int h0f25, .ref h14, .ref h15, .ref h16, .ref h17, .int h0f30, .int h0f31, .ref h18, .ref h19, .ref h20, .ref h21]), (h4, aJ (k 1) 9 anJ)]) hx hb hml hown hU hK hT rfl rfl [2, 3] rfl (by decide) (cX11_without_7abd5 l D k _ h0 h4 h1 h2 h3 h5 h6 h7 h8 h9 h10 h11 h12 h13 h14 h15 h16 h17 h18 h19 h20 h21 (2) (2) h0f0 h0f1 h0f2 h0f3 h0f4 h0f5 h0f8 h0f9 h0f17 h0f18 h0f19 h0f24 h0f25 h0f30 h0f31 (by have := li_2; omega) (by have := li_2; omega) (by omega) (by omega) (by omega) (by omega) (by omega) (by omega) (by omega) (by omega) (by omega) (by omega) (by omega) (by omega) (by omega)) w948 w945 w947 w34 w72 hdX11_without ⟨rfl, rfl⟩ ⟨Nat.le_of_ble_eq_true rfl, Nat.le_of_ble_eq_true rfl⟩ rfl hl.1 (Nat.le_of_ble_eq_true rfl) dX11_finds_124 ⟨Nat.le_of_ble_eq_true rfl, Nat.le_of_ble_eq_true rfl⟩) hT hS hA [2, 3] [0, 1] rfl rfl rfl (by decide) (by decide) (fun r20 H locs hB J hS => ?_)
        have hT1 := hB
        have hT := J _ hT1
        have hT : TP D A [(h7, aJ (k 1) 4 anJ), (h1, aI (k 0) 36 anI), (h0, ob 8 [.int h0f0, .int h0f1, .int h0f2, .int h0f3, .int h0f4, .int h0f5, .ref h1, .ref h2, .int h0f8, .int h0f9, .ref h3, .ref h4, .ref h5, .ref h6, .ref h7, .ref h8, .ref h9, .int h0f17, .int h0f18, .int h0f19, .ref h10, .ref h11, .ref h12, .ref h13, .int h0f24, .int h0f25, .ref h14, .ref h15, .ref h16, .ref h17, .int h0f30, .int h0f31, .ref h18, .ref h19, .ref h20, .ref h21]), (h4, aJ (k 1) 9 anJ)] H := hT
        refine lv_ladd hx hb dX11_finds_127 (lv_topl (fun v23 e_v23 => ?_))
        refine tz_last hx hb hK hT hS 0 rfl (by have := li_1; omega) (fun _ _ => trivial) dX11_finds_128 (fun H locs hT hS => ?_)
        refine lv_aload_n hx hb dX11_finds_129 rfl (lv_at hl 1 rfl) ?_
        refine tz_get (ci := 8) (v := .ref h7) (C := RX11) (F := TX11) (N := 36) hx hb hU iX11 hown hK hT 2 rfl rfl 14 (by decide) w799 (fun _ h9 => h9) rfl dX11_finds_130 ?_
        refine lv_iconst (v := 2) hx hb dX11_finds_133 (by decide) ?_
        refine lv_aload_n hx hb dX11_finds_134 rfl (lv_at hl 1 rfl) ?_
        refine tz_get (ci := 8) (v := .int h0f0) (C := RX11) (F := TX11) (N := 36) hx hb hU iX11 hown hK hT 2 rfl rfl 0 (by decide) w785 (fun _ h9 => h9) rfl dX11_finds_135 ?_
        refine lv_iconst (v := 2) hx hb dX11_finds_138 (by decide) ?_
        refine lv_icmp_ne (tgt := 146) hx hb dX11_finds_139 (by decide) (fun c_24 => ?_) (fun c_24 => ?_)
        · skip
          have c_24 := ni_ne c_24 rfl li_2
          refine lv_aload_n hx hb dX11_finds_146 rfl (lv_at hl 1 rfl) ?_
          refine tz_get (ci := 8) (v := .int h0f0) (C := RX11) (F := TX11) (N := 36) hx hb hU iX11 hown hK hT 2 rfl rfl 0 (by decide) w785 (fun _ h9 => h9) rfl dX11_finds_147 ?_
          refine lv_iconst (v := 3) hx hb dX11_finds_150 (by decide) ?_
          refine lv_icmp_ne (tgt := 159) hx hb dX11_finds_151 (by decide) (fun c_25 => ?_) (fun c_25 => ?_)
          · skip
            have c_25 := ni_ne c_25 rfl li_3
            exfalso; omega
          · skip
            have c_25 := ni_eq c_25 rfl li_3
            refine lv_lload_n hx hb dX11_finds_154 rfl (lv_at hl 0 rfl) ?_
            refine lv_lneg hx hb dX11_finds_155 (lv_topl (fun v26 e_v26 => ?_))
            refine lv_goto (tgt := 160) hx hb dX11_finds_156 (by decide) ?_
            refine tz_last hx hb hK hT hS 0 rfl (by have := li_2; omega) (fun _ _ => trivial) dX11_finds_160 (fun H locs hT hS => ?_)
            refine lv_aload_n hx hb dX11_finds_161 rfl (lv_at hl 1 rfl) ?_
            refine tz_get (ci := 8) (v := .ref h7) (C := RX11) (F := TX11) (N := 36) hx hb hU iX11 hown hK hT 2 rfl rfl 14 (by decide) w799 (fun _ h9 => h9) rfl dX11_finds_162 ?_
            refine lv_iconst (v := 3) hx hb dX11_finds_165 (by decide) ?_
            refine lv_aload_n hx hb dX11_finds_166 rfl (lv_at hl 1 rfl) ?_
            refine tz_get (ci := 8) (v := .int h0f0) (C := RX11) (F := TX11) (N := 36) hx hb hU iX11 hown hK hT 2 rfl rfl 0 (by decide) w785 (fun _ h9 => h9) rfl dX11_finds_167 ?_
            refine lv_iconst (v := 3) hx hb dX11_finds_170 (by decide) ?_
            refine lv_icmp_ne (tgt := 178) hx hb dX11_finds_171 (by decide) (fun c_27 => ?_) (fun c_27 => ?_)
            · skip
              have c_27 := ni_ne c_27 rfl li_3
              exfalso; omega
            · skip
              have c_27 := ni_eq c_27 rfl li_3
              refine lv_lconst (v := 1) hx hb dX11_finds_174 (by decide) ?_
              refine lv_goto (tgt := 179) hx hb dX11_finds_175 (by decide) ?_
              refine tz_last hx hb hK hT hS 0 rfl (by have := li_3; omega) (fun _ _ => trivial) dX11_finds_179 (fun H locs hT hS => ?_)
              exact tz_retV (B := B_cX11_finds_96b14 D k h0 h1 h4 h7 h2 h3 h5 h6 h8 h9 h10 h11 h12 h13 h14 h15 h16 h17 h18 h19 h20 h21 x1 h0f0 h0f1 h0f2 h0f3 h0f4 h0f5 h0f8 h0f9 h0f17 h0f18 h0f19 h0f24 h0f25 h0f30 h0f31) hQ hx hb hr hlocks hS (Nat.le_of_ble_eq_true rfl) (Nat.le_of_ble_eq_true rfl) dX11_finds_180 ((hT.sub [2, 1, 3, 0] (by decide) rfl))
        · skip
          have c_24 := ni_eq c_24 rfl li_2
          exfalso; omega
      · skip
        have c_12 := ni_eq c_12 rfl li_2
        refine lv_lload_n hx hb dX11_finds_91 rfl (lv_at hl 0 rfl) ?_
        refine lv_lneg hx hb dX11_finds_92 (lv_topl (fun v28 e_v28 => ?_))
        refine lv_goto (tgt := 128) hx hb dX11_finds_93 (by decide) ?_
        refine tz_last hx hb hK hT hS 0 rfl (by have := li_1; omega) (fun _ _ => trivial) dX11_finds_128 (fun H locs hT hS => ?_)
        refine lv_aload_n hx hb dX11_finds_129 rfl (lv_at hl 1 rfl) ?_
        refine tz_get (ci := 8) (v := .ref h7) (C := RX11) (F := TX11) (N := 36) hx hb hU iX11 hown hK hT 2 rfl rfl 14 (by decide) w799 (fun _ h9 => h9) rfl dX11_finds_130 ?_
        refine lv_iconst (v := 2) hx hb dX11_finds_133 (by decide) ?_
        refine lv_aload_n hx hb dX11_finds_134 rfl (lv_at hl 1 rfl) ?_
        refine tz_get (ci := 8) (v := .int h0f0) (C := RX11) (F := TX11) (N := 36) hx hb hU iX11 hown hK hT 2 rfl rfl 0 (by decide) w785 (fun _ h9 => h9) rfl dX11_finds_135 ?_
        refine lv_iconst (v := 2) hx hb dX11_finds_138 (by decide) ?_
        refine lv_icmp_ne (tgt := 146) hx hb dX11_finds_139 (by decide) (fun c_29 => ?_) (fun c_29 => ?_)
        · skip
          have c_29 := ni_ne c_29 rfl li_2
          exfalso; omega
        · skip
          have c_29 := ni_eq c_29 rfl li_2
          refine lv_lconst (v := 1) hx hb dX11_finds_142 (by decide) ?_
          refine lv_goto (tgt := 160) hx hb dX11_finds_143 (by decide) ?_
          refine tz_last hx hb hK hT hS 0 rfl (by have := li_2; omega) (fun _ _ => trivial) dX11_finds_160 (fun H locs hT hS => ?_)
          refine lv_aload_n hx hb dX11_finds_161 rfl (lv_at hl 1 rfl) ?_
          refine tz_get (ci := 8) (v := .ref h7) (C := RX11) (F := TX11) (N := 36) hx hb hU iX11 hown hK hT 2 rfl rfl 14 (by decide) w799 (fun _ h9 => h9) rfl dX11_finds_162 ?_
          refine lv_iconst (v := 3) hx hb dX11_finds_165 (by decide) ?_
          refine lv_aload_n hx hb dX11_finds_166 rfl (lv_at hl 1 rfl) ?_
          refine tz_get (ci := 8) (v := .int h0f0) (C := RX11) (F := TX11) (N := 36) hx hb hU iX11 hown hK hT 2 rfl rfl 0 (by decide) w785 (fun _ h9 => h9) rfl dX11_finds_167 ?_
          refine lv_iconst (v := 3) hx hb dX11_finds_170 (by decide) ?_
          refine lv_icmp_ne (tgt := 178) hx hb dX11_finds_171 (by decide) (fun c_30 => ?_) (fun c_30 => ?_)
          · skip
            have c_30 := ni_ne c_30 rfl li_3
            refine lv_lconst (v := 0) hx hb dX11_finds_178 (by decide) ?_
            refine tz_last hx hb hK hT hS 0 rfl (by have := li_3; omega) (fun _ _ => trivial) dX11_finds_179 (fun H locs hT hS => ?_)
            exact tz_retV (B := B_cX11_finds_96b14 D k h0 h1 h4 h7 h2 h3 h5 h6 h8 h9 h10 h11 h12 h13 h14 h15 h16 h17 h18 h19 h20 h21 x1 h0f0 h0f1 h0f2 h0f3 h0f4 h0f5 h0f8 h0f9 h0f17 h0f18 h0f19 h0f24 h0f25 h0f30 h0f31) hQ hx hb hr hlocks hS (Nat.le_of_ble_eq_true rfl) (Nat.le_of_ble_eq_true rfl) dX11_finds_180 ((hT.sub [2, 1, 3, 0] (by decide) rfl))
          · skip
            have c_30 := ni_eq c_30 rfl li_3
            exfalso; omega
    · skip
      have c_11 := ni_eq c_11 rfl li_1
      refine lv_lconst (v := 1) hx hb dX11_finds_79 (by decide) ?_
      refine lv_goto (tgt := 128) hx hb dX11_finds_80 (by decide) ?_
      refine tz_last hx hb hK hT hS 0 rfl (by have := li_1; omega) (fun _ _ => trivial) dX11_finds_128 (fun H locs hT hS => ?_)
      refine lv_aload_n hx hb dX11_finds_129 rfl (lv_at hl 1 rfl) ?_
      refine tz_get (ci := 8) (v := .ref h7) (C := RX11) (F := TX11) (N := 36) hx hb hU iX11 hown hK hT 2 rfl rfl 14 (by decide) w799 (fun _ h9 => h9) rfl dX11_finds_130 ?_
      refine lv_iconst (v := 2) hx hb dX11_finds_133 (by decide) ?_
      refine lv_aload_n hx hb dX11_finds_134 rfl (lv_at hl 1 rfl) ?_
      refine tz_get (ci := 8) (v := .int h0f0) (C := RX11) (F := TX11) (N := 36) hx hb hU iX11 hown hK hT 2 rfl rfl 0 (by decide) w785 (fun _ h9 => h9) rfl dX11_finds_135 ?_
      refine lv_iconst (v := 2) hx hb dX11_finds_138 (by decide) ?_
      refine lv_icmp_ne (tgt := 146) hx hb dX11_finds_139 (by decide) (fun c_31 => ?_) (fun c_31 => ?_)
      · skip
        have c_31 := ni_ne c_31 rfl li_2
        refine lv_aload_n hx hb dX11_finds_146 rfl (lv_at hl 1 rfl) ?_
        refine tz_get (ci := 8) (v := .int h0f0) (C := RX11) (F := TX11) (N := 36) hx hb hU iX11 hown hK hT 2 rfl rfl 0 (by decide) w785 (fun _ h9 => h9) rfl dX11_finds_147 ?_
        refine lv_iconst (v := 3) hx hb dX11_finds_150 (by decide) ?_
        refine lv_icmp_ne (tgt := 159) hx hb dX11_finds_151 (by decide) (fun c_32 => ?_) (fun c_32 => ?_)
        · skip
          have c_32 := ni_ne c_32 rfl li_3
          refine lv_lconst (v := 0) hx hb dX11_finds_159 (by decide) ?_
          refine tz_last hx hb hK hT hS 0 rfl (by have := li_2; omega) (fun _ _ => trivial) dX11_finds_160 (fun H locs hT hS => ?_)
          refine lv_aload_n hx hb dX11_finds_161 rfl (lv_at hl 1 rfl) ?_
          refine tz_get (ci := 8) (v := .ref h7) (C := RX11) (F := TX11) (N := 36) hx hb hU iX11 hown hK hT 2 rfl rfl 14 (by decide) w799 (fun _ h9 => h9) rfl dX11_finds_162 ?_
          refine lv_iconst (v := 3) hx hb dX11_finds_165 (by decide) ?_
          refine lv_aload_n hx hb dX11_finds_166 rfl (lv_at hl 1 rfl) ?_
          refine tz_get (ci := 8) (v := .int h0f0) (C := RX11) (F := TX11) (N := 36) hx hb hU iX11 hown hK hT 2 rfl rfl 0 (by decide) w785 (fun _ h9 => h9) rfl dX11_finds_167 ?_
          refine lv_iconst (v := 3) hx hb dX11_finds_170 (by decide) ?_
          refine lv_icmp_ne (tgt := 178) hx hb dX11_finds_171 (by decide) (fun c_33 => ?_) (fun c_33 => ?_)
          · skip
            have c_33 := ni_ne c_33 rfl li_3
            refine lv_lconst (v := 0) hx hb dX11_finds_178 (by decide) ?_
            refine tz_last hx hb hK hT hS 0 rfl (by have := li_3; omega) (fun _ _ => trivial) dX11_finds_179 (fun H locs hT hS => ?_)
            exact tz_retV (B := B_cX11_finds_96b14 D k h0 h1 h4 h7 h2 h3 h5 h6 h8 h9 h10 h11 h12 h13 h14 h15 h16 h17 h18 h19 h20 h21 x1 h0f0 h0f1 h0f2 h0f3 h0f4 h0f5 h0f8 h0f9 h0f17 h0f18 h0f19 h0f24 h0f25 h0f30 h0f31) hQ hx hb hr hlocks hS (Nat.le_of_ble_eq_true rfl) (Nat.le_of_ble_eq_true rfl) dX11_finds_180 ((hT.sub [2, 1, 3, 0] (by decide) rfl))
          · skip
            have c_33 := ni_eq c_33 rfl li_3
            exfalso; omega
        · skip
          have c_32 := ni_eq c_32 rfl li_3
          exfalso; omega
      · skip
        have c_31 := ni_eq c_31 rfl li_2
        exfalso; omega
  · skip
    have c_8 := ni_eq c_8 rfl li_0
    refine lv_aload_n hx hb dX11_finds_45 rfl (lv_at hl 1 rfl) ?_
    refine lv_aload_n hx hb dX11_finds_46 rfl (lv_at hl 1 rfl) ?_
    refine tz_get (ci := 8) (v := .ref h4) (C := RX11) (F := TX11) (N := 36) hx hb hU iX11 hown hK hT 1 rfl rfl 11 (by decide) w796 (fun _ h9 => h9) rfl dX11_finds_47 ?_
    refine tcL (Tc := [(h0, ob 8 [.int h0f0, .int h0f1, .int h0f2, .int h0f3, .int h0f4, .int h0f5, .ref h1, .ref h2, .int h0f8, .int h0f9, .ref h3, .ref h4, .ref h5, .ref h6, .ref h7, .ref h8, .ref h9, .int h0f17, .int h0f18, .int h0f19, .ref h10, .ref h11, .ref h12, .ref h13, .int h0f24, .int h0f25, .ref h14, .ref h15, .ref h16, .ref h17, .int h0f30, .int h0f31, .ref h18, .ref h19, .ref h20, .ref h21]), (h4, aJ (k 1) 9 anJ)]) (Tr := [(h7, aJ (k 1) 4 anJ), (h1, aI (k 0) 36 anI)]) (as := [h0, h4]) (zcV (q0 := 1) (ci := 8) (As := [.ref h4]) (rest := [.int 0, .ref h7]) (Tc := [(h0, ob 8 [.int h0f0, .int h0f1, .int h0f2, .int h0f3, .int h0f4, .int h0f5, .ref h1, .ref h2, .int h0f8, .int h0f9, .ref h3, .ref h4, .ref h5, .ref h6, .ref h7, .ref h8, .ref h9, .int h0f17, .int h0f18, .int h0f19, .ref h10, .ref h11, .ref h12, .ref h13, .int h0f24, .int h0f25, .ref h14, .ref h15, .ref h16, .ref h17, .int h0f30, .int h0f31, .ref h18, .ref h19, .ref h20, .ref h21]), (h4, aJ (k 1) 9 anJ)]) hx hb hml hown hU hK hT rfl rfl [1, 2] rfl (by decide) (cX11_det_d3262 l D k _ h0 h4 h1 h2 h3 h5 h6 h7 h8 h9 h10 h11 h12 h13 h14 h15 h16 h17 h18 h19 h20 h21 h0f0 h0f1 h0f2 h0f3 h0f4 h0f5 h0f8 h0f9 h0f17 h0f18 h0f19 h0f24 h0f25 h0f30 h0f31 (by omega) (by omega) (by omega) (by omega) (by omega) (by omega) (by omega) (by omega) (by omega) (by omega) (by omega) (by omega) (by omega)) w952 w949 w951 w35 w72 hdX11_det ⟨rfl, rfl⟩ ⟨Nat.le_of_ble_eq_true rfl, Nat.le_of_ble_eq_true rfl⟩ rfl hl.1 (Nat.le_of_ble_eq_true rfl) dX11_finds_50 ⟨Nat.le_of_ble_eq_true rfl, Nat.le_of_ble_eq_true rfl⟩) hT hS hA [1, 2] [0, 3] rfl rfl rfl (by decide) (by decide) (fun r34 H locs hB J hS => ?_)
    have hT1 := hB
    have hT := J _ hT1
    have hT : TP D A [(h7, aJ (k 1) 4 anJ), (h1, aI (k 0) 36 anI), (h0, ob 8 [.int h0f0, .int h0f1, .int h0f2, .int h0f3, .int h0f4, .int h0f5, .ref h1, .ref h2, .int h0f8, .int h0f9, .ref h3, .ref h4, .ref h5, .ref h6, .ref h7, .ref h8, .ref h9, .int h0f17, .int h0f18, .int h0f19, .ref h10, .ref h11, .ref h12, .ref h13, .int h0f24, .int h0f25, .ref h14, .ref h15, .ref h16, .ref h17, .int h0f30, .int h0f31, .ref h18, .ref h19, .ref h20, .ref h21]), (h4, aJ (k 1) 9 anJ)] H := hT
    refine lv_goto (tgt := 65) hx hb dX11_finds_53 (by decide) ?_
    refine tz_last hx hb hK hT hS 0 rfl (by have := li_0; omega) (fun _ _ => trivial) dX11_finds_65 (fun H locs hT hS => ?_)
    refine lv_aload_n hx hb dX11_finds_66 rfl (lv_at hl 1 rfl) ?_
    refine tz_get (ci := 8) (v := .ref h7) (C := RX11) (F := TX11) (N := 36) hx hb hU iX11 hown hK hT 2 rfl rfl 14 (by decide) w799 (fun _ h9 => h9) rfl dX11_finds_67 ?_
    refine lv_iconst (v := 1) hx hb dX11_finds_70 (by decide) ?_
    refine lv_aload_n hx hb dX11_finds_71 rfl (lv_at hl 1 rfl) ?_
    refine tz_get (ci := 8) (v := .int h0f0) (C := RX11) (F := TX11) (N := 36) hx hb hU iX11 hown hK hT 2 rfl rfl 0 (by decide) w785 (fun _ h9 => h9) rfl dX11_finds_72 ?_
    refine lv_iconst (v := 1) hx hb dX11_finds_75 (by decide) ?_
    refine lv_icmp_ne (tgt := 83) hx hb dX11_finds_76 (by decide) (fun c_35 => ?_) (fun c_35 => ?_)
    · skip
      have c_35 := ni_ne c_35 rfl li_1
      refine lv_aload_n hx hb dX11_finds_83 rfl (lv_at hl 1 rfl) ?_
      refine tz_get (ci := 8) (v := .int h0f0) (C := RX11) (F := TX11) (N := 36) hx hb hU iX11 hown hK hT 2 rfl rfl 0 (by decide) w785 (fun _ h9 => h9) rfl dX11_finds_84 ?_
      refine lv_iconst (v := 2) hx hb dX11_finds_87 (by decide) ?_
      refine lv_icmp_ne (tgt := 96) hx hb dX11_finds_88 (by decide) (fun c_36 => ?_) (fun c_36 => ?_)
      · skip
        have c_36 := ni_ne c_36 rfl li_2
        refine lv_aload_n hx hb dX11_finds_96 rfl (lv_at hl 1 rfl) ?_
        refine lv_aload_n hx hb dX11_finds_97 rfl (lv_at hl 1 rfl) ?_
        refine tz_get (ci := 8) (v := .ref h4) (C := RX11) (F := TX11) (N := 36) hx hb hU iX11 hown hK hT 2 rfl rfl 11 (by decide) w796 (fun _ h9 => h9) rfl dX11_finds_98 ?_
        refine lv_iconst (v := 0) hx hb dX11_finds_101 (by decide) ?_
        refine lv_iconst (v := 0) hx hb dX11_finds_102 (by decide) ?_
        have q_q38 := li_0
        have q_q39 := li_0
        refine tcL (Tc := [(h0, ob 8 [.int h0f0, .int h0f1, .int h0f2, .int h0f3, .int h0f4, .int h0f5, .ref h1, .ref h2, .int h0f8, .int h0f9, .ref h3, .ref h4, .ref h5, .ref h6, .ref h7, .ref h8, .ref h9, .int h0f17, .int h0f18, .int h0f19, .ref h10, .ref h11, .ref h12, .ref h13, .int h0f24, .int h0f25, .ref h14, .ref h15, .ref h16, .ref h17, .int h0f30, .int h0f31, .ref h18, .ref h19, .ref h20, .ref h21]), (h4, aJ (k 1) 9 anJ)]) (Tr := [(h7, aJ (k 1) 4 anJ), (h1, aI (k 0) 36 anI)]) (as := [h0, h4]) (zcV (q0 := 2) (ci := 8) (As := [.ref h4, .int 0, .int 0]) (rest := [.int 1, .ref h7]) (Tc := [(h0, ob 8 [.int h0f0, .int h0f1, .int h0f2, .int h0f3, .int h0f4, .int h0f5, .ref h1, .ref h2, .int h0f8, .int h0f9, .ref h3, .ref h4, .ref h5, .ref h6, .ref h7, .ref h8, .ref h9, .int h0f17, .int h0f18, .int h0f19, .ref h10, .ref h11, .ref h12, .ref h13, .int h0f24, .int h0f25, .ref h14, .ref h15, .ref h16, .ref h17, .int h0f30, .int h0f31, .ref h18, .ref h19, .ref h20, .ref h21]), (h4, aJ (k 1) 9 anJ)]) hx hb hml hown hU hK hT rfl rfl [2, 3] rfl (by decide) (cX11_without_7abd5 l D k _ h0 h4 h1 h2 h3 h5 h6 h7 h8 h9 h10 h11 h12 h13 h14 h15 h16 h17 h18 h19 h20 h21 (0) (0) h0f0 h0f1 h0f2 h0f3 h0f4 h0f5 h0f8 h0f9 h0f17 h0f18 h0f19 h0f24 h0f25 h0f30 h0f31 (by have := li_0; omega) (by have := li_0; omega) (by omega) (by omega) (by omega) (by omega) (by omega) (by omega) (by omega) (by omega) (by omega) (by omega) (by omega) (by omega) (by omega)) w948 w945 w947 w34 w72 hdX11_without ⟨rfl, rfl⟩ ⟨Nat.le_of_ble_eq_true rfl, Nat.le_of_ble_eq_true rfl⟩ rfl hl.1 (Nat.le_of_ble_eq_true rfl) dX11_finds_103 ⟨Nat.le_of_ble_eq_true rfl, Nat.le_of_ble_eq_true rfl⟩) hT hS hA [2, 3] [0, 1] rfl rfl rfl (by decide) (by decide) (fun r37 H locs hB J hS => ?_)
        have hT1 := hB
        have hT := J _ hT1
        have hT : TP D A [(h7, aJ (k 1) 4 anJ), (h1, aI (k 0) 36 anI), (h0, ob 8 [.int h0f0, .int h0f1, .int h0f2, .int h0f3, .int h0f4, .int h0f5, .ref h1, .ref h2, .int h0f8, .int h0f9, .ref h3, .ref h4, .ref h5, .ref h6, .ref h7, .ref h8, .ref h9, .int h0f17, .int h0f18, .int h0f19, .ref h10, .ref h11, .ref h12, .ref h13, .int h0f24, .int h0f25, .ref h14, .ref h15, .ref h16, .ref h17, .int h0f30, .int h0f31, .ref h18, .ref h19, .ref h20, .ref h21]), (h4, aJ (k 1) 9 anJ)] H := hT
        refine lv_aload_n hx hb dX11_finds_106 rfl (lv_at hl 1 rfl) ?_
        refine lv_aload_n hx hb dX11_finds_107 rfl (lv_at hl 1 rfl) ?_
        refine tz_get (ci := 8) (v := .ref h4) (C := RX11) (F := TX11) (N := 36) hx hb hU iX11 hown hK hT 2 rfl rfl 11 (by decide) w796 (fun _ h9 => h9) rfl dX11_finds_108 ?_
        refine lv_iconst (v := 1) hx hb dX11_finds_111 (by decide) ?_
        refine lv_iconst (v := 1) hx hb dX11_finds_112 (by decide) ?_
        have q_q41 := li_1
        have q_q42 := li_1
        refine tcL (Tc := [(h0, ob 8 [.int h0f0, .int h0f1, .int h0f2, .int h0f3, .int h0f4, .int h0f5, .ref h1, .ref h2, .int h0f8, .int h0f9, .ref h3, .ref h4, .ref h5, .ref h6, .ref h7, .ref h8, .ref h9, .int h0f17, .int h0f18, .int h0f19, .ref h10, .ref h11, .ref h12, .ref h13, .int h0f24, .int h0f25, .ref h14, .ref h15, .ref h16, .ref h17, .int h0f30, .int h0f31, .ref h18, .ref h19, .ref h20, .ref h21]), (h4, aJ (k 1) 9 anJ)]) (Tr := [(h7, aJ (k 1) 4 anJ), (h1, aI (k 0) 36 anI)]) (as := [h0, h4]) (zcV (q0 := 2) (ci := 8) (As := [.ref h4, .int 1, .int 1]) (rest := [.long r37, .int 1, .ref h7]) (Tc := [(h0, ob 8 [.int h0f0, .int h0f1, .int h0f2, .int h0f3, .int h0f4, .int h0f5, .ref h1, .ref h2, .int h0f8, .int h0f9, .ref h3, .ref h4, .ref h5, .ref h6, .ref h7, .ref h8, .ref h9, .int h0f17, .int h0f18, .int h0f19, .ref h10, .ref h11, .ref h12, .ref h13, .int h0f24, .int h0f25, .ref h14, .ref h15, .ref h16, .ref h17, .int h0f30, .int h0f31, .ref h18, .ref h19, .ref h20, .ref h21]), (h4, aJ (k 1) 9 anJ)]) hx hb hml hown hU hK hT rfl rfl [2, 3] rfl (by decide) (cX11_without_7abd5 l D k _ h0 h4 h1 h2 h3 h5 h6 h7 h8 h9 h10 h11 h12 h13 h14 h15 h16 h17 h18 h19 h20 h21 (1) (1) h0f0 h0f1 h0f2 h0f3 h0f4 h0f5 h0f8 h0f9 h0f17 h0f18 h0f19 h0f24 h0f25 h0f30 h0f31 (by have := li_1; omega) (by have := li_1; omega) (by omega) (by omega) (by omega) (by omega) (by omega) (by omega) (by omega) (by omega) (by omega) (by omega) (by omega) (by omega) (by omega)) w948 w945 w947 w34 w72 hdX11_without ⟨rfl, rfl⟩ ⟨Nat.le_of_ble_eq_true rfl, Nat.le_of_ble_eq_true rfl⟩ rfl hl.1 (Nat.le_of_ble_eq_true rfl) dX11_finds_113 ⟨Nat.le_of_ble_eq_true rfl, Nat.le_of_ble_eq_true rfl⟩) hT hS hA [2, 3] [0, 1] rfl rfl rfl (by decide) (by decide) (fun r40 H locs hB J hS => ?_)
        have hT1 := hB
        have hT := J _ hT1
        have hT : TP D A [(h7, aJ (k 1) 4 anJ), (h1, aI (k 0) 36 anI), (h0, ob 8 [.int h0f0, .int h0f1, .int h0f2, .int h0f3, .int h0f4, .int h0f5, .ref h1, .ref h2, .int h0f8, .int h0f9, .ref h3, .ref h4, .ref h5, .ref h6, .ref h7, .ref h8, .ref h9, .int h0f17, .int h0f18, .int h0f19, .ref h10, .ref h11, .ref h12, .ref h13, .int h0f24, .int h0f25, .ref h14, .ref h15, .ref h16, .ref h17, .int h0f30, .int h0f31, .ref h18, .ref h19, .ref h20, .ref h21]), (h4, aJ (k 1) 9 anJ)] H := hT
        refine lv_ladd hx hb dX11_finds_116 (lv_topl (fun v43 e_v43 => ?_))
        refine lv_aload_n hx hb dX11_finds_117 rfl (lv_at hl 1 rfl) ?_
        refine lv_aload_n hx hb dX11_finds_118 rfl (lv_at hl 1 rfl) ?_
        refine tz_get (ci := 8) (v := .ref h4) (C := RX11) (F := TX11) (N := 36) hx hb hU iX11 hown hK hT 2 rfl rfl 11 (by decide) w796 (fun _ h9 => h9) rfl dX11_finds_119 ?_
        refine lv_iconst (v := 2) hx hb dX11_finds_122 (by decide) ?_
        refine lv_iconst (v := 2) hx hb dX11_finds_123 (by decide) ?_
        have q_q45 := li_2
        have q_q46 := li_2
        refine tcL (Tc := [(h0, ob 8 [.int h0f0, .int h0f1, .int h0f2, .int h0f3, .int h0f4, .int h0f5, .ref h1, .ref h2, .int h0f8, .int h0f9, .ref h3, .ref h4, .ref h5, .ref h6, .ref h7, .ref h8, .ref h9, .int h0f17, .int h0f18, .int h0f19, .ref h10, .ref h11, .ref h12, .ref h13, .int h0f24, .int h0f25, .ref h14, .ref h15, .ref h16, .ref h17, .int h0f30, .int h0f31, .ref h18, .ref h19, .ref h20, .ref h21]), (h4, aJ (k 1) 9 anJ)]) (Tr := [(h7, aJ (k 1) 4 anJ), (h1, aI (k 0) 36 anI)]) (as := [h0, h4]) (zcV (q0 := 2) (ci := 8) (As := [.ref h4, .int 2, .int 2]) (rest := [.long v43, .int 1, .ref h7]) (Tc := [(h0, ob 8 [.int h0f0, .int h0f1, .int h0f2, .int h0f3, .int h0f4, .int h0f5, .ref h1, .ref h2, .int h0f8, .int h0f9, .ref h3, .ref h4, .ref h5, .ref h6, .ref h7, .ref h8, .ref h9, .int h0f17, .int h0f18, .int h0f19, .ref h10, .ref h11, .ref h12, .ref h13, .int h0f24, .int h0f25, .ref h14, .ref h15, .ref h16, .ref h17, .int h0f30, .int h0f31, .ref h18, .ref h19, .ref h20, .ref h21]), (h4, aJ (k 1) 9 anJ)]) hx hb hml hown hU hK hT rfl rfl [2, 3] rfl (by decide) (cX11_without_7abd5 l D k _ h0 h4 h1 h2 h3 h5 h6 h7 h8 h9 h10 h11 h12 h13 h14 h15 h16 h17 h18 h19 h20 h21 (2) (2) h0f0 h0f1 h0f2 h0f3 h0f4 h0f5 h0f8 h0f9 h0f17 h0f18 h0f19 h0f24 h0f25 h0f30 h0f31 (by have := li_2; omega) (by have := li_2; omega) (by omega) (by omega) (by omega) (by omega) (by omega) (by omega) (by omega) (by omega) (by omega) (by omega) (by omega) (by omega) (by omega)) w948 w945 w947 w34 w72 hdX11_without ⟨rfl, rfl⟩ ⟨Nat.le_of_ble_eq_true rfl, Nat.le_of_ble_eq_true rfl⟩ rfl hl.1 (Nat.le_of_ble_eq_true rfl) dX11_finds_124 ⟨Nat.le_of_ble_eq_true rfl, Nat.le_of_ble_eq_true rfl⟩) hT hS hA [2, 3] [0, 1] rfl rfl rfl (by decide) (by decide) (fun r44 H locs hB J hS => ?_)
        have hT1 := hB
        have hT := J _ hT1
        have hT : TP D A [(h7, aJ (k 1) 4 anJ), (h1, aI (k 0) 36 anI), (h0, ob 8 [.int h0f0, .int h0f1, .int h0f2, .int h0f3, .int h0f4, .int h0f5, .ref h1, .ref h2, .int h0f8, .int h0f9, .ref h3, .ref h4, .ref h5, .ref h6, .ref h7, .ref h8, .ref h9, .int h0f17, .int h0f18, .int h0f19, .ref h10, .ref h11, .ref h12, .ref h13, .int h0f24, .int h0f25, .ref h14, .ref h15, .ref h16, .ref h17, .int h0f30, .int h0f31, .ref h18, .ref h19, .ref h20, .ref h21]), (h4, aJ (k 1) 9 anJ)] H := hT
        refine lv_ladd hx hb dX11_finds_127 (lv_topl (fun v47 e_v47 => ?_))
        refine tz_last hx hb hK hT hS 0 rfl (by have := li_1; omega) (fun _ _ => trivial) dX11_finds_128 (fun H locs hT hS => ?_)
        refine lv_aload_n hx hb dX11_finds_129 rfl (lv_at hl 1 rfl) ?_
        refine tz_get (ci := 8) (v := .ref h7) (C := RX11) (F := TX11) (N := 36) hx hb hU iX11 hown hK hT 2 rfl rfl 14 (by decide) w799 (fun _ h9 => h9) rfl dX11_finds_130 ?_
        refine lv_iconst (v := 2) hx hb dX11_finds_133 (by decide) ?_
        refine lv_aload_n hx hb dX11_finds_134 rfl (lv_at hl 1 rfl) ?_
        refine tz_get (ci := 8) (v := .int h0f0) (C := RX11) (F := TX11) (N := 36) hx hb hU iX11 hown hK hT 2 rfl rfl 0 (by decide) w785 (fun _ h9 => h9) rfl dX11_finds_135 ?_
        refine lv_iconst (v := 2) hx hb dX11_finds_138 (by decide) ?_
        refine lv_icmp_ne (tgt := 146) hx hb dX11_finds_139 (by decide) (fun c_48 => ?_) (fun c_48 => ?_)
        · skip
          have c_48 := ni_ne c_48 rfl li_2
          refine lv_aload_n hx hb dX11_finds_146 rfl (lv_at hl 1 rfl) ?_
          refine tz_get (ci := 8) (v := .int h0f0) (C := RX11) (F := TX11) (N := 36) hx hb hU iX11 hown hK hT 2 rfl rfl 0 (by decide) w785 (fun _ h9 => h9) rfl dX11_finds_147 ?_
          refine lv_iconst (v := 3) hx hb dX11_finds_150 (by decide) ?_
          refine lv_icmp_ne (tgt := 159) hx hb dX11_finds_151 (by decide) (fun c_49 => ?_) (fun c_49 => ?_)
          · skip
            have c_49 := ni_ne c_49 rfl li_3
            exfalso; omega
          · skip
            have c_49 := ni_eq c_49 rfl li_3
            refine lv_lload_n hx hb dX11_finds_154 rfl (lv_at hl 0 rfl) ?_
            refine lv_lneg hx hb dX11_finds_155 (lv_topl (fun v50 e_v50 => ?_))
            refine lv_goto (tgt := 160) hx hb dX11_finds_156 (by decide) ?_
            refine tz_last hx hb hK hT hS 0 rfl (by have := li_2; omega) (fun _ _ => trivial) dX11_finds_160 (fun H locs hT hS => ?_)
            refine lv_aload_n hx hb dX11_finds_161 rfl (lv_at hl 1 rfl) ?_
            refine tz_get (ci := 8) (v := .ref h7) (C := RX11) (F := TX11) (N := 36) hx hb hU iX11 hown hK hT 2 rfl rfl 14 (by decide) w799 (fun _ h9 => h9) rfl dX11_finds_162 ?_
            refine lv_iconst (v := 3) hx hb dX11_finds_165 (by decide) ?_
            refine lv_aload_n hx hb dX11_finds_166 rfl (lv_at hl 1 rfl) ?_
            refine tz_get (ci := 8) (v := .int h0f0) (C := RX11) (F := TX11) (N := 36) hx hb hU iX11 hown hK hT 2 rfl rfl 0 (by decide) w785 (fun _ h9 => h9) rfl dX11_finds_167 ?_
            refine lv_iconst (v := 3) hx hb dX11_finds_170 (by decide) ?_
            refine lv_icmp_ne (tgt := 178) hx hb dX11_finds_171 (by decide) (fun c_51 => ?_) (fun c_51 => ?_)
            · skip
              have c_51 := ni_ne c_51 rfl li_3
              exfalso; omega
            · skip
              have c_51 := ni_eq c_51 rfl li_3
              refine lv_lconst (v := 1) hx hb dX11_finds_174 (by decide) ?_
              refine lv_goto (tgt := 179) hx hb dX11_finds_175 (by decide) ?_
              refine tz_last hx hb hK hT hS 0 rfl (by have := li_3; omega) (fun _ _ => trivial) dX11_finds_179 (fun H locs hT hS => ?_)
              exact tz_retV (B := B_cX11_finds_96b14 D k h0 h1 h4 h7 h2 h3 h5 h6 h8 h9 h10 h11 h12 h13 h14 h15 h16 h17 h18 h19 h20 h21 x1 h0f0 h0f1 h0f2 h0f3 h0f4 h0f5 h0f8 h0f9 h0f17 h0f18 h0f19 h0f24 h0f25 h0f30 h0f31) hQ hx hb hr hlocks hS (Nat.le_of_ble_eq_true rfl) (Nat.le_of_ble_eq_true rfl) dX11_finds_180 ((hT.sub [2, 1, 3, 0] (by decide) rfl))
        · skip
          have c_48 := ni_eq c_48 rfl li_2
          exfalso; omega
      · skip
        have c_36 := ni_eq c_36 rfl li_2
        refine lv_lload_n hx hb dX11_finds_91 rfl (lv_at hl 0 rfl) ?_
        refine lv_lneg hx hb dX11_finds_92 (lv_topl (fun v52 e_v52 => ?_))
        refine lv_goto (tgt := 128) hx hb dX11_finds_93 (by decide) ?_
        refine tz_last hx hb hK hT hS 0 rfl (by have := li_1; omega) (fun _ _ => trivial) dX11_finds_128 (fun H locs hT hS => ?_)
        refine lv_aload_n hx hb dX11_finds_129 rfl (lv_at hl 1 rfl) ?_
        refine tz_get (ci := 8) (v := .ref h7) (C := RX11) (F := TX11) (N := 36) hx hb hU iX11 hown hK hT 2 rfl rfl 14 (by decide) w799 (fun _ h9 => h9) rfl dX11_finds_130 ?_
        refine lv_iconst (v := 2) hx hb dX11_finds_133 (by decide) ?_
        refine lv_aload_n hx hb dX11_finds_134 rfl (lv_at hl 1 rfl) ?_
        refine tz_get (ci := 8) (v := .int h0f0) (C := RX11) (F := TX11) (N := 36) hx hb hU iX11 hown hK hT 2 rfl rfl 0 (by decide) w785 (fun _ h9 => h9) rfl dX11_finds_135 ?_
        refine lv_iconst (v := 2) hx hb dX11_finds_138 (by decide) ?_
        refine lv_icmp_ne (tgt := 146) hx hb dX11_finds_139 (by decide) (fun c_53 => ?_) (fun c_53 => ?_)
        · skip
          have c_53 := ni_ne c_53 rfl li_2
          exfalso; omega
        · skip
          have c_53 := ni_eq c_53 rfl li_2
          refine lv_lconst (v := 1) hx hb dX11_finds_142 (by decide) ?_
          refine lv_goto (tgt := 160) hx hb dX11_finds_143 (by decide) ?_
          refine tz_last hx hb hK hT hS 0 rfl (by have := li_2; omega) (fun _ _ => trivial) dX11_finds_160 (fun H locs hT hS => ?_)
          refine lv_aload_n hx hb dX11_finds_161 rfl (lv_at hl 1 rfl) ?_
          refine tz_get (ci := 8) (v := .ref h7) (C := RX11) (F := TX11) (N := 36) hx hb hU iX11 hown hK hT 2 rfl rfl 14 (by decide) w799 (fun _ h9 => h9) rfl dX11_finds_162 ?_
          refine lv_iconst (v := 3) hx hb dX11_finds_165 (by decide) ?_
          refine lv_aload_n hx hb dX11_finds_166 rfl (lv_at hl 1 rfl) ?_
          refine tz_get (ci := 8) (v := .int h0f0) (C := RX11) (F := TX11) (N := 36) hx hb hU iX11 hown hK hT 2 rfl rfl 0 (by decide) w785 (fun _ h9 => h9) rfl dX11_finds_167 ?_
          refine lv_iconst (v := 3) hx hb dX11_finds_170 (by decide) ?_
          refine lv_icmp_ne (tgt := 178) hx hb dX11_finds_171 (by decide) (fun c_54 => ?_) (fun c_54 => ?_)
          · skip
            have c_54 := ni_ne c_54 rfl li_3
            refine lv_lconst (v := 0) hx hb dX11_finds_178 (by decide) ?_
            refine tz_last hx hb hK hT hS 0 rfl (by have := li_3; omega) (fun _ _ => trivial) dX11_finds_179 (fun H locs hT hS => ?_)
            exact tz_retV (B := B_cX11_finds_96b14 D k h0 h1 h4 h7 h2 h3 h5 h6 h8 h9 h10 h11 h12 h13 h14 h15 h16 h17 h18 h19 h20 h21 x1 h0f0 h0f1 h0f2 h0f3 h0f4 h0f5 h0f8 h0f9 h0f17 h0f18 h0f19 h0f24 h0f25 h0f30 h0f31) hQ hx hb hr hlocks hS (Nat.le_of_ble_eq_true rfl) (Nat.le_of_ble_eq_true rfl) dX11_finds_180 ((hT.sub [2, 1, 3, 0] (by decide) rfl))
          · skip
            have c_54 := ni_eq c_54 rfl li_3
            exfalso; omega
    · skip
      have c_35 := ni_eq c_35 rfl li_1
      refine lv_lconst (v := 1) hx hb dX11_finds_79 (by decide) ?_
      refine lv_goto (tgt := 128) hx hb dX11_finds_80 (by decide) ?_
      refine tz_last hx hb hK hT hS 0 rfl (by have := li_1; omega) (fun _ _ => trivial) dX11_finds_128 (fun H locs hT hS => ?_)
      refine lv_aload_n hx hb dX11_finds_129 rfl (lv_at hl 1 rfl) ?_
      refine tz_get (ci := 8) (v := .ref h7) (C := RX11) (F := TX11) (N := 36) hx hb hU iX11 hown hK hT 2 rfl rfl 14 (by decide) w799 (fun _ h9 => h9) rfl dX11_finds_130 ?_
      refine lv_iconst (v := 2) hx hb dX11_finds_133 (by decide) ?_
      refine lv_aload_n hx hb dX11_finds_134 rfl (lv_at hl 1 rfl) ?_
      refine tz_get (ci := 8) (v := .int h0f0) (C := RX11) (F := TX11) (N := 36) hx hb hU iX11 hown hK hT 2 rfl rfl 0 (by decide) w785 (fun _ h9 => h9) rfl dX11_finds_135 ?_
      refine lv_iconst (v := 2) hx hb dX11_finds_138 (by decide) ?_
      refine lv_icmp_ne (tgt := 146) hx hb dX11_finds_139 (by decide) (fun c_55 => ?_) (fun c_55 => ?_)
      · skip
        have c_55 := ni_ne c_55 rfl li_2
        refine lv_aload_n hx hb dX11_finds_146 rfl (lv_at hl 1 rfl) ?_
        refine tz_get (ci := 8) (v := .int h0f0) (C := RX11) (F := TX11) (N := 36) hx hb hU iX11 hown hK hT 2 rfl rfl 0 (by decide) w785 (fun _ h9 => h9) rfl dX11_finds_147 ?_
        refine lv_iconst (v := 3) hx hb dX11_finds_150 (by decide) ?_
        refine lv_icmp_ne (tgt := 159) hx hb dX11_finds_151 (by decide) (fun c_56 => ?_) (fun c_56 => ?_)
        · skip
          have c_56 := ni_ne c_56 rfl li_3
          refine lv_lconst (v := 0) hx hb dX11_finds_159 (by decide) ?_
          refine tz_last hx hb hK hT hS 0 rfl (by have := li_2; omega) (fun _ _ => trivial) dX11_finds_160 (fun H locs hT hS => ?_)
          refine lv_aload_n hx hb dX11_finds_161 rfl (lv_at hl 1 rfl) ?_
          refine tz_get (ci := 8) (v := .ref h7) (C := RX11) (F := TX11) (N := 36) hx hb hU iX11 hown hK hT 2 rfl rfl 14 (by decide) w799 (fun _ h9 => h9) rfl dX11_finds_162 ?_
          refine lv_iconst (v := 3) hx hb dX11_finds_165 (by decide) ?_
          refine lv_aload_n hx hb dX11_finds_166 rfl (lv_at hl 1 rfl) ?_
          refine tz_get (ci := 8) (v := .int h0f0) (C := RX11) (F := TX11) (N := 36) hx hb hU iX11 hown hK hT 2 rfl rfl 0 (by decide) w785 (fun _ h9 => h9) rfl dX11_finds_167 ?_
          refine lv_iconst (v := 3) hx hb dX11_finds_170 (by decide) ?_
          refine lv_icmp_ne (tgt := 178) hx hb dX11_finds_171 (by decide) (fun c_57 => ?_) (fun c_57 => ?_)
          · skip
            have c_57 := ni_ne c_57 rfl li_3
            refine lv_lconst (v := 0) hx hb dX11_finds_178 (by decide) ?_
            refine tz_last hx hb hK hT hS 0 rfl (by have := li_3; omega) (fun _ _ => trivial) dX11_finds_179 (fun H locs hT hS => ?_)
            exact tz_retV (B := B_cX11_finds_96b14 D k h0 h1 h4 h7 h2 h3 h5 h6 h8 h9 h10 h11 h12 h13 h14 h15 h16 h17 h18 h19 h20 h21 x1 h0f0 h0f1 h0f2 h0f3 h0f4 h0f5 h0f8 h0f9 h0f17 h0f18 h0f19 h0f24 h0f25 h0f30 h0f31) hQ hx hb hr hlocks hS (Nat.le_of_ble_eq_true rfl) (Nat.le_of_ble_eq_true rfl) dX11_finds_180 ((hT.sub [2, 1, 3, 0] (by decide) rfl))
          · skip
            have c_57 := ni_eq c_57 rfl li_3
            exfalso; omega
        · skip
          have c_56 := ni_eq c_56 rfl li_3
          exfalso; omega
      · skip
        have c_55 := ni_eq c_55 rfl li_2
        exfalso; omega
abbrev Rm_cX11_character_6e981 : Room := { frames := 2, cells := 0, slots := 0, locals := 50 }
abbrev B_cX11_character_6e981 (D : va_G) (k : Nat → ClassId) (h0 h1 h4 h7 h2 h3 h5 h6 h8 h9 h10 h11 h12 h13 h14 h15 h16 h17 h18 h19 h20 h21 : Nat) (x1 : Int32) (x2 : Int32) (h0f0 : Int32) (h0f1 : Int32) (h0f2 : Int32) (h0f3 : Int32) (h0f4 : Int32) (h0f5 : Int32) (h0f8 : Int32) (h0f9 : Int32) (h0f17 : Int32) (h0f18 : Int32) (h0f19 : Int32) (h0f24 : Int32) (h0f25 : Int32) (h0f30 : Int32) (h0f31 : Int32) (A : Nat → Prop) (r : Int32) (H : Heap) : Prop := TP D A [(h0, ob 8 [.int h0f0, .int h0f1, .int h0f2, .int h0f3, .int h0f4, .int h0f5, .ref h1, .ref h2, .int h0f8, .int h0f9, .ref h3, .ref h4, .ref h5, .ref h6, .ref h7, .ref h8, .ref h9, .int h0f17, .int h0f18, .int h0f19, .ref h10, .ref h11, .ref h12, .ref h13, .int h0f24, .int h0f25, .ref h14, .ref h15, .ref h16, .ref h17, .int h0f30, .int h0f31, .ref h18, .ref h19, .ref h20, .ref h21]), (h1, aI (k 0) 36 anI), (h4, aJ (k 1) 9 anJ), (h7, aJ (k 1) 4 anJ)] H
set_option maxHeartbeats 4000000 in
set_option maxRecDepth 100000 in
theorem cX11_character_6e981 (l : Launch) (D : va_G) (k : Nat → ClassId) (sz : Nat) (h0 h1 h4 h7 h2 h3 h5 h6 h8 h9 h10 h11 h12 h13 h14 h15 h16 h17 h18 h19 h20 h21 : Nat) (x1 : Int32) (x2 : Int32) (h0f0 : Int32) (h0f1 : Int32) (h0f2 : Int32) (h0f3 : Int32) (h0f4 : Int32) (h0f5 : Int32) (h0f8 : Int32) (h0f9 : Int32) (h0f17 : Int32) (h0f18 : Int32) (h0f19 : Int32) (h0f24 : Int32) (h0f25 : Int32) (h0f30 : Int32) (h0f31 : Int32) (b_h0f0 : 1 ≤ h0f0.toInt ∧ h0f0.toInt ≤ 3) (b_h0f1 : 0 ≤ h0f1.toInt ∧ h0f1.toInt ≤ 4) (b_h0f3 : 0 ≤ h0f3.toInt ∧ h0f3.toInt ≤ 3) (b_h0f4 : 0 ≤ h0f4.toInt ∧ h0f4.toInt ≤ 4) (b_h0f8 : 0 ≤ h0f8.toInt ∧ h0f8.toInt ≤ 1) (b_h0f9 : 0 ≤ h0f9.toInt ∧ h0f9.toInt ≤ 1) (b_h0f17 : 0 ≤ h0f17.toInt ∧ h0f17.toInt ≤ 120) (b_h0f18 : 0 ≤ h0f18.toInt ∧ h0f18.toInt ≤ 120) (b_h0f19 : 0 ≤ h0f19.toInt ∧ h0f19.toInt ≤ 4) (b_h0f24 : 0 ≤ h0f24.toInt ∧ h0f24.toInt ≤ 100) (b_h0f25 : 0 ≤ h0f25.toInt ∧ h0f25.toInt ≤ 1) (b_h0f30 : 0 ≤ h0f30.toInt ∧ h0f30.toInt ≤ 60) (b_h0f31 : 0 ≤ h0f31.toInt ∧ h0f31.toInt ≤ 1) : Met l yX11_character (Cond.code yX11_character cX11_character 3 (some .int) :: uw) Rm_cX11_character_6e981 (pT D k sz [.ref h0, .int x1, .int x2] [(h0, ob 8 [.int h0f0, .int h0f1, .int h0f2, .int h0f3, .int h0f4, .int h0f5, .ref h1, .ref h2, .int h0f8, .int h0f9, .ref h3, .ref h4, .ref h5, .ref h6, .ref h7, .ref h8, .ref h9, .int h0f17, .int h0f18, .int h0f19, .ref h10, .ref h11, .ref h12, .ref h13, .int h0f24, .int h0f25, .ref h14, .ref h15, .ref h16, .ref h17, .int h0f30, .int h0f31, .ref h18, .ref h19, .ref h20, .ref h21]), (h1, aI (k 0) 36 anI), (h4, aJ (k 1) 9 anJ), (h7, aJ (k 1) 4 anJ)]) (qI (B_cX11_character_6e981 D k h0 h1 h4 h7 h2 h3 h5 h6 h8 h9 h10 h11 h12 h13 h14 h15 h16 h17 h18 h19 h20 h21 x1 x2 h0f0 h0f1 h0f2 h0f3 h0f4 h0f5 h0f8 h0f9 h0f17 h0f18 h0f19 h0f24 h0f25 h0f30 h0f31 (zA [h0, h1, h4, h7] sz)) (zA [h0, h1, h4, h7] sz)) 0 0 (zA [h0, h1, h4, h7] sz) := by
  refine tz_begin (as := [h0, h1, h4, h7]) (Qc := fun A => qI (B_cX11_character_6e981 D k h0 h1 h4 h7 h2 h3 h5 h6 h8 h9 h10 h11 h12 h13 h14 h15 h16 h17 h18 h19 h20 h21 x1 x2 h0f0 h0f1 h0f2 h0f3 h0f4 h0f5 h0f8 h0f9 h0f17 h0f18 h0f19 h0f24 h0f25 h0f30 h0f31 A) A) (by decide +kernel) rfl (Nat.le_of_ble_eq_true rfl) ?_
  intro p e s m args below meth c ls A Q hx hb hr hml hown hlocks hin hU hK hT hS hA hl hQ
  have hl : lv_has ls 3 [(0, .ref h0), (1, .int x1), (2, .int x2)] := hl
  have hT : TP D A [(h0, ob 8 [.int h0f0, .int h0f1, .int h0f2, .int h0f3, .int h0f4, .int h0f5, .ref h1, .ref h2, .int h0f8, .int h0f9, .ref h3, .ref h4, .ref h5, .ref h6, .ref h7, .ref h8, .ref h9, .int h0f17, .int h0f18, .int h0f19, .ref h10, .ref h11, .ref h12, .ref h13, .int h0f24, .int h0f25, .ref h14, .ref h15, .ref h16, .ref h17, .int h0f30, .int h0f31, .ref h18, .ref h19, .ref h20, .ref h21]), (h1, aI (k 0) 36 anI), (h4, aJ (k 1) 9 anJ), (h7, aJ (k 1) 4 anJ)] s.heap := hT
  refine lv_aload_n hx hb dX11_character_0 rfl (lv_at hl 0 rfl) ?_
  refine lv_iload_n hx hb dX11_character_1 rfl (lv_at hl 1 rfl) ?_
  refine tcI (Tc := [(h0, ob 8 [.int h0f0, .int h0f1, .int h0f2, .int h0f3, .int h0f4, .int h0f5, .ref h1, .ref h2, .int h0f8, .int h0f9, .ref h3, .ref h4, .ref h5, .ref h6, .ref h7, .ref h8, .ref h9, .int h0f17, .int h0f18, .int h0f19, .ref h10, .ref h11, .ref h12, .ref h13, .int h0f24, .int h0f25, .ref h14, .ref h15, .ref h16, .ref h17, .int h0f30, .int h0f31, .ref h18, .ref h19, .ref h20, .ref h21])]) (Tr := [(h1, aI (k 0) 36 anI), (h4, aJ (k 1) 9 anJ), (h7, aJ (k 1) 4 anJ)]) (as := [h0]) (zcV (q0 := 0) (ci := 8) (As := [.int x1]) (rest := []) (Tc := [(h0, ob 8 [.int h0f0, .int h0f1, .int h0f2, .int h0f3, .int h0f4, .int h0f5, .ref h1, .ref h2, .int h0f8, .int h0f9, .ref h3, .ref h4, .ref h5, .ref h6, .ref h7, .ref h8, .ref h9, .int h0f17, .int h0f18, .int h0f19, .ref h10, .ref h11, .ref h12, .ref h13, .int h0f24, .int h0f25, .ref h14, .ref h15, .ref h16, .ref h17, .int h0f30, .int h0f31, .ref h18, .ref h19, .ref h20, .ref h21])]) hx hb hml hown hU hK hT rfl rfl [0] rfl (by decide) (cX11_isGen_590eb l D k _ h0 h1 h2 h3 h4 h5 h6 h7 h8 h9 h10 h11 h12 h13 h14 h15 h16 h17 h18 h19 h20 h21 x1 h0f0 h0f1 h0f2 h0f3 h0f4 h0f5 h0f8 h0f9 h0f17 h0f18 h0f19 h0f24 h0f25 h0f30 h0f31 (by omega) (by omega) (by omega) (by omega) (by omega) (by omega) (by omega) (by omega) (by omega) (by omega) (by omega) (by omega) (by omega)) w935 w932 w934 w31 w72 hdX11_isGen ⟨rfl, rfl⟩ ⟨Nat.le_of_ble_eq_true rfl, Nat.le_of_ble_eq_true rfl⟩ rfl hl.1 (Nat.le_of_ble_eq_true rfl) dX11_character_2 ⟨Nat.le_of_ble_eq_true rfl, Nat.le_of_ble_eq_true rfl⟩) hT hS hA [0] [1, 2, 3] rfl rfl rfl (by decide) (by decide) (fun r1 H locs hB J hS => ?_)
  rcases hB with ⟨rfl, hT1⟩ | ⟨c_2, c_3, rfl, hT1⟩
  · skip
    have hT := J _ hT1
    have hT : TP D A [(h1, aI (k 0) 36 anI), (h4, aJ (k 1) 9 anJ), (h7, aJ (k 1) 4 anJ), (h0, ob 8 [.int h0f0, .int h0f1, .int h0f2, .int h0f3, .int h0f4, .int h0f5, .ref h1, .ref h2, .int h0f8, .int h0f9, .ref h3, .ref h4, .ref h5, .ref h6, .ref h7, .ref h8, .ref h9, .int h0f17, .int h0f18, .int h0f19, .ref h10, .ref h11, .ref h12, .ref h13, .int h0f24, .int h0f25, .ref h14, .ref h15, .ref h16, .ref h17, .int h0f30, .int h0f31, .ref h18, .ref h19, .ref h20, .ref h21])] H := hT
    refine lv_if_eq (tgt := 22) hx hb dX11_character_5 (by decide) (fun _ => ?_) (fun cc => absurd (by decide +kernel) cc)
    refine lv_iconst (v := (-1)) hx hb dX11_character_22 (by decide) ?_
    exact tz_retI (B := B_cX11_character_6e981 D k h0 h1 h4 h7 h2 h3 h5 h6 h8 h9 h10 h11 h12 h13 h14 h15 h16 h17 h18 h19 h20 h21 x1 x2 h0f0 h0f1 h0f2 h0f3 h0f4 h0f5 h0f8 h0f9 h0f17 h0f18 h0f19 h0f24 h0f25 h0f30 h0f31) (v := (-1)) hQ hx hb hr hlocks hS (Nat.le_of_ble_eq_true rfl) (Nat.le_of_ble_eq_true rfl) dX11_character_23 ((hT.sub [3, 0, 1, 2] (by decide) rfl))
  · skip
    have hT := J _ hT1
    have hT : TP D A [(h1, aI (k 0) 36 anI), (h4, aJ (k 1) 9 anJ), (h7, aJ (k 1) 4 anJ), (h0, ob 8 [.int h0f0, .int h0f1, .int h0f2, .int h0f3, .int h0f4, .int h0f5, .ref h1, .ref h2, .int h0f8, .int h0f9, .ref h3, .ref h4, .ref h5, .ref h6, .ref h7, .ref h8, .ref h9, .int h0f17, .int h0f18, .int h0f19, .ref h10, .ref h11, .ref h12, .ref h13, .int h0f24, .int h0f25, .ref h14, .ref h15, .ref h16, .ref h17, .int h0f30, .int h0f31, .ref h18, .ref h19, .ref h20, .ref h21])] H := hT
    refine lv_if_eq (tgt := 22) hx hb dX11_character_5 (by decide) (fun cc => absurd cc (by decide +kernel)) (fun _ => ?_)
    refine lv_iload_n hx hb dX11_character_8 rfl (lv_at hl 2 rfl) ?_
    obtain ⟨v4, e_v4⟩ : ∃ x : Int64, x2.toInt64 = x := ⟨_, rfl⟩
    refine lv_i2l (v := v4) hx hb dX11_character_9 e_v4 ?_
    have e_v4 := ai_i2l e_v4 rfl
    refine lv_lconst (v := 0) hx hb dX11_character_10 (by decide) ?_
    refine lv_aload_n hx hb dX11_character_11 rfl (lv_at hl 0 rfl) ?_
    refine tz_get (ci := 8) (v := .int h0f0) (C := RX11) (F := TX11) (N := 36) hx hb hU iX11 hown hK hT 3 rfl rfl 0 (by decide) w785 (fun _ h9 => h9) rfl dX11_character_12 ?_
    obtain ⟨v5, e_v5⟩ : ∃ x : Int64, h0f0.toInt64 = x := ⟨_, rfl⟩
    refine lv_i2l (v := v5) hx hb dX11_character_15 e_v5 ?_
    have e_v5 := ai_i2l e_v5 rfl
    have q_q7 := ll_0
    refine tcI (Tc := []) (Tr := [(h1, aI (k 0) 36 anI), (h4, aJ (k 1) 9 anJ), (h7, aJ (k 1) 4 anJ), (h0, ob 8 [.int h0f0, .int h0f1, .int h0f2, .int h0f3, .int h0f4, .int h0f5, .ref h1, .ref h2, .int h0f8, .int h0f9, .ref h3, .ref h4, .ref h5, .ref h6, .ref h7, .ref h8, .ref h9, .int h0f17, .int h0f18, .int h0f19, .ref h10, .ref h11, .ref h12, .ref h13, .int h0f24, .int h0f25, .ref h14, .ref h15, .ref h16, .ref h17, .int h0f30, .int h0f31, .ref h18, .ref h19, .ref h20, .ref h21])]) (as := []) (zcS (As := [.long v4, .long 0, .long v5]) (rest := []) (Tc := []) hx hb hml hown hU hK hT [] rfl (by decide) (cX11_in_ca3b9 l D k _ v4 (0) v5 (by have := ll_0; omega) (by omega)) w901 w899 w900 w72 hdX11_in ⟨rfl, rfl⟩ ⟨Nat.le_of_ble_eq_true rfl, Nat.le_of_ble_eq_true rfl⟩ rfl hl.1 (Nat.le_of_ble_eq_true rfl) dX11_character_16 ⟨Nat.le_of_ble_eq_true rfl, Nat.le_of_ble_eq_true rfl⟩) hT hS hA [] [0, 1, 2, 3] rfl rfl rfl (by decide) (by decide) (fun r6 H locs hB J hS => ?_)
    rcases hB with ⟨rfl, hT1⟩ | ⟨c_8, c_9, rfl, hT1⟩
    · skip
      have hT := J _ hT1
      have hT : TP D A [(h1, aI (k 0) 36 anI), (h4, aJ (k 1) 9 anJ), (h7, aJ (k 1) 4 anJ), (h0, ob 8 [.int h0f0, .int h0f1, .int h0f2, .int h0f3, .int h0f4, .int h0f5, .ref h1, .ref h2, .int h0f8, .int h0f9, .ref h3, .ref h4, .ref h5, .ref h6, .ref h7, .ref h8, .ref h9, .int h0f17, .int h0f18, .int h0f19, .ref h10, .ref h11, .ref h12, .ref h13, .int h0f24, .int h0f25, .ref h14, .ref h15, .ref h16, .ref h17, .int h0f30, .int h0f31, .ref h18, .ref h19, .ref h20, .ref h21])] H := hT
      refine lv_if_ne (tgt := 24) hx hb dX11_character_19 (by decide) (fun cc => absurd (by decide +kernel) cc) (fun _ => ?_)
      refine lv_iconst (v := (-1)) hx hb dX11_character_22 (by decide) ?_
      exact tz_retI (B := B_cX11_character_6e981 D k h0 h1 h4 h7 h2 h3 h5 h6 h8 h9 h10 h11 h12 h13 h14 h15 h16 h17 h18 h19 h20 h21 x1 x2 h0f0 h0f1 h0f2 h0f3 h0f4 h0f5 h0f8 h0f9 h0f17 h0f18 h0f19 h0f24 h0f25 h0f30 h0f31) (v := (-1)) hQ hx hb hr hlocks hS (Nat.le_of_ble_eq_true rfl) (Nat.le_of_ble_eq_true rfl) dX11_character_23 ((hT.sub [3, 0, 1, 2] (by decide) rfl))
    · skip
      have hT := J _ hT1
      have hT : TP D A [(h1, aI (k 0) 36 anI), (h4, aJ (k 1) 9 anJ), (h7, aJ (k 1) 4 anJ), (h0, ob 8 [.int h0f0, .int h0f1, .int h0f2, .int h0f3, .int h0f4, .int h0f5, .ref h1, .ref h2, .int h0f8, .int h0f9, .ref h3, .ref h4, .ref h5, .ref h6, .ref h7, .ref h8, .ref h9, .int h0f17, .int h0f18, .int h0f19, .ref h10, .ref h11, .ref h12, .ref h13, .int h0f24, .int h0f25, .ref h14, .ref h15, .ref h16, .ref h17, .int h0f30, .int h0f31, .ref h18, .ref h19, .ref h20, .ref h21])] H := hT
      refine lv_if_ne (tgt := 24) hx hb dX11_character_19 (by decide) (fun _ => ?_) (fun cc => absurd cc (by decide +kernel))
      refine lv_aload_n hx hb dX11_character_24 rfl (lv_at hl 0 rfl) ?_
      refine lv_iload_n hx hb dX11_character_25 rfl (lv_at hl 1 rfl) ?_
      refine tcV (Tc := [(h0, ob 8 [.int h0f0, .int h0f1, .int h0f2, .int h0f3, .int h0f4, .int h0f5, .ref h1, .ref h2, .int h0f8, .int h0f9, .ref h3, .ref h4, .ref h5, .ref h6, .ref h7, .ref h8, .ref h9, .int h0f17, .int h0f18, .int h0f19, .ref h10, .ref h11, .ref h12, .ref h13, .int h0f24, .int h0f25, .ref h14, .ref h15, .ref h16, .ref h17, .int h0f30, .int h0f31, .ref h18, .ref h19, .ref h20, .ref h21]), (h1, aI (k 0) 36 anI), (h4, aJ (k 1) 9 anJ), (h7, aJ (k 1) 4 anJ)]) (Tr := []) (as := [h0, h1, h4, h7]) (zcV (q0 := 3) (ci := 8) (As := [.int x1]) (rest := []) (Tc := [(h0, ob 8 [.int h0f0, .int h0f1, .int h0f2, .int h0f3, .int h0f4, .int h0f5, .ref h1, .ref h2, .int h0f8, .int h0f9, .ref h3, .ref h4, .ref h5, .ref h6, .ref h7, .ref h8, .ref h9, .int h0f17, .int h0f18, .int h0f19, .ref h10, .ref h11, .ref h12, .ref h13, .int h0f24, .int h0f25, .ref h14, .ref h15, .ref h16, .ref h17, .int h0f30, .int h0f31, .ref h18, .ref h19, .ref h20, .ref h21]), (h1, aI (k 0) 36 anI), (h4, aJ (k 1) 9 anJ), (h7, aJ (k 1) 4 anJ)]) hx hb hml hown hU hK hT rfl rfl [3, 0, 1, 2] rfl (by decide) (cX11_finds_96b14 l D k _ h0 h1 h4 h7 h2 h3 h5 h6 h8 h9 h10 h11 h12 h13 h14 h15 h16 h17 h18 h19 h20 h21 x1 h0f0 h0f1 h0f2 h0f3 h0f4 h0f5 h0f8 h0f9 h0f17 h0f18 h0f19 h0f24 h0f25 h0f30 h0f31 (by omega) (by omega) (by omega) (by omega) (by omega) (by omega) (by omega) (by omega) (by omega) (by omega) (by omega) (by omega) (by omega) (by omega)) w990 w987 w989 w40 w72 hdX11_finds ⟨rfl, rfl⟩ ⟨Nat.le_of_ble_eq_true rfl, Nat.le_of_ble_eq_true rfl⟩ rfl hl.1 (Nat.le_of_ble_eq_true rfl) dX11_character_26 ⟨Nat.le_of_ble_eq_true rfl, Nat.le_of_ble_eq_true rfl⟩) hT hS hA [3, 0, 1, 2] [] rfl rfl rfl (by decide) (by decide) (fun H locs hB J hS => ?_)
      have hT1 := hB
      have hT := J _ hT1
      have hT : TP D A [(h0, ob 8 [.int h0f0, .int h0f1, .int h0f2, .int h0f3, .int h0f4, .int h0f5, .ref h1, .ref h2, .int h0f8, .int h0f9, .ref h3, .ref h4, .ref h5, .ref h6, .ref h7, .ref h8, .ref h9, .int h0f17, .int h0f18, .int h0f19, .ref h10, .ref h11, .ref h12, .ref h13, .int h0f24, .int h0f25, .ref h14, .ref h15, .ref h16, .ref h17, .int h0f30, .int h0f31, .ref h18, .ref h19, .ref h20, .ref h21]), (h1, aI (k 0) 36 anI), (h4, aJ (k 1) 9 anJ), (h7, aJ (k 1) 4 anJ)] H := hT
      refine lv_ldc hx hb hown (hU _ w991) dX11_character_29 ?_
      refine lv_aload_n hx hb dX11_character_31 rfl (lv_at hl 0 rfl) ?_
      refine tz_get (ci := 8) (v := .ref h7) (C := RX11) (F := TX11) (N := 36) hx hb hU iX11 hown hK hT 0 rfl rfl 14 (by decide) w799 (fun _ h9 => h9) rfl dX11_character_32 ?_
      refine lv_iload_n hx hb dX11_character_35 rfl (lv_at hl 2 rfl) ?_
      refine tz_lald hx hb hK hT 3 rfl (by omega) dX11_character_36 (fun v11 e_v11 => ?_)
      clear e_v11
      refine lv_l2i hx hb dX11_character_37 rfl (lv_topi (fun v12 _ => ?_))
      refine lv_iadd hx hb dX11_character_38 (lv_topi (fun v13 e_v13 => ?_))
      exact tz_retI (B := B_cX11_character_6e981 D k h0 h1 h4 h7 h2 h3 h5 h6 h8 h9 h10 h11 h12 h13 h14 h15 h16 h17 h18 h19 h20 h21 x1 x2 h0f0 h0f1 h0f2 h0f3 h0f4 h0f5 h0f8 h0f9 h0f17 h0f18 h0f19 h0f24 h0f25 h0f30 h0f31) (v := v13) hQ hx hb hr hlocks hS (Nat.le_of_ble_eq_true rfl) (Nat.le_of_ble_eq_true rfl) dX11_character_39 (hT)
abbrev Rm_cX9_receive_a97ee : Room := { frames := 0, cells := 0, slots := 0, locals := 0 }
abbrev B_cX9_receive_a97ee (D : va_G) (k : Nat → ClassId) (h0 h1 h2 : Nat) (x1 : Int64) (x2 : Int32) (h0f1 : Int32) (h0f2 : Int32) (h0f3 : Int32) (A : Nat → Prop) (H : Heap) : Prop := ∃ o0 : Int32, (0 ≤ o0.toInt ∧ o0.toInt ≤ 120) ∧ TP D A [(h0, ob 6 [.ref h1, .int o0, .int h0f2, .int h0f3, .ref h2]), (h1, aI (k 2) 120 anI)] H
set_option maxHeartbeats 4000000 in
set_option maxRecDepth 100000 in
theorem cX9_receive_a97ee (l : Launch) (D : va_G) (k : Nat → ClassId) (sz : Nat) (h0 h1 h2 : Nat) (x1 : Int64) (x2 : Int32) (h0f1 : Int32) (h0f2 : Int32) (h0f3 : Int32) (b_x2 : 1 ≤ x2.toInt ∧ x2.toInt ≤ 8) (b_h0f1 : 0 ≤ h0f1.toInt ∧ h0f1.toInt ≤ 119) (b_h0f2 : 0 ≤ h0f2.toInt ∧ h0f2.toInt ≤ 120) (b_h0f3 : 0 ≤ h0f3.toInt ∧ h0f3.toInt ≤ 4) : Met l yX9_receive (Cond.code yX9_receive cX9_receive 5 none :: uw) Rm_cX9_receive_a97ee (pT D k sz [.ref h0, .long x1, .int x2] [(h0, ob 6 [.ref h1, .int h0f1, .int h0f2, .int h0f3, .ref h2]), (h1, aI (k 2) 120 anI)]) (qV (B_cX9_receive_a97ee D k h0 h1 h2 x1 x2 h0f1 h0f2 h0f3 (zA [h0, h1] sz)) (zA [h0, h1] sz)) 0 0 (zA [h0, h1] sz) := by
  refine tz_begin (as := [h0, h1]) (Qc := fun A => qV (B_cX9_receive_a97ee D k h0 h1 h2 x1 x2 h0f1 h0f2 h0f3 A) A) (by decide +kernel) rfl (Nat.le_of_ble_eq_true rfl) ?_
  intro p e s m args below meth c ls A Q hx hb hr hml hown hlocks hin hU hK hT hS hA hl hQ
  have hl : lv_has ls 5 [(0, .ref h0), (1, .long x1), (3, .int x2)] := hl
  have hT : TP D A [(h0, ob 6 [.ref h1, .int h0f1, .int h0f2, .int h0f3, .ref h2]), (h1, aI (k 2) 120 anI)] s.heap := hT
  refine lv_iconst (v := 0) hx hb dX9_receive_0 (by decide) ?_
  refine lv_istore (lv' := [(4, .int 0), (0, .ref h0), (1, .long x1), (3, .int x2)]) hx hb dX9_receive_1 hl (by decide) rfl (fun ls hl => ?_)
  have lp3_15 : ∀ (n : Nat) (y13 : Int32) (y14 : Int32) (H : Heap) (locs : List Loc) (ls : Array Slot), (0 ≤ y13.toInt ∧ y13.toInt ≤ 8) → (0 ≤ y14.toInt ∧ y14.toInt ≤ 120) → (x2.toInt + (-1) * y13.toInt + 1).toNat < n → TP D A [(h0, ob 6 [.ref h1, .int y14, .int h0f2, .int h0f3, .ref h2]), (h1, aI (k 2) 120 anI)] H → va_S A s.heap H locs → lv_has ls 5 [(0, .ref h0), (1, .long x1), (3, .int x2), (4, .int y13)] → W p l e Rm_cX9_receive_a97ee s m args below meth c H locs 0 0 Q (F0 m 3 ls []) := by
    intro n
    induction n with
    | zero => intro y13 y14 H locs ls b_y13 b_y14 hm hT hS hl; exact absurd hm (Nat.not_lt_zero _)
    | succ n ih =>
      intro y13 y14 H locs ls b_y13 b_y14 hm hT hS hl
      have ih3_15 := ih
      clear ih
      refine lv_iload hx hb dX9_receive_3 (lv_at hl 3 rfl) ?_
      refine lv_iload_n hx hb dX9_receive_5 rfl (lv_at hl 2 rfl) ?_
      refine lv_icmp_ge (tgt := 52) hx hb dX9_receive_6 (by decide) (fun c_16 => ?_) (fun c_16 => ?_)
      · skip
        have c_16 := ni_le c_16 rfl rfl
        exact tz_retV (B := B_cX9_receive_a97ee D k h0 h1 h2 x1 x2 h0f1 h0f2 h0f3) hQ hx hb hr hlocks hS (Nat.le_of_ble_eq_true rfl) (Nat.le_of_ble_eq_true rfl) dX9_receive_52 (⟨y14, (by omega), hT⟩)
      · skip
        have c_16 := ni_nle c_16 rfl rfl
        refine lv_aload_n hx hb dX9_receive_9 rfl (lv_at hl 0 rfl) ?_
        refine tz_get (ci := 6) (v := .int y14) (C := RX9) (F := TX9) (N := 5) hx hb hU iX9 hown hK hT 0 rfl rfl 1 (by decide) w121 (fun _ h9 => h9) rfl dX9_receive_10 ?_
        refine lv_bipush (v := 120) hx hb dX9_receive_13 (by decide) ?_
        refine lv_icmp_ge (tgt := 52) hx hb dX9_receive_15 (by decide) (fun c_17 => ?_) (fun c_17 => ?_)
        · skip
          have c_17 := ni_le c_17 li_120 rfl
          exact tz_retV (B := B_cX9_receive_a97ee D k h0 h1 h2 x1 x2 h0f1 h0f2 h0f3) hQ hx hb hr hlocks hS (Nat.le_of_ble_eq_true rfl) (Nat.le_of_ble_eq_true rfl) dX9_receive_52 (⟨y14, (by omega), hT⟩)
        · skip
          have c_17 := ni_nle c_17 li_120 rfl
          refine lv_aload_n hx hb dX9_receive_18 rfl (lv_at hl 0 rfl) ?_
          refine tz_get (ci := 6) (v := .ref h1) (C := RX9) (F := TX9) (N := 5) hx hb hU iX9 hown hK hT 0 rfl rfl 0 (by decide) w120 (fun _ h9 => h9) rfl dX9_receive_19 ?_
          refine lv_aload_n hx hb dX9_receive_22 rfl (lv_at hl 0 rfl) ?_
          refine tz_get (ci := 6) (v := .int y14) (C := RX9) (F := TX9) (N := 5) hx hb hU iX9 hown hK hT 0 rfl rfl 1 (by decide) w121 (fun _ h9 => h9) rfl dX9_receive_23 ?_
          refine lv_lload_n hx hb dX9_receive_26 rfl (lv_at hl 1 rfl) ?_
          refine lv_bipush (v := 8) hx hb dX9_receive_27 (by decide) ?_
          refine lv_iload hx hb dX9_receive_29 (lv_at hl 3 rfl) ?_
          refine lv_imul hx hb dX9_receive_31 (lv_topi (fun v18 e_v18 => ?_))
          have e_v18 := ai_mul e_v18 li_8 rfl (by omega)
          refine lv_lushr hx hb dX9_receive_32 rfl (lv_topl (fun v19 _ => ?_))
          refine lv_l2i hx hb dX9_receive_33 rfl (lv_topi (fun v20 _ => ?_))
          refine lv_i2b hx hb dX9_receive_34 rfl (lv_topi (fun v21 _ => ?_))
          refine tz_bast hx hb hK hT hS 1 rfl (by omega) dX9_receive_35 (fun H locs hT hS => ?_)
          refine lv_aload_n hx hb dX9_receive_36 rfl (lv_at hl 0 rfl) ?_
          refine lv_dup hx hb dX9_receive_37 rfl ?_
          refine tz_get (ci := 6) (v := .int y14) (C := RX9) (F := TX9) (N := 5) hx hb hU iX9 hown hK hT 0 rfl rfl 1 (by decide) w121 (fun _ h9 => h9) rfl dX9_receive_38 ?_
          refine lv_iconst (v := 1) hx hb dX9_receive_41 (by decide) ?_
          refine lv_iadd hx hb dX9_receive_42 (lv_topi (fun v22 e_v22 => ?_))
          have e_v22 := ai_add e_v22 rfl li_1 (by omega)
          refine tz_put (ci := 6) (v := .int v22) (ty := .int) (C := RX9) (F := TX9) (N := 5) hx hb hU iX9 tyX9 tyX9_ok nmX9 hown hK hT hS 0 rfl rfl 1 (by decide) w121 (fun _ h9 => h9) rfl (by decide +kernel) rfl rfl (Nat.le_of_ble_eq_true rfl) dX9_receive_43 (fun H locs hT hS => ?_)
          have hT : TP D A [(h0, ob 6 [.ref h1, .int v22, .int h0f2, .int h0f3, .ref h2]), (h1, aI (k 2) 120 anI)] H := hT
          obtain ⟨v23, e_v23⟩ : ∃ x : Int32, x = y13 + Int32.ofInt 1 := ⟨_, rfl⟩
          have f_v23 := e_v23.symm
          have e_v23 : v23.toInt = y13.toInt + 1 := ai_add e_v23 rfl (show (Int32.ofInt 1).toInt = 1 from (by decide +kernel)) (by omega)
          refine lv_iinc (v := v23) (lv' := [(4, .int v23), (0, .ref h0), (1, .long x1), (3, .int x2)]) hx hb dX9_receive_46 hl (k := 3) rfl f_v23 (by decide) rfl (fun ls hl => ?_)
          refine lv_goto (tgt := 3) hx hb dX9_receive_49 (by decide) ?_
          exact ih3_15 v23 v22 _ _ _ (by omega) (by omega)  (by omega) hT hS (lv_sub hl [1, 2, 3, 0] rfl)
  exact lp3_15 ((x2.toInt + (-1) * (0 : Int32).toInt + 1).toNat + 1) (0) h0f1 _ _ _ (by have := li_0; omega) (by have := li_0; omega)  (Nat.lt_succ_self _) hT hS (lv_sub hl [1, 2, 3, 0] rfl)
abbrev Rm_cX10_feed_649e4 : Room := { frames := 1, cells := 0, slots := 0, locals := 24 }
abbrev B_cX10_feed_649e4 (D : va_G) (k : Nat → ClassId) (h0 h3 h15 h1 h2 h4 h5 h6 h7 h8 h9 h10 h11 h12 h16 : Nat) (x1 : Int64) (x2 : Int32) (h0f2 : Int32) (h0f6 : Int32) (h0f8 : Int32) (h0f11 : Int32) (h3f1 : Int32) (h3f2 : Int32) (h3f3 : Int32) (A : Nat → Prop) (r : Int32) (H : Heap) : Prop := ∃ o0 : Int32, (0 ≤ o0.toInt ∧ o0.toInt ≤ 120) ∧ ((-2) ≤ r.toInt ∧ r.toInt ≤ 120) ∧ TP D A [(h0, ob 7 [.ref h1, .ref h2, .int h0f2, .ref h3, .ref h4, .ref h5, .int h0f6, .ref h6, .int h0f8, .null, .ref h7, .int h0f11, .ref h8, .ref h9, .ref h10, .ref h11, .ref h12]), (h3, ob 6 [.ref h15, .int o0, .int h3f2, .int h3f3, .ref h16]), (h15, aI (k 2) 120 anI)] H
set_option maxHeartbeats 4000000 in
set_option maxRecDepth 100000 in
theorem cX10_feed_649e4 (l : Launch) (D : va_G) (k : Nat → ClassId) (sz : Nat) (h0 h3 h15 h1 h2 h4 h5 h6 h7 h8 h9 h10 h11 h12 h16 : Nat) (x1 : Int64) (x2 : Int32) (h0f2 : Int32) (h0f6 : Int32) (h0f8 : Int32) (h0f11 : Int32) (h3f1 : Int32) (h3f2 : Int32) (h3f3 : Int32) (b_h0f2 : 0 ≤ h0f2.toInt ∧ h0f2.toInt ≤ 1) (b_h0f6 : 0 ≤ h0f6.toInt ∧ h0f6.toInt ≤ 1) (b_h0f8 : 0 ≤ h0f8.toInt ∧ h0f8.toInt ≤ 1) (b_h0f11 : 0 ≤ h0f11.toInt ∧ h0f11.toInt ≤ 200) (b_h3f1 : 0 ≤ h3f1.toInt ∧ h3f1.toInt ≤ 120) (b_h3f2 : 0 ≤ h3f2.toInt ∧ h3f2.toInt ≤ 120) (b_h3f3 : 0 ≤ h3f3.toInt ∧ h3f3.toInt ≤ 4) : Met l yX10_feed (Cond.code yX10_feed cX10_feed 4 (some .int) :: uw) Rm_cX10_feed_649e4 (pT D k sz [.ref h0, .long x1, .int x2] [(h0, ob 7 [.ref h1, .ref h2, .int h0f2, .ref h3, .ref h4, .ref h5, .int h0f6, .ref h6, .int h0f8, .null, .ref h7, .int h0f11, .ref h8, .ref h9, .ref h10, .ref h11, .ref h12]), (h3, ob 6 [.ref h15, .int h3f1, .int h3f2, .int h3f3, .ref h16]), (h15, aI (k 2) 120 anI)]) (qI (B_cX10_feed_649e4 D k h0 h3 h15 h1 h2 h4 h5 h6 h7 h8 h9 h10 h11 h12 h16 x1 x2 h0f2 h0f6 h0f8 h0f11 h3f1 h3f2 h3f3 (zA [h0, h3, h15] sz)) (zA [h0, h3, h15] sz)) 0 0 (zA [h0, h3, h15] sz) := by
  refine tz_begin (as := [h0, h3, h15]) (Qc := fun A => qI (B_cX10_feed_649e4 D k h0 h3 h15 h1 h2 h4 h5 h6 h7 h8 h9 h10 h11 h12 h16 x1 x2 h0f2 h0f6 h0f8 h0f11 h3f1 h3f2 h3f3 A) A) (by decide +kernel) rfl (Nat.le_of_ble_eq_true rfl) ?_
  intro p e s m args below meth c ls A Q hx hb hr hml hown hlocks hin hU hK hT hS hA hl hQ
  have hl : lv_has ls 4 [(0, .ref h0), (1, .long x1), (3, .int x2)] := hl
  have hT : TP D A [(h0, ob 7 [.ref h1, .ref h2, .int h0f2, .ref h3, .ref h4, .ref h5, .int h0f6, .ref h6, .int h0f8, .null, .ref h7, .int h0f11, .ref h8, .ref h9, .ref h10, .ref h11, .ref h12]), (h3, ob 6 [.ref h15, .int h3f1, .int h3f2, .int h3f3, .ref h16]), (h15, aI (k 2) 120 anI)] s.heap := hT
  refine lv_iload_n hx hb dX10_feed_0 rfl (lv_at hl 2 rfl) ?_
  refine lv_iconst (v := 1) hx hb dX10_feed_1 (by decide) ?_
  refine lv_icmp_lt (tgt := 11) hx hb dX10_feed_2 (by decide) (fun c_1 => ?_) (fun c_1 => ?_)
  · skip
    have c_1 := ni_lt c_1 rfl li_1
    refine lv_iconst (v := (-1)) hx hb dX10_feed_11 (by decide) ?_
    exact tz_retI (B := B_cX10_feed_649e4 D k h0 h3 h15 h1 h2 h4 h5 h6 h7 h8 h9 h10 h11 h12 h16 x1 x2 h0f2 h0f6 h0f8 h0f11 h3f1 h3f2 h3f3) (v := (-1)) hQ hx hb hr hlocks hS (Nat.le_of_ble_eq_true rfl) (Nat.le_of_ble_eq_true rfl) dX10_feed_12 (⟨h3f1, (by have := li_m1; omega), (by have := li_m1; omega), hT⟩)
  · skip
    have c_1 := ni_nlt c_1 rfl li_1
    refine lv_iload_n hx hb dX10_feed_5 rfl (lv_at hl 2 rfl) ?_
    refine lv_bipush (v := 8) hx hb dX10_feed_6 (by decide) ?_
    refine lv_icmp_le (tgt := 13) hx hb dX10_feed_8 (by decide) (fun c_2 => ?_) (fun c_2 => ?_)
    · skip
      have c_2 := ni_le c_2 rfl li_8
      refine lv_aload_n hx hb dX10_feed_13 rfl (lv_at hl 0 rfl) ?_
      refine tz_get (ci := 7) (v := .ref h3) (C := RX10) (F := TX10) (N := 17) hx hb hU iX10 hown hK hT 0 rfl rfl 3 (by decide) w252 (fun _ h9 => h9) rfl dX10_feed_14 ?_
      refine tz_get (ci := 6) (v := .int h3f1) (C := RX9) (F := TX9) (N := 5) hx hb hU iX9 hown hK hT 1 rfl rfl 1 (by decide) w122 (fun _ h9 => h9) rfl dX10_feed_17 ?_
      refine lv_iload_n hx hb dX10_feed_20 rfl (lv_at hl 2 rfl) ?_
      refine lv_iadd hx hb dX10_feed_21 (lv_topi (fun v3 e_v3 => ?_))
      have e_v3 := ai_add e_v3 rfl rfl (by omega)
      refine lv_bipush (v := 120) hx hb dX10_feed_22 (by decide) ?_
      refine lv_icmp_le (tgt := 30) hx hb dX10_feed_24 (by decide) (fun c_4 => ?_) (fun c_4 => ?_)
      · skip
        have c_4 := ni_le c_4 rfl li_120
        refine lv_aload_n hx hb dX10_feed_30 rfl (lv_at hl 0 rfl) ?_
        refine tz_get (ci := 7) (v := .ref h3) (C := RX10) (F := TX10) (N := 17) hx hb hU iX10 hown hK hT 0 rfl rfl 3 (by decide) w252 (fun _ h9 => h9) rfl dX10_feed_31 ?_
        refine lv_lload_n hx hb dX10_feed_34 rfl (lv_at hl 1 rfl) ?_
        refine lv_iload_n hx hb dX10_feed_35 rfl (lv_at hl 2 rfl) ?_
        refine tcV (Tc := [(h3, ob 6 [.ref h15, .int h3f1, .int h3f2, .int h3f3, .ref h16]), (h15, aI (k 2) 120 anI)]) (Tr := [(h0, ob 7 [.ref h1, .ref h2, .int h0f2, .ref h3, .ref h4, .ref h5, .int h0f6, .ref h6, .int h0f8, .null, .ref h7, .int h0f11, .ref h8, .ref h9, .ref h10, .ref h11, .ref h12])]) (as := [h3, h15]) (zcV (q0 := 1) (ci := 6) (As := [.long x1, .int x2]) (rest := []) (Tc := [(h3, ob 6 [.ref h15, .int h3f1, .int h3f2, .int h3f3, .ref h16]), (h15, aI (k 2) 120 anI)]) hx hb hml hown hU hK hT rfl rfl [1, 2] rfl (by decide) (cX9_receive_a97ee l D k _ h3 h15 h16 x1 x2 h3f1 h3f2 h3f3 (by omega) (by omega) (by omega) (by omega)) w452 w449 w450 w451 w65 hdX9_receive ⟨rfl, rfl⟩ ⟨Nat.le_of_ble_eq_true rfl, Nat.le_of_ble_eq_true rfl⟩ rfl hl.1 (Nat.le_of_ble_eq_true rfl) dX10_feed_36 ⟨Nat.le_of_ble_eq_true rfl, Nat.le_of_ble_eq_true rfl⟩) hT hS hA [1, 2] [0] rfl rfl rfl (by decide) (by decide) (fun H locs hB J hS => ?_)
        obtain ⟨v6, b_v6, hT1⟩ := hB
        have hT := J _ hT1
        have hT : TP D A [(h0, ob 7 [.ref h1, .ref h2, .int h0f2, .ref h3, .ref h4, .ref h5, .int h0f6, .ref h6, .int h0f8, .null, .ref h7, .int h0f11, .ref h8, .ref h9, .ref h10, .ref h11, .ref h12]), (h3, ob 6 [.ref h15, .int v6, .int h3f2, .int h3f3, .ref h16]), (h15, aI (k 2) 120 anI)] H := hT
        refine lv_aload_n hx hb dX10_feed_39 rfl (lv_at hl 0 rfl) ?_
        refine tz_get (ci := 7) (v := .ref h3) (C := RX10) (F := TX10) (N := 17) hx hb hU iX10 hown hK hT 0 rfl rfl 3 (by decide) w252 (fun _ h9 => h9) rfl dX10_feed_40 ?_
        refine tz_get (ci := 6) (v := .int v6) (C := RX9) (F := TX9) (N := 5) hx hb hU iX9 hown hK hT 1 rfl rfl 1 (by decide) w122 (fun _ h9 => h9) rfl dX10_feed_43 ?_
        exact tz_retI (B := B_cX10_feed_649e4 D k h0 h3 h15 h1 h2 h4 h5 h6 h7 h8 h9 h10 h11 h12 h16 x1 x2 h0f2 h0f6 h0f8 h0f11 h3f1 h3f2 h3f3) (v := v6) hQ hx hb hr hlocks hS (Nat.le_of_ble_eq_true rfl) (Nat.le_of_ble_eq_true rfl) dX10_feed_46 (⟨v6, (by omega), (by omega), hT⟩)
      · skip
        have c_4 := ni_nle c_4 rfl li_120
        refine lv_bipush (v := (-2)) hx hb dX10_feed_27 (by decide) ?_
        exact tz_retI (B := B_cX10_feed_649e4 D k h0 h3 h15 h1 h2 h4 h5 h6 h7 h8 h9 h10 h11 h12 h16 x1 x2 h0f2 h0f6 h0f8 h0f11 h3f1 h3f2 h3f3) (v := (-2)) hQ hx hb hr hlocks hS (Nat.le_of_ble_eq_true rfl) (Nat.le_of_ble_eq_true rfl) dX10_feed_29 (⟨h3f1, (by have := li_m2; omega), (by have := li_m2; omega), hT⟩)
    · skip
      have c_2 := ni_nle c_2 rfl li_8
      refine lv_iconst (v := (-1)) hx hb dX10_feed_11 (by decide) ?_
      exact tz_retI (B := B_cX10_feed_649e4 D k h0 h3 h15 h1 h2 h4 h5 h6 h7 h8 h9 h10 h11 h12 h16 x1 x2 h0f2 h0f6 h0f8 h0f11 h3f1 h3f2 h3f3) (v := (-1)) hQ hx hb hr hlocks hS (Nat.le_of_ble_eq_true rfl) (Nat.le_of_ble_eq_true rfl) dX10_feed_12 (⟨h3f1, (by have := li_m1; omega), (by have := li_m1; omega), hT⟩)
abbrev Rm_cX10_feed_cbb9a : Room := { frames := 1, cells := 0, slots := 0, locals := 24 }
abbrev B_cX10_feed_cbb9a (D : va_G) (k : Nat → ClassId) (h0 h3 h16 h1 h2 h4 h5 h6 h7 h8 h9 h10 h11 h12 h13 h17 : Nat) (x1 : Int64) (x2 : Int32) (h0f2 : Int32) (h0f6 : Int32) (h0f8 : Int32) (h0f11 : Int32) (h3f1 : Int32) (h3f2 : Int32) (h3f3 : Int32) (A : Nat → Prop) (r : Int32) (H : Heap) : Prop := ∃ o0 : Int32, (0 ≤ o0.toInt ∧ o0.toInt ≤ 120) ∧ ((-2) ≤ r.toInt ∧ r.toInt ≤ 120) ∧ TP D A [(h0, ob 7 [.ref h1, .ref h2, .int h0f2, .ref h3, .ref h4, .ref h5, .int h0f6, .ref h6, .int h0f8, .ref h7, .ref h8, .int h0f11, .ref h9, .ref h10, .ref h11, .ref h12, .ref h13]), (h3, ob 6 [.ref h16, .int o0, .int h3f2, .int h3f3, .ref h17]), (h16, aI (k 2) 120 anI)] H
set_option maxHeartbeats 4000000 in
set_option maxRecDepth 100000 in
theorem cX10_feed_cbb9a (l : Launch) (D : va_G) (k : Nat → ClassId) (sz : Nat) (h0 h3 h16 h1 h2 h4 h5 h6 h7 h8 h9 h10 h11 h12 h13 h17 : Nat) (x1 : Int64) (x2 : Int32) (h0f2 : Int32) (h0f6 : Int32) (h0f8 : Int32) (h0f11 : Int32) (h3f1 : Int32) (h3f2 : Int32) (h3f3 : Int32) (b_h0f2 : 0 ≤ h0f2.toInt ∧ h0f2.toInt ≤ 1) (b_h0f6 : 0 ≤ h0f6.toInt ∧ h0f6.toInt ≤ 1) (b_h0f8 : 0 ≤ h0f8.toInt ∧ h0f8.toInt ≤ 1) (b_h0f11 : 0 ≤ h0f11.toInt ∧ h0f11.toInt ≤ 200) (b_h3f1 : 0 ≤ h3f1.toInt ∧ h3f1.toInt ≤ 120) (b_h3f2 : 0 ≤ h3f2.toInt ∧ h3f2.toInt ≤ 120) (b_h3f3 : 0 ≤ h3f3.toInt ∧ h3f3.toInt ≤ 4) : Met l yX10_feed (Cond.code yX10_feed cX10_feed 4 (some .int) :: uw) Rm_cX10_feed_cbb9a (pT D k sz [.ref h0, .long x1, .int x2] [(h0, ob 7 [.ref h1, .ref h2, .int h0f2, .ref h3, .ref h4, .ref h5, .int h0f6, .ref h6, .int h0f8, .ref h7, .ref h8, .int h0f11, .ref h9, .ref h10, .ref h11, .ref h12, .ref h13]), (h3, ob 6 [.ref h16, .int h3f1, .int h3f2, .int h3f3, .ref h17]), (h16, aI (k 2) 120 anI)]) (qI (B_cX10_feed_cbb9a D k h0 h3 h16 h1 h2 h4 h5 h6 h7 h8 h9 h10 h11 h12 h13 h17 x1 x2 h0f2 h0f6 h0f8 h0f11 h3f1 h3f2 h3f3 (zA [h0, h3, h16] sz)) (zA [h0, h3, h16] sz)) 0 0 (zA [h0, h3, h16] sz) := by
  refine tz_begin (as := [h0, h3, h16]) (Qc := fun A => qI (B_cX10_feed_cbb9a D k h0 h3 h16 h1 h2 h4 h5 h6 h7 h8 h9 h10 h11 h12 h13 h17 x1 x2 h0f2 h0f6 h0f8 h0f11 h3f1 h3f2 h3f3 A) A) (by decide +kernel) rfl (Nat.le_of_ble_eq_true rfl) ?_
  intro p e s m args below meth c ls A Q hx hb hr hml hown hlocks hin hU hK hT hS hA hl hQ
  have hl : lv_has ls 4 [(0, .ref h0), (1, .long x1), (3, .int x2)] := hl
  have hT : TP D A [(h0, ob 7 [.ref h1, .ref h2, .int h0f2, .ref h3, .ref h4, .ref h5, .int h0f6, .ref h6, .int h0f8, .ref h7, .ref h8, .int h0f11, .ref h9, .ref h10, .ref h11, .ref h12, .ref h13]), (h3, ob 6 [.ref h16, .int h3f1, .int h3f2, .int h3f3, .ref h17]), (h16, aI (k 2) 120 anI)] s.heap := hT
  refine lv_iload_n hx hb dX10_feed_0 rfl (lv_at hl 2 rfl) ?_
  refine lv_iconst (v := 1) hx hb dX10_feed_1 (by decide) ?_
  refine lv_icmp_lt (tgt := 11) hx hb dX10_feed_2 (by decide) (fun c_1 => ?_) (fun c_1 => ?_)
  · skip
    have c_1 := ni_lt c_1 rfl li_1
    refine lv_iconst (v := (-1)) hx hb dX10_feed_11 (by decide) ?_
    exact tz_retI (B := B_cX10_feed_cbb9a D k h0 h3 h16 h1 h2 h4 h5 h6 h7 h8 h9 h10 h11 h12 h13 h17 x1 x2 h0f2 h0f6 h0f8 h0f11 h3f1 h3f2 h3f3) (v := (-1)) hQ hx hb hr hlocks hS (Nat.le_of_ble_eq_true rfl) (Nat.le_of_ble_eq_true rfl) dX10_feed_12 (⟨h3f1, (by have := li_m1; omega), (by have := li_m1; omega), hT⟩)
  · skip
    have c_1 := ni_nlt c_1 rfl li_1
    refine lv_iload_n hx hb dX10_feed_5 rfl (lv_at hl 2 rfl) ?_
    refine lv_bipush (v := 8) hx hb dX10_feed_6 (by decide) ?_
    refine lv_icmp_le (tgt := 13) hx hb dX10_feed_8 (by decide) (fun c_2 => ?_) (fun c_2 => ?_)
    · skip
      have c_2 := ni_le c_2 rfl li_8
      refine lv_aload_n hx hb dX10_feed_13 rfl (lv_at hl 0 rfl) ?_
      refine tz_get (ci := 7) (v := .ref h3) (C := RX10) (F := TX10) (N := 17) hx hb hU iX10 hown hK hT 0 rfl rfl 3 (by decide) w252 (fun _ h9 => h9) rfl dX10_feed_14 ?_
      refine tz_get (ci := 6) (v := .int h3f1) (C := RX9) (F := TX9) (N := 5) hx hb hU iX9 hown hK hT 1 rfl rfl 1 (by decide) w122 (fun _ h9 => h9) rfl dX10_feed_17 ?_
      refine lv_iload_n hx hb dX10_feed_20 rfl (lv_at hl 2 rfl) ?_
      refine lv_iadd hx hb dX10_feed_21 (lv_topi (fun v3 e_v3 => ?_))
      have e_v3 := ai_add e_v3 rfl rfl (by omega)
      refine lv_bipush (v := 120) hx hb dX10_feed_22 (by decide) ?_
      refine lv_icmp_le (tgt := 30) hx hb dX10_feed_24 (by decide) (fun c_4 => ?_) (fun c_4 => ?_)
      · skip
        have c_4 := ni_le c_4 rfl li_120
        refine lv_aload_n hx hb dX10_feed_30 rfl (lv_at hl 0 rfl) ?_
        refine tz_get (ci := 7) (v := .ref h3) (C := RX10) (F := TX10) (N := 17) hx hb hU iX10 hown hK hT 0 rfl rfl 3 (by decide) w252 (fun _ h9 => h9) rfl dX10_feed_31 ?_
        refine lv_lload_n hx hb dX10_feed_34 rfl (lv_at hl 1 rfl) ?_
        refine lv_iload_n hx hb dX10_feed_35 rfl (lv_at hl 2 rfl) ?_
        refine tcV (Tc := [(h3, ob 6 [.ref h16, .int h3f1, .int h3f2, .int h3f3, .ref h17]), (h16, aI (k 2) 120 anI)]) (Tr := [(h0, ob 7 [.ref h1, .ref h2, .int h0f2, .ref h3, .ref h4, .ref h5, .int h0f6, .ref h6, .int h0f8, .ref h7, .ref h8, .int h0f11, .ref h9, .ref h10, .ref h11, .ref h12, .ref h13])]) (as := [h3, h16]) (zcV (q0 := 1) (ci := 6) (As := [.long x1, .int x2]) (rest := []) (Tc := [(h3, ob 6 [.ref h16, .int h3f1, .int h3f2, .int h3f3, .ref h17]), (h16, aI (k 2) 120 anI)]) hx hb hml hown hU hK hT rfl rfl [1, 2] rfl (by decide) (cX9_receive_a97ee l D k _ h3 h16 h17 x1 x2 h3f1 h3f2 h3f3 (by omega) (by omega) (by omega) (by omega)) w452 w449 w450 w451 w65 hdX9_receive ⟨rfl, rfl⟩ ⟨Nat.le_of_ble_eq_true rfl, Nat.le_of_ble_eq_true rfl⟩ rfl hl.1 (Nat.le_of_ble_eq_true rfl) dX10_feed_36 ⟨Nat.le_of_ble_eq_true rfl, Nat.le_of_ble_eq_true rfl⟩) hT hS hA [1, 2] [0] rfl rfl rfl (by decide) (by decide) (fun H locs hB J hS => ?_)
        obtain ⟨v6, b_v6, hT1⟩ := hB
        have hT := J _ hT1
        have hT : TP D A [(h0, ob 7 [.ref h1, .ref h2, .int h0f2, .ref h3, .ref h4, .ref h5, .int h0f6, .ref h6, .int h0f8, .ref h7, .ref h8, .int h0f11, .ref h9, .ref h10, .ref h11, .ref h12, .ref h13]), (h3, ob 6 [.ref h16, .int v6, .int h3f2, .int h3f3, .ref h17]), (h16, aI (k 2) 120 anI)] H := hT
        refine lv_aload_n hx hb dX10_feed_39 rfl (lv_at hl 0 rfl) ?_
        refine tz_get (ci := 7) (v := .ref h3) (C := RX10) (F := TX10) (N := 17) hx hb hU iX10 hown hK hT 0 rfl rfl 3 (by decide) w252 (fun _ h9 => h9) rfl dX10_feed_40 ?_
        refine tz_get (ci := 6) (v := .int v6) (C := RX9) (F := TX9) (N := 5) hx hb hU iX9 hown hK hT 1 rfl rfl 1 (by decide) w122 (fun _ h9 => h9) rfl dX10_feed_43 ?_
        exact tz_retI (B := B_cX10_feed_cbb9a D k h0 h3 h16 h1 h2 h4 h5 h6 h7 h8 h9 h10 h11 h12 h13 h17 x1 x2 h0f2 h0f6 h0f8 h0f11 h3f1 h3f2 h3f3) (v := v6) hQ hx hb hr hlocks hS (Nat.le_of_ble_eq_true rfl) (Nat.le_of_ble_eq_true rfl) dX10_feed_46 (⟨v6, (by omega), (by omega), hT⟩)
      · skip
        have c_4 := ni_nle c_4 rfl li_120
        refine lv_bipush (v := (-2)) hx hb dX10_feed_27 (by decide) ?_
        exact tz_retI (B := B_cX10_feed_cbb9a D k h0 h3 h16 h1 h2 h4 h5 h6 h7 h8 h9 h10 h11 h12 h13 h17 x1 x2 h0f2 h0f6 h0f8 h0f11 h3f1 h3f2 h3f3) (v := (-2)) hQ hx hb hr hlocks hS (Nat.le_of_ble_eq_true rfl) (Nat.le_of_ble_eq_true rfl) dX10_feed_29 (⟨h3f1, (by have := li_m2; omega), (by have := li_m2; omega), hT⟩)
    · skip
      have c_2 := ni_nle c_2 rfl li_8
      refine lv_iconst (v := (-1)) hx hb dX10_feed_11 (by decide) ?_
      exact tz_retI (B := B_cX10_feed_cbb9a D k h0 h3 h16 h1 h2 h4 h5 h6 h7 h8 h9 h10 h11 h12 h13 h17 x1 x2 h0f2 h0f6 h0f8 h0f11 h3f1 h3f2 h3f3) (v := (-1)) hQ hx hb hr hlocks hS (Nat.le_of_ble_eq_true rfl) (Nat.le_of_ble_eq_true rfl) dX10_feed_12 (⟨h3f1, (by have := li_m1; omega), (by have := li_m1; omega), hT⟩)
abbrev Rm_cX11_feed_744fe : Room := { frames := 1, cells := 0, slots := 0, locals := 25 }
abbrev B_cX11_feed_744fe (D : va_G) (k : Nat → ClassId) (h0 h8 h1 h2 h3 h4 h5 h6 h7 h9 h10 h11 h12 h13 h14 h15 h16 h17 h18 h19 h20 h21 : Nat) (x1 : Int64) (x2 : Int32) (h0f0 : Int32) (h0f1 : Int32) (h0f2 : Int32) (h0f3 : Int32) (h0f4 : Int32) (h0f5 : Int32) (h0f8 : Int32) (h0f9 : Int32) (h0f17 : Int32) (h0f18 : Int32) (h0f19 : Int32) (h0f24 : Int32) (h0f25 : Int32) (h0f30 : Int32) (h0f31 : Int32) (A : Nat → Prop) (r : Int32) (H : Heap) : Prop := ∃ o0 : Int32, (0 ≤ o0.toInt ∧ o0.toInt ≤ 127) ∧ ((-2) ≤ r.toInt ∧ r.toInt ≤ 127) ∧ TP D A [(h0, ob 8 [.int h0f0, .int h0f1, .int h0f2, .int h0f3, .int h0f4, .int h0f5, .ref h1, .ref h2, .int h0f8, .int h0f9, .ref h3, .ref h4, .ref h5, .ref h6, .ref h7, .ref h8, .ref h9, .int o0, .int h0f18, .int h0f19, .ref h10, .ref h11, .ref h12, .ref h13, .int h0f24, .int h0f25, .ref h14, .ref h15, .ref h16, .ref h17, .int h0f30, .int h0f31, .ref h18, .ref h19, .ref h20, .ref h21]), (h8, aI (k 0) 120 anI)] H
set_option maxHeartbeats 4000000 in
set_option maxRecDepth 100000 in
theorem cX11_feed_744fe (l : Launch) (D : va_G) (k : Nat → ClassId) (sz : Nat) (h0 h8 h1 h2 h3 h4 h5 h6 h7 h9 h10 h11 h12 h13 h14 h15 h16 h17 h18 h19 h20 h21 : Nat) (x1 : Int64) (x2 : Int32) (h0f0 : Int32) (h0f1 : Int32) (h0f2 : Int32) (h0f3 : Int32) (h0f4 : Int32) (h0f5 : Int32) (h0f8 : Int32) (h0f9 : Int32) (h0f17 : Int32) (h0f18 : Int32) (h0f19 : Int32) (h0f24 : Int32) (h0f25 : Int32) (h0f30 : Int32) (h0f31 : Int32) (b_h0f0 : 1 ≤ h0f0.toInt ∧ h0f0.toInt ≤ 3) (b_h0f1 : 0 ≤ h0f1.toInt ∧ h0f1.toInt ≤ 4) (b_h0f3 : 0 ≤ h0f3.toInt ∧ h0f3.toInt ≤ 3) (b_h0f4 : 0 ≤ h0f4.toInt ∧ h0f4.toInt ≤ 4) (b_h0f8 : 0 ≤ h0f8.toInt ∧ h0f8.toInt ≤ 1) (b_h0f9 : 0 ≤ h0f9.toInt ∧ h0f9.toInt ≤ 1) (b_h0f17 : 0 ≤ h0f17.toInt ∧ h0f17.toInt ≤ 120) (b_h0f18 : 0 ≤ h0f18.toInt ∧ h0f18.toInt ≤ 120) (b_h0f19 : 0 ≤ h0f19.toInt ∧ h0f19.toInt ≤ 4) (b_h0f24 : 0 ≤ h0f24.toInt ∧ h0f24.toInt ≤ 100) (b_h0f25 : 0 ≤ h0f25.toInt ∧ h0f25.toInt ≤ 1) (b_h0f30 : 0 ≤ h0f30.toInt ∧ h0f30.toInt ≤ 60) (b_h0f31 : 0 ≤ h0f31.toInt ∧ h0f31.toInt ≤ 1) : Met l yX11_feed (Cond.code yX11_feed cX11_feed 5 (some .int) :: uw) Rm_cX11_feed_744fe (pT D k sz [.ref h0, .long x1, .int x2] [(h0, ob 8 [.int h0f0, .int h0f1, .int h0f2, .int h0f3, .int h0f4, .int h0f5, .ref h1, .ref h2, .int h0f8, .int h0f9, .ref h3, .ref h4, .ref h5, .ref h6, .ref h7, .ref h8, .ref h9, .int h0f17, .int h0f18, .int h0f19, .ref h10, .ref h11, .ref h12, .ref h13, .int h0f24, .int h0f25, .ref h14, .ref h15, .ref h16, .ref h17, .int h0f30, .int h0f31, .ref h18, .ref h19, .ref h20, .ref h21]), (h8, aI (k 0) 120 anI)]) (qI (B_cX11_feed_744fe D k h0 h8 h1 h2 h3 h4 h5 h6 h7 h9 h10 h11 h12 h13 h14 h15 h16 h17 h18 h19 h20 h21 x1 x2 h0f0 h0f1 h0f2 h0f3 h0f4 h0f5 h0f8 h0f9 h0f17 h0f18 h0f19 h0f24 h0f25 h0f30 h0f31 (zA [h0, h8] sz)) (zA [h0, h8] sz)) 0 0 (zA [h0, h8] sz) := by
  refine tz_begin (as := [h0, h8]) (Qc := fun A => qI (B_cX11_feed_744fe D k h0 h8 h1 h2 h3 h4 h5 h6 h7 h9 h10 h11 h12 h13 h14 h15 h16 h17 h18 h19 h20 h21 x1 x2 h0f0 h0f1 h0f2 h0f3 h0f4 h0f5 h0f8 h0f9 h0f17 h0f18 h0f19 h0f24 h0f25 h0f30 h0f31 A) A) (by decide +kernel) rfl (Nat.le_of_ble_eq_true rfl) ?_
  intro p e s m args below meth c ls A Q hx hb hr hml hown hlocks hin hU hK hT hS hA hl hQ
  have hl : lv_has ls 5 [(0, .ref h0), (1, .long x1), (3, .int x2)] := hl
  have hT : TP D A [(h0, ob 8 [.int h0f0, .int h0f1, .int h0f2, .int h0f3, .int h0f4, .int h0f5, .ref h1, .ref h2, .int h0f8, .int h0f9, .ref h3, .ref h4, .ref h5, .ref h6, .ref h7, .ref h8, .ref h9, .int h0f17, .int h0f18, .int h0f19, .ref h10, .ref h11, .ref h12, .ref h13, .int h0f24, .int h0f25, .ref h14, .ref h15, .ref h16, .ref h17, .int h0f30, .int h0f31, .ref h18, .ref h19, .ref h20, .ref h21]), (h8, aI (k 0) 120 anI)] s.heap := hT
  refine lv_iload_n hx hb dX11_feed_0 rfl (lv_at hl 2 rfl) ?_
  obtain ⟨v1, e_v1⟩ : ∃ x : Int64, x2.toInt64 = x := ⟨_, rfl⟩
  refine lv_i2l (v := v1) hx hb dX11_feed_1 e_v1 ?_
  have e_v1 := ai_i2l e_v1 rfl
  refine lv_lconst (v := 1) hx hb dX11_feed_2 (by decide) ?_
  refine lv_ldc2 hx hb hown (hU _ w1004) dX11_feed_3 ?_
  have q_q3 := ll_1
  have q_q4 := ll_8
  refine tcI (Tc := []) (Tr := [(h0, ob 8 [.int h0f0, .int h0f1, .int h0f2, .int h0f3, .int h0f4, .int h0f5, .ref h1, .ref h2, .int h0f8, .int h0f9, .ref h3, .ref h4, .ref h5, .ref h6, .ref h7, .ref h8, .ref h9, .int h0f17, .int h0f18, .int h0f19, .ref h10, .ref h11, .ref h12, .ref h13, .int h0f24, .int h0f25, .ref h14, .ref h15, .ref h16, .ref h17, .int h0f30, .int h0f31, .ref h18, .ref h19, .ref h20, .ref h21]), (h8, aI (k 0) 120 anI)]) (as := []) (zcS (As := [.long v1, .long 1, .long 8]) (rest := []) (Tc := []) hx hb hml hown hU hK hT [] rfl (by decide) (cX11_in_ca3b9 l D k _ v1 (1) (8) (by have := ll_1; omega) (by have := ll_8; omega)) w901 w899 w900 w72 hdX11_in ⟨rfl, rfl⟩ ⟨Nat.le_of_ble_eq_true rfl, Nat.le_of_ble_eq_true rfl⟩ rfl hl.1 (Nat.le_of_ble_eq_true rfl) dX11_feed_6 ⟨Nat.le_of_ble_eq_true rfl, Nat.le_of_ble_eq_true rfl⟩) hT hS hA [] [0, 1] rfl rfl rfl (by decide) (by decide) (fun r2 H locs hB J hS => ?_)
  rcases hB with ⟨rfl, hT1⟩ | ⟨c_5, c_6, rfl, hT1⟩
  · skip
    have hT := J _ hT1
    have hT : TP D A [(h0, ob 8 [.int h0f0, .int h0f1, .int h0f2, .int h0f3, .int h0f4, .int h0f5, .ref h1, .ref h2, .int h0f8, .int h0f9, .ref h3, .ref h4, .ref h5, .ref h6, .ref h7, .ref h8, .ref h9, .int h0f17, .int h0f18, .int h0f19, .ref h10, .ref h11, .ref h12, .ref h13, .int h0f24, .int h0f25, .ref h14, .ref h15, .ref h16, .ref h17, .int h0f30, .int h0f31, .ref h18, .ref h19, .ref h20, .ref h21]), (h8, aI (k 0) 120 anI)] H := hT
    refine lv_if_ne (tgt := 14) hx hb dX11_feed_9 (by decide) (fun cc => absurd (by decide +kernel) cc) (fun _ => ?_)
    refine lv_iconst (v := (-1)) hx hb dX11_feed_12 (by decide) ?_
    exact tz_retI (B := B_cX11_feed_744fe D k h0 h8 h1 h2 h3 h4 h5 h6 h7 h9 h10 h11 h12 h13 h14 h15 h16 h17 h18 h19 h20 h21 x1 x2 h0f0 h0f1 h0f2 h0f3 h0f4 h0f5 h0f8 h0f9 h0f17 h0f18 h0f19 h0f24 h0f25 h0f30 h0f31) (v := (-1)) hQ hx hb hr hlocks hS (Nat.le_of_ble_eq_true rfl) (Nat.le_of_ble_eq_true rfl) dX11_feed_13 (⟨h0f17, (by have := li_m1; omega), (by have := li_m1; omega), hT⟩)
  · skip
    have hT := J _ hT1
    have hT : TP D A [(h0, ob 8 [.int h0f0, .int h0f1, .int h0f2, .int h0f3, .int h0f4, .int h0f5, .ref h1, .ref h2, .int h0f8, .int h0f9, .ref h3, .ref h4, .ref h5, .ref h6, .ref h7, .ref h8, .ref h9, .int h0f17, .int h0f18, .int h0f19, .ref h10, .ref h11, .ref h12, .ref h13, .int h0f24, .int h0f25, .ref h14, .ref h15, .ref h16, .ref h17, .int h0f30, .int h0f31, .ref h18, .ref h19, .ref h20, .ref h21]), (h8, aI (k 0) 120 anI)] H := hT
    refine lv_if_ne (tgt := 14) hx hb dX11_feed_9 (by decide) (fun _ => ?_) (fun cc => absurd cc (by decide +kernel))
    refine lv_aload_n hx hb dX11_feed_14 rfl (lv_at hl 0 rfl) ?_
    refine tz_get (ci := 8) (v := .int h0f17) (C := RX11) (F := TX11) (N := 36) hx hb hU iX11 hown hK hT 0 rfl rfl 17 (by decide) w802 (fun _ h9 => h9) rfl dX11_feed_15 ?_
    refine lv_iload_n hx hb dX11_feed_18 rfl (lv_at hl 2 rfl) ?_
    refine lv_iadd hx hb dX11_feed_19 (lv_topi (fun v7 e_v7 => ?_))
    have e_v7 := ai_add e_v7 rfl rfl (by omega)
    refine lv_bipush (v := 120) hx hb dX11_feed_20 (by decide) ?_
    refine lv_icmp_le (tgt := 28) hx hb dX11_feed_22 (by decide) (fun c_8 => ?_) (fun c_8 => ?_)
    · skip
      have c_8 := ni_le c_8 rfl li_120
      refine lv_iconst (v := 0) hx hb dX11_feed_28 (by decide) ?_
      refine lv_istore (lv' := [(4, .int 0), (0, .ref h0), (1, .long x1), (3, .int x2)]) hx hb dX11_feed_29 hl (by decide) rfl (fun ls hl => ?_)
      have lp31_23 : ∀ (n : Nat) (y21 : Int32) (y22 : Int32) (H : Heap) (locs : List Loc) (ls : Array Slot), (0 ≤ y21.toInt ∧ y21.toInt ≤ 8) → (0 ≤ y22.toInt ∧ y22.toInt ≤ 127) → (y22.toInt + x2.toInt + (-1) * y21.toInt ≤ 120) → (x2.toInt + (-1) * y21.toInt + 1).toNat < n → TP D A [(h0, ob 8 [.int h0f0, .int h0f1, .int h0f2, .int h0f3, .int h0f4, .int h0f5, .ref h1, .ref h2, .int h0f8, .int h0f9, .ref h3, .ref h4, .ref h5, .ref h6, .ref h7, .ref h8, .ref h9, .int y22, .int h0f18, .int h0f19, .ref h10, .ref h11, .ref h12, .ref h13, .int h0f24, .int h0f25, .ref h14, .ref h15, .ref h16, .ref h17, .int h0f30, .int h0f31, .ref h18, .ref h19, .ref h20, .ref h21]), (h8, aI (k 0) 120 anI)] H → va_S A s.heap H locs → lv_has ls 5 [(0, .ref h0), (1, .long x1), (3, .int x2), (4, .int y21)] → W p l e Rm_cX11_feed_744fe s m args below meth c H locs 0 0 Q (F0 m 31 ls []) := by
        intro n
        induction n with
        | zero => intro y21 y22 H locs ls b_y21 b_y22 x_0 hm hT hS hl; exact absurd hm (Nat.not_lt_zero _)
        | succ n ih =>
          intro y21 y22 H locs ls b_y21 b_y22 x_0 hm hT hS hl
          have ih31_23 := ih
          clear ih
          refine lv_iload hx hb dX11_feed_31 (lv_at hl 3 rfl) ?_
          refine lv_iload_n hx hb dX11_feed_33 rfl (lv_at hl 2 rfl) ?_
          refine lv_icmp_ge (tgt := 74) hx hb dX11_feed_34 (by decide) (fun c_24 => ?_) (fun c_24 => ?_)
          · skip
            have c_24 := ni_le c_24 rfl rfl
            refine lv_aload_n hx hb dX11_feed_74 rfl (lv_at hl 0 rfl) ?_
            refine tz_get (ci := 8) (v := .int y22) (C := RX11) (F := TX11) (N := 36) hx hb hU iX11 hown hK hT 0 rfl rfl 17 (by decide) w802 (fun _ h9 => h9) rfl dX11_feed_75 ?_
            exact tz_retI (B := B_cX11_feed_744fe D k h0 h8 h1 h2 h3 h4 h5 h6 h7 h9 h10 h11 h12 h13 h14 h15 h16 h17 h18 h19 h20 h21 x1 x2 h0f0 h0f1 h0f2 h0f3 h0f4 h0f5 h0f8 h0f9 h0f17 h0f18 h0f19 h0f24 h0f25 h0f30 h0f31) (v := y22) hQ hx hb hr hlocks hS (Nat.le_of_ble_eq_true rfl) (Nat.le_of_ble_eq_true rfl) dX11_feed_78 (⟨y22, (by omega), (by omega), hT⟩)
          · skip
            have c_24 := ni_nle c_24 rfl rfl
            refine lv_aload_n hx hb dX11_feed_37 rfl (lv_at hl 0 rfl) ?_
            refine tz_get (ci := 8) (v := .ref h8) (C := RX11) (F := TX11) (N := 36) hx hb hU iX11 hown hK hT 0 rfl rfl 15 (by decide) w800 (fun _ h9 => h9) rfl dX11_feed_38 ?_
            refine lv_aload_n hx hb dX11_feed_41 rfl (lv_at hl 0 rfl) ?_
            refine tz_get (ci := 8) (v := .int y22) (C := RX11) (F := TX11) (N := 36) hx hb hU iX11 hown hK hT 0 rfl rfl 17 (by decide) w802 (fun _ h9 => h9) rfl dX11_feed_42 ?_
            refine lv_lload_n hx hb dX11_feed_45 rfl (lv_at hl 1 rfl) ?_
            refine lv_bipush (v := 8) hx hb dX11_feed_46 (by decide) ?_
            refine lv_iload hx hb dX11_feed_48 (lv_at hl 3 rfl) ?_
            refine lv_imul hx hb dX11_feed_50 (lv_topi (fun v25 e_v25 => ?_))
            have e_v25 := ai_mul e_v25 li_8 rfl (by omega)
            refine lv_lshr hx hb dX11_feed_51 rfl (lv_topl (fun v26 _ => ?_))
            refine lv_ldc2 hx hb hown (hU _ w1005) dX11_feed_52 ?_
            refine lv_land hx hb dX11_feed_55 (lv_topl (fun v27 e_v27 => ?_))
            refine lv_l2i hx hb dX11_feed_56 rfl (lv_topi (fun v28 _ => ?_))
            refine tz_iast hx hb hK hT hS 1 rfl (by omega) (fun _ _ => trivial) dX11_feed_57 (fun H locs hT hS => ?_)
            refine lv_aload_n hx hb dX11_feed_58 rfl (lv_at hl 0 rfl) ?_
            refine lv_dup hx hb dX11_feed_59 rfl ?_
            refine tz_get (ci := 8) (v := .int y22) (C := RX11) (F := TX11) (N := 36) hx hb hU iX11 hown hK hT 0 rfl rfl 17 (by decide) w802 (fun _ h9 => h9) rfl dX11_feed_60 ?_
            refine lv_iconst (v := 1) hx hb dX11_feed_63 (by decide) ?_
            refine lv_iadd hx hb dX11_feed_64 (lv_topi (fun v29 e_v29 => ?_))
            have e_v29 := ai_add e_v29 rfl li_1 (by omega)
            refine tz_put (ci := 8) (v := .int v29) (ty := .int) (C := RX11) (F := TX11) (N := 36) hx hb hU iX11 tyX11 tyX11_ok nmX11 hown hK hT hS 0 rfl rfl 17 (by decide) w802 (fun _ h9 => h9) rfl (by decide +kernel) rfl rfl (Nat.le_of_ble_eq_true rfl) dX11_feed_65 (fun H locs hT hS => ?_)
            have hT : TP D A [(h0, ob 8 [.int h0f0, .int h0f1, .int h0f2, .int h0f3, .int h0f4, .int h0f5, .ref h1, .ref h2, .int h0f8, .int h0f9, .ref h3, .ref h4, .ref h5, .ref h6, .ref h7, .ref h8, .ref h9, .int v29, .int h0f18, .int h0f19, .ref h10, .ref h11, .ref h12, .ref h13, .int h0f24, .int h0f25, .ref h14, .ref h15, .ref h16, .ref h17, .int h0f30, .int h0f31, .ref h18, .ref h19, .ref h20, .ref h21]), (h8, aI (k 0) 120 anI)] H := hT
            obtain ⟨v30, e_v30⟩ : ∃ x : Int32, x = y21 + Int32.ofInt 1 := ⟨_, rfl⟩
            have f_v30 := e_v30.symm
            have e_v30 : v30.toInt = y21.toInt + 1 := ai_add e_v30 rfl (show (Int32.ofInt 1).toInt = 1 from (by decide +kernel)) (by omega)
            refine lv_iinc (v := v30) (lv' := [(4, .int v30), (0, .ref h0), (1, .long x1), (3, .int x2)]) hx hb dX11_feed_68 hl (k := 3) rfl f_v30 (by decide) rfl (fun ls hl => ?_)
            refine lv_goto (tgt := 31) hx hb dX11_feed_71 (by decide) ?_
            exact ih31_23 v30 v29 _ _ _ (by omega) (by omega) (by omega) (by omega) hT hS (lv_sub hl [1, 2, 3, 0] rfl)
      exact lp31_23 ((x2.toInt + (-1) * (0 : Int32).toInt + 1).toNat + 1) (0) h0f17 _ _ _ (by have := li_0; omega) (by have := li_0; omega) (by have := li_0; omega) (Nat.lt_succ_self _) hT hS (lv_sub hl [1, 2, 3, 0] rfl)
    · skip
      have c_8 := ni_nle c_8 rfl li_120
      refine lv_bipush (v := (-2)) hx hb dX11_feed_25 (by decide) ?_
      exact tz_retI (B := B_cX11_feed_744fe D k h0 h8 h1 h2 h3 h4 h5 h6 h7 h9 h10 h11 h12 h13 h14 h15 h16 h17 h18 h19 h20 h21 x1 x2 h0f0 h0f1 h0f2 h0f3 h0f4 h0f5 h0f8 h0f9 h0f17 h0f18 h0f19 h0f24 h0f25 h0f30 h0f31) (v := (-2)) hQ hx hb hr hlocks hS (Nat.le_of_ble_eq_true rfl) (Nat.le_of_ble_eq_true rfl) dX11_feed_27 (⟨h0f17, (by have := li_m2; omega), (by have := li_m2; omega), hT⟩)
abbrev Rm_cX9_skipBlanks_4b650 : Room := { frames := 0, cells := 0, slots := 0, locals := 0 }
abbrev B_cX9_skipBlanks_4b650 (D : va_G) (k : Nat → ClassId) (h0 h1 h2 : Nat) (h0f1 : Int32) (h0f2 : Int32) (h0f3 : Int32) (A : Nat → Prop) (H : Heap) : Prop := ∃ o0 : Int32, (0 ≤ o0.toInt ∧ o0.toInt ≤ 120) ∧ TP D A [(h0, ob 6 [.ref h1, .int h0f1, .int o0, .int h0f3, .ref h2]), (h1, aI (k 2) 120 anI)] H
set_option maxHeartbeats 4000000 in
set_option maxRecDepth 100000 in
theorem cX9_skipBlanks_4b650 (l : Launch) (D : va_G) (k : Nat → ClassId) (sz : Nat) (h0 h1 h2 : Nat) (h0f1 : Int32) (h0f2 : Int32) (h0f3 : Int32) (b_h0f1 : 0 ≤ h0f1.toInt ∧ h0f1.toInt ≤ 120) (b_h0f2 : 0 ≤ h0f2.toInt ∧ h0f2.toInt ≤ 120) (b_h0f3 : 0 ≤ h0f3.toInt ∧ h0f3.toInt ≤ 4) : Met l yX9_skipBlanks (Cond.code yX9_skipBlanks cX9_skipBlanks 1 none :: uw) Rm_cX9_skipBlanks_4b650 (pT D k sz [.ref h0] [(h0, ob 6 [.ref h1, .int h0f1, .int h0f2, .int h0f3, .ref h2]), (h1, aI (k 2) 120 anI)]) (qV (B_cX9_skipBlanks_4b650 D k h0 h1 h2 h0f1 h0f2 h0f3 (zA [h0, h1] sz)) (zA [h0, h1] sz)) 0 0 (zA [h0, h1] sz) := by
  refine tz_begin (as := [h0, h1]) (Qc := fun A => qV (B_cX9_skipBlanks_4b650 D k h0 h1 h2 h0f1 h0f2 h0f3 A) A) (by decide +kernel) rfl (Nat.le_of_ble_eq_true rfl) ?_
  intro p e s m args below meth c ls A Q hx hb hr hml hown hlocks hin hU hK hT hS hA hl hQ
  have hl : lv_has ls 1 [(0, .ref h0)] := hl
  have hT : TP D A [(h0, ob 6 [.ref h1, .int h0f1, .int h0f2, .int h0f3, .ref h2]), (h1, aI (k 2) 120 anI)] s.heap := hT
  have lp0_2 : ∀ (n : Nat) (y1 : Int32) (H : Heap) (locs : List Loc) (ls : Array Slot), (0 ≤ y1.toInt ∧ y1.toInt ≤ 120) → (h0f1.toInt + (-1) * y1.toInt + 1).toNat < n → TP D A [(h0, ob 6 [.ref h1, .int h0f1, .int y1, .int h0f3, .ref h2]), (h1, aI (k 2) 120 anI)] H → va_S A s.heap H locs → lv_has ls 1 [(0, .ref h0)] → W p l e Rm_cX9_skipBlanks_4b650 s m args below meth c H locs 0 0 Q (F0 m 0 ls []) := by
    intro n
    induction n with
    | zero => intro y1 H locs ls b_y1 hm hT hS hl; exact absurd hm (Nat.not_lt_zero _)
    | succ n ih =>
      intro y1 H locs ls b_y1 hm hT hS hl
      have ih0_2 := ih
      clear ih
      refine lv_aload_n hx hb dX9_skipBlanks_0 rfl (lv_at hl 0 rfl) ?_
      refine tz_get (ci := 6) (v := .int y1) (C := RX9) (F := TX9) (N := 5) hx hb hU iX9 hown hK hT 0 rfl rfl 2 (by decide) w123 (fun _ h9 => h9) rfl dX9_skipBlanks_1 ?_
      refine lv_aload_n hx hb dX9_skipBlanks_4 rfl (lv_at hl 0 rfl) ?_
      refine tz_get (ci := 6) (v := .int h0f1) (C := RX9) (F := TX9) (N := 5) hx hb hU iX9 hown hK hT 0 rfl rfl 1 (by decide) w121 (fun _ h9 => h9) rfl dX9_skipBlanks_5 ?_
      refine lv_icmp_ge (tgt := 38) hx hb dX9_skipBlanks_8 (by decide) (fun c_3 => ?_) (fun c_3 => ?_)
      · skip
        have c_3 := ni_le c_3 rfl rfl
        exact tz_retV (B := B_cX9_skipBlanks_4b650 D k h0 h1 h2 h0f1 h0f2 h0f3) hQ hx hb hr hlocks hS (Nat.le_of_ble_eq_true rfl) (Nat.le_of_ble_eq_true rfl) dX9_skipBlanks_38 (⟨y1, (by omega), hT⟩)
      · skip
        have c_3 := ni_nle c_3 rfl rfl
        refine lv_aload_n hx hb dX9_skipBlanks_11 rfl (lv_at hl 0 rfl) ?_
        refine tz_get (ci := 6) (v := .ref h1) (C := RX9) (F := TX9) (N := 5) hx hb hU iX9 hown hK hT 0 rfl rfl 0 (by decide) w120 (fun _ h9 => h9) rfl dX9_skipBlanks_12 ?_
        refine lv_aload_n hx hb dX9_skipBlanks_15 rfl (lv_at hl 0 rfl) ?_
        refine tz_get (ci := 6) (v := .int y1) (C := RX9) (F := TX9) (N := 5) hx hb hU iX9 hown hK hT 0 rfl rfl 2 (by decide) w123 (fun _ h9 => h9) rfl dX9_skipBlanks_16 ?_
        refine tz_bald hx hb hK hT 1 rfl (by omega) dX9_skipBlanks_19 (fun v4 e_v4 => ?_)
        clear e_v4
        refine lv_bipush (v := 32) hx hb dX9_skipBlanks_20 (by decide) ?_
        refine lv_icmp_ne (tgt := 38) hx hb dX9_skipBlanks_22 (by decide) (fun c_5 => ?_) (fun c_5 => ?_)
        · skip
          have c_5 := ni_ne c_5 rfl li_32
          exact tz_retV (B := B_cX9_skipBlanks_4b650 D k h0 h1 h2 h0f1 h0f2 h0f3) hQ hx hb hr hlocks hS (Nat.le_of_ble_eq_true rfl) (Nat.le_of_ble_eq_true rfl) dX9_skipBlanks_38 (⟨y1, (by omega), hT⟩)
        · skip
          have c_5 := ni_eq c_5 rfl li_32
          refine lv_aload_n hx hb dX9_skipBlanks_25 rfl (lv_at hl 0 rfl) ?_
          refine lv_dup hx hb dX9_skipBlanks_26 rfl ?_
          refine tz_get (ci := 6) (v := .int y1) (C := RX9) (F := TX9) (N := 5) hx hb hU iX9 hown hK hT 0 rfl rfl 2 (by decide) w123 (fun _ h9 => h9) rfl dX9_skipBlanks_27 ?_
          refine lv_iconst (v := 1) hx hb dX9_skipBlanks_30 (by decide) ?_
          refine lv_iadd hx hb dX9_skipBlanks_31 (lv_topi (fun v6 e_v6 => ?_))
          have e_v6 := ai_add e_v6 rfl li_1 (by omega)
          refine tz_put (ci := 6) (v := .int v6) (ty := .int) (C := RX9) (F := TX9) (N := 5) hx hb hU iX9 tyX9 tyX9_ok nmX9 hown hK hT hS 0 rfl rfl 2 (by decide) w123 (fun _ h9 => h9) rfl (by decide +kernel) rfl rfl (Nat.le_of_ble_eq_true rfl) dX9_skipBlanks_32 (fun H locs hT hS => ?_)
          have hT : TP D A [(h0, ob 6 [.ref h1, .int h0f1, .int v6, .int h0f3, .ref h2]), (h1, aI (k 2) 120 anI)] H := hT
          refine lv_goto (tgt := 0) hx hb dX9_skipBlanks_35 (by decide) ?_
          exact ih0_2 v6 _ _ _ (by omega)  (by omega) hT hS hl
  exact lp0_2 ((h0f1.toInt + (-1) * h0f2.toInt + 1).toNat + 1) h0f2 _ _ _ (by omega)  (Nat.lt_succ_self _) hT hS hl
abbrev Rm_cX9_pass_8ea59 : Room := { frames := 1, cells := 0, slots := 0, locals := 20 }
abbrev B_cX9_pass_8ea59 (D : va_G) (k : Nat → ClassId) (h0 h1 h2 : Nat) (x1 : Int32) (h0f1 : Int32) (h0f2 : Int32) (h0f3 : Int32) (A : Nat → Prop) (r : Int32) (H : Heap) : Prop := (∃ o0 : Int32, (0 ≤ o0.toInt ∧ o0.toInt ≤ 120) ∧ 0 = r ∧ TP D A [(h0, ob 6 [.ref h1, .int h0f1, .int o0, .int h0f3, .ref h2]), (h1, aI (k 2) 120 anI)] H) ∨ (∃ o0 : Int32, ∃ o1 : Int32, ∃ o2 : Int32, (1 ≤ o0.toInt ∧ o0.toInt ≤ 120) ∧ (0 ≤ o1.toInt ∧ o1.toInt ≤ 119) ∧ (45 ≤ o2.toInt ∧ o2.toInt ≤ 59) ∧ o1.toInt < h0f1.toInt ∧ o2.toInt = x1.toInt ∧ 1 = r ∧ TP D A [(h0, ob 6 [.ref h1, .int h0f1, .int o0, .int h0f3, .ref h2]), (h1, aI (k 2) 120 anI)] H)
set_option maxHeartbeats 4000000 in
set_option maxRecDepth 100000 in
theorem cX9_pass_8ea59 (l : Launch) (D : va_G) (k : Nat → ClassId) (sz : Nat) (h0 h1 h2 : Nat) (x1 : Int32) (h0f1 : Int32) (h0f2 : Int32) (h0f3 : Int32) (b_x1 : 45 ≤ x1.toInt ∧ x1.toInt ≤ 59) (b_h0f1 : 1 ≤ h0f1.toInt ∧ h0f1.toInt ≤ 120) (b_h0f2 : 0 ≤ h0f2.toInt ∧ h0f2.toInt ≤ 120) (b_h0f3 : 0 ≤ h0f3.toInt ∧ h0f3.toInt ≤ 3) : Met l yX9_pass (Cond.code yX9_pass cX9_pass 2 (some .boolean) :: uw) Rm_cX9_pass_8ea59 (pT D k sz [.ref h0, .int x1] [(h0, ob 6 [.ref h1, .int h0f1, .int h0f2, .int h0f3, .ref h2]), (h1, aI (k 2) 120 anI)]) (qI (B_cX9_pass_8ea59 D k h0 h1 h2 x1 h0f1 h0f2 h0f3 (zA [h0, h1] sz)) (zA [h0, h1] sz)) 0 0 (zA [h0, h1] sz) := by
  refine tz_begin (as := [h0, h1]) (Qc := fun A => qI (B_cX9_pass_8ea59 D k h0 h1 h2 x1 h0f1 h0f2 h0f3 A) A) (by decide +kernel) rfl (Nat.le_of_ble_eq_true rfl) ?_
  intro p e s m args below meth c ls A Q hx hb hr hml hown hlocks hin hU hK hT hS hA hl hQ
  have hl : lv_has ls 2 [(0, .ref h0), (1, .int x1)] := hl
  have hT : TP D A [(h0, ob 6 [.ref h1, .int h0f1, .int h0f2, .int h0f3, .ref h2]), (h1, aI (k 2) 120 anI)] s.heap := hT
  refine lv_aload_n hx hb dX9_pass_0 rfl (lv_at hl 0 rfl) ?_
  refine tcV (Tc := [(h0, ob 6 [.ref h1, .int h0f1, .int h0f2, .int h0f3, .ref h2]), (h1, aI (k 2) 120 anI)]) (Tr := []) (as := [h0, h1]) (zcV (q0 := 0) (ci := 6) (As := []) (rest := []) (Tc := [(h0, ob 6 [.ref h1, .int h0f1, .int h0f2, .int h0f3, .ref h2]), (h1, aI (k 2) 120 anI)]) hx hb hml hown hU hK hT rfl rfl [0, 1] rfl (by decide) (cX9_skipBlanks_4b650 l D k _ h0 h1 h2 h0f1 h0f2 h0f3 (by omega) (by omega) (by omega)) w464 w461 w463 w5 w65 hdX9_skipBlanks ⟨rfl, rfl⟩ ⟨Nat.le_of_ble_eq_true rfl, Nat.le_of_ble_eq_true rfl⟩ rfl hl.1 (Nat.le_of_ble_eq_true rfl) dX9_pass_1 ⟨Nat.le_of_ble_eq_true rfl, Nat.le_of_ble_eq_true rfl⟩) hT hS hA [0, 1] [] rfl rfl rfl (by decide) (by decide) (fun H locs hB J hS => ?_)
  obtain ⟨v2, b_v2, hT1⟩ := hB
  have hT := J _ hT1
  have hT : TP D A [(h0, ob 6 [.ref h1, .int h0f1, .int v2, .int h0f3, .ref h2]), (h1, aI (k 2) 120 anI)] H := hT
  refine lv_aload_n hx hb dX9_pass_4 rfl (lv_at hl 0 rfl) ?_
  refine tz_get (ci := 6) (v := .int v2) (C := RX9) (F := TX9) (N := 5) hx hb hU iX9 hown hK hT 0 rfl rfl 2 (by decide) w123 (fun _ h9 => h9) rfl dX9_pass_5 ?_
  refine lv_aload_n hx hb dX9_pass_8 rfl (lv_at hl 0 rfl) ?_
  refine tz_get (ci := 6) (v := .int h0f1) (C := RX9) (F := TX9) (N := 5) hx hb hU iX9 hown hK hT 0 rfl rfl 1 (by decide) w121 (fun _ h9 => h9) rfl dX9_pass_9 ?_
  refine lv_icmp_ge (tgt := 28) hx hb dX9_pass_12 (by decide) (fun c_3 => ?_) (fun c_3 => ?_)
  · skip
    have c_3 := ni_le c_3 rfl rfl
    refine lv_iconst (v := 0) hx hb dX9_pass_28 (by decide) ?_
    exact tz_retZ (B := B_cX9_pass_8ea59 D k h0 h1 h2 x1 h0f1 h0f2 h0f3) (v := 0) hQ hx hb hr hlocks hS (Nat.le_of_ble_eq_true rfl) (Nat.le_of_ble_eq_true rfl) dX9_pass_29 (by have := li_0; omega) (Or.inl ⟨v2, (by have := li_0; omega), rfl, hT⟩)
  · skip
    have c_3 := ni_nle c_3 rfl rfl
    refine lv_aload_n hx hb dX9_pass_15 rfl (lv_at hl 0 rfl) ?_
    refine tz_get (ci := 6) (v := .ref h1) (C := RX9) (F := TX9) (N := 5) hx hb hU iX9 hown hK hT 0 rfl rfl 0 (by decide) w120 (fun _ h9 => h9) rfl dX9_pass_16 ?_
    refine lv_aload_n hx hb dX9_pass_19 rfl (lv_at hl 0 rfl) ?_
    refine tz_get (ci := 6) (v := .int v2) (C := RX9) (F := TX9) (N := 5) hx hb hU iX9 hown hK hT 0 rfl rfl 2 (by decide) w123 (fun _ h9 => h9) rfl dX9_pass_20 ?_
    refine tz_bald hx hb hK hT 1 rfl (by omega) dX9_pass_23 (fun v4 e_v4 => ?_)
    clear e_v4
    refine lv_iload_n hx hb dX9_pass_24 rfl (lv_at hl 1 rfl) ?_
    refine lv_icmp_eq (tgt := 30) hx hb dX9_pass_25 (by decide) (fun c_5 => ?_) (fun c_5 => ?_)
    · skip
      have c_5 := ni_eq c_5 rfl rfl
      refine lv_aload_n hx hb dX9_pass_30 rfl (lv_at hl 0 rfl) ?_
      refine lv_dup hx hb dX9_pass_31 rfl ?_
      refine tz_get (ci := 6) (v := .int v2) (C := RX9) (F := TX9) (N := 5) hx hb hU iX9 hown hK hT 0 rfl rfl 2 (by decide) w123 (fun _ h9 => h9) rfl dX9_pass_32 ?_
      refine lv_iconst (v := 1) hx hb dX9_pass_35 (by decide) ?_
      refine lv_iadd hx hb dX9_pass_36 (lv_topi (fun v6 e_v6 => ?_))
      have e_v6 := ai_add e_v6 rfl li_1 (by omega)
      refine tz_put (ci := 6) (v := .int v6) (ty := .int) (C := RX9) (F := TX9) (N := 5) hx hb hU iX9 tyX9 tyX9_ok nmX9 hown hK hT hS 0 rfl rfl 2 (by decide) w123 (fun _ h9 => h9) rfl (by decide +kernel) rfl rfl (Nat.le_of_ble_eq_true rfl) dX9_pass_37 (fun H locs hT hS => ?_)
      have hT : TP D A [(h0, ob 6 [.ref h1, .int h0f1, .int v6, .int h0f3, .ref h2]), (h1, aI (k 2) 120 anI)] H := hT
      refine lv_iconst (v := 1) hx hb dX9_pass_40 (by decide) ?_
      exact tz_retZ (B := B_cX9_pass_8ea59 D k h0 h1 h2 x1 h0f1 h0f2 h0f3) (v := 1) hQ hx hb hr hlocks hS (Nat.le_of_ble_eq_true rfl) (Nat.le_of_ble_eq_true rfl) dX9_pass_41 (by have := li_1; omega) (Or.inr (⟨v6, v2, v4, (by have := li_1; omega), (by have := li_1; omega), (by have := li_1; omega), (by have := li_1; omega), (by have := li_1; omega), rfl, hT⟩))
    · skip
      have c_5 := ni_ne c_5 rfl rfl
      refine lv_iconst (v := 0) hx hb dX9_pass_28 (by decide) ?_
      exact tz_retZ (B := B_cX9_pass_8ea59 D k h0 h1 h2 x1 h0f1 h0f2 h0f3) (v := 0) hQ hx hb hr hlocks hS (Nat.le_of_ble_eq_true rfl) (Nat.le_of_ble_eq_true rfl) dX9_pass_29 (by have := li_0; omega) (Or.inl ⟨v2, (by have := li_0; omega), rfl, hT⟩)
abbrev Rm_cX9_isDigit_872e6 : Room := { frames := 0, cells := 0, slots := 0, locals := 0 }
abbrev B_cX9_isDigit_872e6 (D : va_G) (k : Nat → ClassId) (h0 h1 h2 : Nat) (h0f1 : Int32) (h0f2 : Int32) (h0f3 : Int32) (A : Nat → Prop) (r : Int32) (H : Heap) : Prop := (0 = r ∧ TP D A [(h0, ob 6 [.ref h1, .int h0f1, .int h0f2, .int h0f3, .ref h2]), (h1, aI (k 2) 120 anI)] H) ∨ (∃ o0 : Int32, ∃ o1 : Int32, 48 ≤ o0.toInt ∧ o1.toInt ≤ 57 ∧ h0f2.toInt < h0f1.toInt ∧ 48 ≤ o0.toInt ∧ o1.toInt ≤ 57 ∧ 1 = r ∧ TP D A [(h0, ob 6 [.ref h1, .int h0f1, .int h0f2, .int h0f3, .ref h2]), (h1, aI (k 2) 120 anI)] H)
set_option maxHeartbeats 4000000 in
set_option maxRecDepth 100000 in
theorem cX9_isDigit_872e6 (l : Launch) (D : va_G) (k : Nat → ClassId) (sz : Nat) (h0 h1 h2 : Nat) (h0f1 : Int32) (h0f2 : Int32) (h0f3 : Int32) (b_h0f1 : 1 ≤ h0f1.toInt ∧ h0f1.toInt ≤ 120) (b_h0f2 : 0 ≤ h0f2.toInt ∧ h0f2.toInt ≤ 120) (b_h0f3 : 0 ≤ h0f3.toInt ∧ h0f3.toInt ≤ 3) : Met l yX9_isDigit (Cond.code yX9_isDigit cX9_isDigit 1 (some .boolean) :: uw) Rm_cX9_isDigit_872e6 (pT D k sz [.ref h0] [(h0, ob 6 [.ref h1, .int h0f1, .int h0f2, .int h0f3, .ref h2]), (h1, aI (k 2) 120 anI)]) (qI (B_cX9_isDigit_872e6 D k h0 h1 h2 h0f1 h0f2 h0f3 (zA [h0, h1] sz)) (zA [h0, h1] sz)) 0 0 (zA [h0, h1] sz) := by
  refine tz_begin (as := [h0, h1]) (Qc := fun A => qI (B_cX9_isDigit_872e6 D k h0 h1 h2 h0f1 h0f2 h0f3 A) A) (by decide +kernel) rfl (Nat.le_of_ble_eq_true rfl) ?_
  intro p e s m args below meth c ls A Q hx hb hr hml hown hlocks hin hU hK hT hS hA hl hQ
  have hl : lv_has ls 1 [(0, .ref h0)] := hl
  have hT : TP D A [(h0, ob 6 [.ref h1, .int h0f1, .int h0f2, .int h0f3, .ref h2]), (h1, aI (k 2) 120 anI)] s.heap := hT
  refine lv_aload_n hx hb dX9_isDigit_0 rfl (lv_at hl 0 rfl) ?_
  refine tz_get (ci := 6) (v := .int h0f2) (C := RX9) (F := TX9) (N := 5) hx hb hU iX9 hown hK hT 0 rfl rfl 2 (by decide) w123 (fun _ h9 => h9) rfl dX9_isDigit_1 ?_
  refine lv_aload_n hx hb dX9_isDigit_4 rfl (lv_at hl 0 rfl) ?_
  refine tz_get (ci := 6) (v := .int h0f1) (C := RX9) (F := TX9) (N := 5) hx hb hU iX9 hown hK hT 0 rfl rfl 1 (by decide) w121 (fun _ h9 => h9) rfl dX9_isDigit_5 ?_
  refine lv_icmp_ge (tgt := 43) hx hb dX9_isDigit_8 (by decide) (fun c_1 => ?_) (fun c_1 => ?_)
  · skip
    have c_1 := ni_le c_1 rfl rfl
    refine lv_iconst (v := 0) hx hb dX9_isDigit_43 (by decide) ?_
    exact tz_retZ (B := B_cX9_isDigit_872e6 D k h0 h1 h2 h0f1 h0f2 h0f3) (v := 0) hQ hx hb hr hlocks hS (Nat.le_of_ble_eq_true rfl) (Nat.le_of_ble_eq_true rfl) dX9_isDigit_44 (by have := li_0; omega) (Or.inl ⟨rfl, hT⟩)
  · skip
    have c_1 := ni_nle c_1 rfl rfl
    refine lv_aload_n hx hb dX9_isDigit_11 rfl (lv_at hl 0 rfl) ?_
    refine tz_get (ci := 6) (v := .ref h1) (C := RX9) (F := TX9) (N := 5) hx hb hU iX9 hown hK hT 0 rfl rfl 0 (by decide) w120 (fun _ h9 => h9) rfl dX9_isDigit_12 ?_
    refine lv_aload_n hx hb dX9_isDigit_15 rfl (lv_at hl 0 rfl) ?_
    refine tz_get (ci := 6) (v := .int h0f2) (C := RX9) (F := TX9) (N := 5) hx hb hU iX9 hown hK hT 0 rfl rfl 2 (by decide) w123 (fun _ h9 => h9) rfl dX9_isDigit_16 ?_
    refine tz_bald hx hb hK hT 1 rfl (by omega) dX9_isDigit_19 (fun v2 e_v2 => ?_)
    clear e_v2
    refine lv_bipush (v := 48) hx hb dX9_isDigit_20 (by decide) ?_
    refine lv_icmp_lt (tgt := 43) hx hb dX9_isDigit_22 (by decide) (fun c_3 => ?_) (fun c_3 => ?_)
    · skip
      have c_3 := ni_lt c_3 rfl li_48
      refine lv_iconst (v := 0) hx hb dX9_isDigit_43 (by decide) ?_
      exact tz_retZ (B := B_cX9_isDigit_872e6 D k h0 h1 h2 h0f1 h0f2 h0f3) (v := 0) hQ hx hb hr hlocks hS (Nat.le_of_ble_eq_true rfl) (Nat.le_of_ble_eq_true rfl) dX9_isDigit_44 (by have := li_0; omega) (Or.inl ⟨rfl, hT⟩)
    · skip
      have c_3 := ni_nlt c_3 rfl li_48
      refine lv_aload_n hx hb dX9_isDigit_25 rfl (lv_at hl 0 rfl) ?_
      refine tz_get (ci := 6) (v := .ref h1) (C := RX9) (F := TX9) (N := 5) hx hb hU iX9 hown hK hT 0 rfl rfl 0 (by decide) w120 (fun _ h9 => h9) rfl dX9_isDigit_26 ?_
      refine lv_aload_n hx hb dX9_isDigit_29 rfl (lv_at hl 0 rfl) ?_
      refine tz_get (ci := 6) (v := .int h0f2) (C := RX9) (F := TX9) (N := 5) hx hb hU iX9 hown hK hT 0 rfl rfl 2 (by decide) w123 (fun _ h9 => h9) rfl dX9_isDigit_30 ?_
      refine tz_bald hx hb hK hT 1 rfl (by omega) dX9_isDigit_33 (fun v4 e_v4 => ?_)
      clear e_v4
      refine lv_bipush (v := 57) hx hb dX9_isDigit_34 (by decide) ?_
      refine lv_icmp_gt (tgt := 43) hx hb dX9_isDigit_36 (by decide) (fun c_5 => ?_) (fun c_5 => ?_)
      · skip
        have c_5 := ni_lt c_5 li_57 rfl
        refine lv_iconst (v := 0) hx hb dX9_isDigit_43 (by decide) ?_
        exact tz_retZ (B := B_cX9_isDigit_872e6 D k h0 h1 h2 h0f1 h0f2 h0f3) (v := 0) hQ hx hb hr hlocks hS (Nat.le_of_ble_eq_true rfl) (Nat.le_of_ble_eq_true rfl) dX9_isDigit_44 (by have := li_0; omega) (Or.inl ⟨rfl, hT⟩)
      · skip
        have c_5 := ni_nlt c_5 li_57 rfl
        refine lv_iconst (v := 1) hx hb dX9_isDigit_39 (by decide) ?_
        refine lv_goto (tgt := 44) hx hb dX9_isDigit_40 (by decide) ?_
        exact tz_retZ (B := B_cX9_isDigit_872e6 D k h0 h1 h2 h0f1 h0f2 h0f3) (v := 1) hQ hx hb hr hlocks hS (Nat.le_of_ble_eq_true rfl) (Nat.le_of_ble_eq_true rfl) dX9_isDigit_44 (by have := li_1; omega) (Or.inr (⟨v2, v4, (by have := li_1; omega), (by have := li_1; omega), (by have := li_1; omega), (by have := li_1; omega), (by have := li_1; omega), rfl, hT⟩))
abbrev Rm_cX9_readNumber_23bb0 : Room := { frames := 2, cells := 0, slots := 0, locals := 41 }
abbrev B_cX9_readNumber_23bb0 (D : va_G) (k : Nat → ClassId) (h0 h1 h2 : Nat) (x1 : Int32) (h0f1 : Int32) (h0f2 : Int32) (h0f3 : Int32) (A : Nat → Prop) (r : Int32) (H : Heap) : Prop := ∃ o0 : Int32, (0 ≤ o0.toInt ∧ o0.toInt ≤ 120) ∧ (0 ≤ r.toInt ∧ r.toInt ≤ 1) ∧ TP D A [(h0, ob 6 [.ref h1, .int h0f1, .int o0, .int h0f3, .ref h2]), (h1, aI (k 2) 120 anI), (h2, aJ (k 1) 36 anJ)] H
set_option maxHeartbeats 4000000 in
set_option maxRecDepth 100000 in
theorem cX9_readNumber_23bb0 (l : Launch) (D : va_G) (k : Nat → ClassId) (sz : Nat) (h0 h1 h2 : Nat) (x1 : Int32) (h0f1 : Int32) (h0f2 : Int32) (h0f3 : Int32) (b_x1 : 0 ≤ x1.toInt ∧ x1.toInt ≤ 35) (b_h0f1 : 1 ≤ h0f1.toInt ∧ h0f1.toInt ≤ 120) (b_h0f2 : 0 ≤ h0f2.toInt ∧ h0f2.toInt ≤ 120) (b_h0f3 : 0 ≤ h0f3.toInt ∧ h0f3.toInt ≤ 3) : Met l yX9_readNumber (Cond.code yX9_readNumber cX9_readNumber 4 (some .boolean) :: uw) Rm_cX9_readNumber_23bb0 (pT D k sz [.ref h0, .int x1] [(h0, ob 6 [.ref h1, .int h0f1, .int h0f2, .int h0f3, .ref h2]), (h1, aI (k 2) 120 anI), (h2, aJ (k 1) 36 anJ)]) (qI (B_cX9_readNumber_23bb0 D k h0 h1 h2 x1 h0f1 h0f2 h0f3 (zA [h0, h1, h2] sz)) (zA [h0, h1, h2] sz)) 0 0 (zA [h0, h1, h2] sz) := by
  refine tz_begin (as := [h0, h1, h2]) (Qc := fun A => qI (B_cX9_readNumber_23bb0 D k h0 h1 h2 x1 h0f1 h0f2 h0f3 A) A) (by decide +kernel) rfl (Nat.le_of_ble_eq_true rfl) ?_
  intro p e s m args below meth c ls A Q hx hb hr hml hown hlocks hin hU hK hT hS hA hl hQ
  have hl : lv_has ls 4 [(0, .ref h0), (1, .int x1)] := hl
  have hT : TP D A [(h0, ob 6 [.ref h1, .int h0f1, .int h0f2, .int h0f3, .ref h2]), (h1, aI (k 2) 120 anI), (h2, aJ (k 1) 36 anJ)] s.heap := hT
  refine lv_aload_n hx hb dX9_readNumber_0 rfl (lv_at hl 0 rfl) ?_
  refine lv_bipush (v := 45) hx hb dX9_readNumber_1 (by decide) ?_
  have q_q2 := li_45
  refine tcI (Tc := [(h0, ob 6 [.ref h1, .int h0f1, .int h0f2, .int h0f3, .ref h2]), (h1, aI (k 2) 120 anI)]) (Tr := [(h2, aJ (k 1) 36 anJ)]) (as := [h0, h1]) (zcV (q0 := 0) (ci := 6) (As := [.int 45]) (rest := []) (Tc := [(h0, ob 6 [.ref h1, .int h0f1, .int h0f2, .int h0f3, .ref h2]), (h1, aI (k 2) 120 anI)]) hx hb hml hown hU hK hT rfl rfl [0, 1] rfl (by decide) (cX9_pass_8ea59 l D k _ h0 h1 h2 (45) h0f1 h0f2 h0f3 (by have := li_45; omega) (by omega) (by omega) (by omega)) w472 w469 w471 w7 w65 hdX9_pass ⟨rfl, rfl⟩ ⟨Nat.le_of_ble_eq_true rfl, Nat.le_of_ble_eq_true rfl⟩ rfl hl.1 (Nat.le_of_ble_eq_true rfl) dX9_readNumber_3 ⟨Nat.le_of_ble_eq_true rfl, Nat.le_of_ble_eq_true rfl⟩) hT hS hA [0, 1] [2] rfl rfl rfl (by decide) (by decide) (fun r1 H locs hB J hS => ?_)
  rcases hB with ⟨v3, b_v3, rfl, hT1⟩ | ⟨v4, v5, v6, b_v4, b_v5, b_v6, c_7, c_8, rfl, hT1⟩
  · skip
    have hT := J _ hT1
    have hT : TP D A [(h2, aJ (k 1) 36 anJ), (h0, ob 6 [.ref h1, .int h0f1, .int v3, .int h0f3, .ref h2]), (h1, aI (k 2) 120 anI)] H := hT
    refine lv_istore_n (lv' := [(2, .int 0), (0, .ref h0), (1, .int x1)]) hx hb dX9_readNumber_6 rfl hl (by decide) rfl (fun ls hl => ?_)
    refine lv_aload_n hx hb dX9_readNumber_7 rfl (lv_at hl 1 rfl) ?_
    refine tcI (Tc := [(h0, ob 6 [.ref h1, .int h0f1, .int v3, .int h0f3, .ref h2]), (h1, aI (k 2) 120 anI)]) (Tr := [(h2, aJ (k 1) 36 anJ)]) (as := [h0, h1]) (zcV (q0 := 1) (ci := 6) (As := []) (rest := []) (Tc := [(h0, ob 6 [.ref h1, .int h0f1, .int v3, .int h0f3, .ref h2]), (h1, aI (k 2) 120 anI)]) hx hb hml hown hU hK hT rfl rfl [1, 2] rfl (by decide) (cX9_isDigit_872e6 l D k _ h0 h1 h2 h0f1 v3 h0f3 (by omega) (by omega) (by omega)) w480 w477 w479 w9 w65 hdX9_isDigit ⟨rfl, rfl⟩ ⟨Nat.le_of_ble_eq_true rfl, Nat.le_of_ble_eq_true rfl⟩ rfl hl.1 (Nat.le_of_ble_eq_true rfl) dX9_readNumber_8 ⟨Nat.le_of_ble_eq_true rfl, Nat.le_of_ble_eq_true rfl⟩) hT hS hA [1, 2] [0] rfl rfl rfl (by decide) (by decide) (fun r9 H locs hB J hS => ?_)
    rcases hB with ⟨rfl, hT1⟩ | ⟨v10, v11, b_v10, b_v11, c_12, c_13, c_14, rfl, hT1⟩
    · skip
      have hT := J _ hT1
      have hT : TP D A [(h2, aJ (k 1) 36 anJ), (h0, ob 6 [.ref h1, .int h0f1, .int v3, .int h0f3, .ref h2]), (h1, aI (k 2) 120 anI)] H := hT
      refine lv_if_ne (tgt := 16) hx hb dX9_readNumber_11 (by decide) (fun cc => absurd (by decide +kernel) cc) (fun _ => ?_)
      refine lv_iconst (v := 0) hx hb dX9_readNumber_14 (by decide) ?_
      exact tz_retZ (B := B_cX9_readNumber_23bb0 D k h0 h1 h2 x1 h0f1 h0f2 h0f3) (v := 0) hQ hx hb hr hlocks hS (Nat.le_of_ble_eq_true rfl) (Nat.le_of_ble_eq_true rfl) dX9_readNumber_15 (by have := li_0; omega) (⟨v3, (by have := li_0; omega), (by have := li_0; omega), (hT.sub [1, 2, 0] (by decide) rfl)⟩)
    · skip
      have hT := J _ hT1
      have hT : TP D A [(h2, aJ (k 1) 36 anJ), (h0, ob 6 [.ref h1, .int h0f1, .int v3, .int h0f3, .ref h2]), (h1, aI (k 2) 120 anI)] H := hT
      refine lv_if_ne (tgt := 16) hx hb dX9_readNumber_11 (by decide) (fun _ => ?_) (fun cc => absurd cc (by decide +kernel))
      refine lv_aload_n hx hb dX9_readNumber_16 rfl (lv_at hl 1 rfl) ?_
      refine tz_get (ci := 6) (v := .ref h1) (C := RX9) (F := TX9) (N := 5) hx hb hU iX9 hown hK hT 1 rfl rfl 0 (by decide) w120 (fun _ h9 => h9) rfl dX9_readNumber_17 ?_
      refine lv_aload_n hx hb dX9_readNumber_20 rfl (lv_at hl 1 rfl) ?_
      refine tz_get (ci := 6) (v := .int v3) (C := RX9) (F := TX9) (N := 5) hx hb hU iX9 hown hK hT 1 rfl rfl 2 (by decide) w123 (fun _ h9 => h9) rfl dX9_readNumber_21 ?_
      refine tz_bald hx hb hK hT 2 rfl (by omega) dX9_readNumber_24 (fun v15 e_v15 => ?_)
      clear e_v15
      refine lv_bipush (v := 48) hx hb dX9_readNumber_25 (by decide) ?_
      refine lv_isub hx hb dX9_readNumber_27 (lv_topi (fun v16 e_v16 => ?_))
      refine lv_istore_n (lv' := [(3, .int v16), (2, .int 0), (0, .ref h0), (1, .int x1)]) hx hb dX9_readNumber_28 rfl hl (by decide) rfl (fun ls hl => ?_)
      refine lv_aload_n hx hb dX9_readNumber_29 rfl (lv_at hl 2 rfl) ?_
      refine lv_dup hx hb dX9_readNumber_30 rfl ?_
      refine tz_get (ci := 6) (v := .int v3) (C := RX9) (F := TX9) (N := 5) hx hb hU iX9 hown hK hT 1 rfl rfl 2 (by decide) w123 (fun _ h9 => h9) rfl dX9_readNumber_31 ?_
      refine lv_iconst (v := 1) hx hb dX9_readNumber_34 (by decide) ?_
      refine lv_iadd hx hb dX9_readNumber_35 (lv_topi (fun v17 e_v17 => ?_))
      have e_v17 := ai_add e_v17 rfl li_1 (by omega)
      refine tz_put (ci := 6) (v := .int v17) (ty := .int) (C := RX9) (F := TX9) (N := 5) hx hb hU iX9 tyX9 tyX9_ok nmX9 hown hK hT hS 1 rfl rfl 2 (by decide) w123 (fun _ h9 => h9) rfl (by decide +kernel) rfl rfl (Nat.le_of_ble_eq_true rfl) dX9_readNumber_36 (fun H locs hT hS => ?_)
      have hT : TP D A [(h2, aJ (k 1) 36 anJ), (h0, ob 6 [.ref h1, .int h0f1, .int v17, .int h0f3, .ref h2]), (h1, aI (k 2) 120 anI)] H := hT
      refine lv_aload_n hx hb dX9_readNumber_39 rfl (lv_at hl 2 rfl) ?_
      refine tcI (Tc := [(h0, ob 6 [.ref h1, .int h0f1, .int v17, .int h0f3, .ref h2]), (h1, aI (k 2) 120 anI)]) (Tr := [(h2, aJ (k 1) 36 anJ)]) (as := [h0, h1]) (zcV (q0 := 1) (ci := 6) (As := []) (rest := []) (Tc := [(h0, ob 6 [.ref h1, .int h0f1, .int v17, .int h0f3, .ref h2]), (h1, aI (k 2) 120 anI)]) hx hb hml hown hU hK hT rfl rfl [1, 2] rfl (by decide) (cX9_isDigit_872e6 l D k _ h0 h1 h2 h0f1 v17 h0f3 (by omega) (by omega) (by omega)) w480 w477 w479 w9 w65 hdX9_isDigit ⟨rfl, rfl⟩ ⟨Nat.le_of_ble_eq_true rfl, Nat.le_of_ble_eq_true rfl⟩ rfl hl.1 (Nat.le_of_ble_eq_true rfl) dX9_readNumber_40 ⟨Nat.le_of_ble_eq_true rfl, Nat.le_of_ble_eq_true rfl⟩) hT hS hA [1, 2] [0] rfl rfl rfl (by decide) (by decide) (fun r18 H locs hB J hS => ?_)
      rcases hB with ⟨rfl, hT1⟩ | ⟨v19, v20, b_v19, b_v20, c_21, c_22, c_23, rfl, hT1⟩
      · skip
        have hT := J _ hT1
        have hT : TP D A [(h2, aJ (k 1) 36 anJ), (h0, ob 6 [.ref h1, .int h0f1, .int v17, .int h0f3, .ref h2]), (h1, aI (k 2) 120 anI)] H := hT
        refine lv_if_eq (tgt := 74) hx hb dX9_readNumber_43 (by decide) (fun _ => ?_) (fun cc => absurd (by decide +kernel) cc)
        refine lv_aload_n hx hb dX9_readNumber_74 rfl (lv_at hl 2 rfl) ?_
        refine tz_get (ci := 6) (v := .ref h2) (C := RX9) (F := TX9) (N := 5) hx hb hU iX9 hown hK hT 1 rfl rfl 4 (by decide) w127 (fun _ h9 => h9) rfl dX9_readNumber_75 ?_
        refine lv_iload_n hx hb dX9_readNumber_78 rfl (lv_at hl 3 rfl) ?_
        refine lv_iload_n hx hb dX9_readNumber_79 rfl (lv_at hl 1 rfl) ?_
        refine lv_if_eq (tgt := 89) hx hb dX9_readNumber_80 (by decide) (fun _ => ?_) (fun cc => absurd (by decide +kernel) cc)
        refine lv_iload_n hx hb dX9_readNumber_89 rfl (lv_at hl 0 rfl) ?_
        obtain ⟨v24, e_v24⟩ : ∃ x : Int64, v16.toInt64 = x := ⟨_, rfl⟩
        refine lv_i2l (v := v24) hx hb dX9_readNumber_90 e_v24 ?_
        have e_v24 := ai_i2l e_v24 rfl
        refine tz_last hx hb hK hT hS 0 rfl (by omega) (fun _ _ => trivial) dX9_readNumber_91 (fun H locs hT hS => ?_)
        refine lv_iconst (v := 1) hx hb dX9_readNumber_92 (by decide) ?_
        exact tz_retZ (B := B_cX9_readNumber_23bb0 D k h0 h1 h2 x1 h0f1 h0f2 h0f3) (v := 1) hQ hx hb hr hlocks hS (Nat.le_of_ble_eq_true rfl) (Nat.le_of_ble_eq_true rfl) dX9_readNumber_93 (by have := li_1; omega) (⟨v17, (by have := li_1; omega), (by have := li_1; omega), (hT.sub [1, 2, 0] (by decide) rfl)⟩)
      · skip
        have hT := J _ hT1
        have hT : TP D A [(h2, aJ (k 1) 36 anJ), (h0, ob 6 [.ref h1, .int h0f1, .int v17, .int h0f3, .ref h2]), (h1, aI (k 2) 120 anI)] H := hT
        refine lv_if_eq (tgt := 74) hx hb dX9_readNumber_43 (by decide) (fun cc => absurd cc (by decide +kernel)) (fun _ => ?_)
        refine lv_iload_n hx hb dX9_readNumber_46 rfl (lv_at hl 0 rfl) ?_
        refine lv_bipush (v := 10) hx hb dX9_readNumber_47 (by decide) ?_
        refine lv_imul hx hb dX9_readNumber_49 (lv_topi (fun v25 e_v25 => ?_))
        refine lv_aload_n hx hb dX9_readNumber_50 rfl (lv_at hl 2 rfl) ?_
        refine tz_get (ci := 6) (v := .ref h1) (C := RX9) (F := TX9) (N := 5) hx hb hU iX9 hown hK hT 1 rfl rfl 0 (by decide) w120 (fun _ h9 => h9) rfl dX9_readNumber_51 ?_
        refine lv_aload_n hx hb dX9_readNumber_54 rfl (lv_at hl 2 rfl) ?_
        refine tz_get (ci := 6) (v := .int v17) (C := RX9) (F := TX9) (N := 5) hx hb hU iX9 hown hK hT 1 rfl rfl 2 (by decide) w123 (fun _ h9 => h9) rfl dX9_readNumber_55 ?_
        refine tz_bald hx hb hK hT 2 rfl (by omega) dX9_readNumber_58 (fun v26 e_v26 => ?_)
        clear e_v26
        refine lv_iadd hx hb dX9_readNumber_59 (lv_topi (fun v27 e_v27 => ?_))
        refine lv_bipush (v := 48) hx hb dX9_readNumber_60 (by decide) ?_
        refine lv_isub hx hb dX9_readNumber_62 (lv_topi (fun v28 e_v28 => ?_))
        refine lv_istore_n (lv' := [(3, .int v28), (2, .int 0), (0, .ref h0), (1, .int x1)]) hx hb dX9_readNumber_63 rfl hl (by decide) rfl (fun ls hl => ?_)
        refine lv_aload_n hx hb dX9_readNumber_64 rfl (lv_at hl 2 rfl) ?_
        refine lv_dup hx hb dX9_readNumber_65 rfl ?_
        refine tz_get (ci := 6) (v := .int v17) (C := RX9) (F := TX9) (N := 5) hx hb hU iX9 hown hK hT 1 rfl rfl 2 (by decide) w123 (fun _ h9 => h9) rfl dX9_readNumber_66 ?_
        refine lv_iconst (v := 1) hx hb dX9_readNumber_69 (by decide) ?_
        refine lv_iadd hx hb dX9_readNumber_70 (lv_topi (fun v29 e_v29 => ?_))
        have e_v29 := ai_add e_v29 rfl li_1 (by omega)
        refine tz_put (ci := 6) (v := .int v29) (ty := .int) (C := RX9) (F := TX9) (N := 5) hx hb hU iX9 tyX9 tyX9_ok nmX9 hown hK hT hS 1 rfl rfl 2 (by decide) w123 (fun _ h9 => h9) rfl (by decide +kernel) rfl rfl (Nat.le_of_ble_eq_true rfl) dX9_readNumber_71 (fun H locs hT hS => ?_)
        have hT : TP D A [(h2, aJ (k 1) 36 anJ), (h0, ob 6 [.ref h1, .int h0f1, .int v29, .int h0f3, .ref h2]), (h1, aI (k 2) 120 anI)] H := hT
        refine lv_aload_n hx hb dX9_readNumber_74 rfl (lv_at hl 2 rfl) ?_
        refine tz_get (ci := 6) (v := .ref h2) (C := RX9) (F := TX9) (N := 5) hx hb hU iX9 hown hK hT 1 rfl rfl 4 (by decide) w127 (fun _ h9 => h9) rfl dX9_readNumber_75 ?_
        refine lv_iload_n hx hb dX9_readNumber_78 rfl (lv_at hl 3 rfl) ?_
        refine lv_iload_n hx hb dX9_readNumber_79 rfl (lv_at hl 1 rfl) ?_
        refine lv_if_eq (tgt := 89) hx hb dX9_readNumber_80 (by decide) (fun _ => ?_) (fun cc => absurd (by decide +kernel) cc)
        refine lv_iload_n hx hb dX9_readNumber_89 rfl (lv_at hl 0 rfl) ?_
        obtain ⟨v30, e_v30⟩ : ∃ x : Int64, v28.toInt64 = x := ⟨_, rfl⟩
        refine lv_i2l (v := v30) hx hb dX9_readNumber_90 e_v30 ?_
        have e_v30 := ai_i2l e_v30 rfl
        refine tz_last hx hb hK hT hS 0 rfl (by omega) (fun _ _ => trivial) dX9_readNumber_91 (fun H locs hT hS => ?_)
        refine lv_iconst (v := 1) hx hb dX9_readNumber_92 (by decide) ?_
        exact tz_retZ (B := B_cX9_readNumber_23bb0 D k h0 h1 h2 x1 h0f1 h0f2 h0f3) (v := 1) hQ hx hb hr hlocks hS (Nat.le_of_ble_eq_true rfl) (Nat.le_of_ble_eq_true rfl) dX9_readNumber_93 (by have := li_1; omega) (⟨v29, (by have := li_1; omega), (by have := li_1; omega), (hT.sub [1, 2, 0] (by decide) rfl)⟩)
  · skip
    have hT := J _ hT1
    have hT : TP D A [(h2, aJ (k 1) 36 anJ), (h0, ob 6 [.ref h1, .int h0f1, .int v4, .int h0f3, .ref h2]), (h1, aI (k 2) 120 anI)] H := hT
    refine lv_istore_n (lv' := [(2, .int 1), (0, .ref h0), (1, .int x1)]) hx hb dX9_readNumber_6 rfl hl (by decide) rfl (fun ls hl => ?_)
    refine lv_aload_n hx hb dX9_readNumber_7 rfl (lv_at hl 1 rfl) ?_
    refine tcI (Tc := [(h0, ob 6 [.ref h1, .int h0f1, .int v4, .int h0f3, .ref h2]), (h1, aI (k 2) 120 anI)]) (Tr := [(h2, aJ (k 1) 36 anJ)]) (as := [h0, h1]) (zcV (q0 := 1) (ci := 6) (As := []) (rest := []) (Tc := [(h0, ob 6 [.ref h1, .int h0f1, .int v4, .int h0f3, .ref h2]), (h1, aI (k 2) 120 anI)]) hx hb hml hown hU hK hT rfl rfl [1, 2] rfl (by decide) (cX9_isDigit_872e6 l D k _ h0 h1 h2 h0f1 v4 h0f3 (by omega) (by omega) (by omega)) w480 w477 w479 w9 w65 hdX9_isDigit ⟨rfl, rfl⟩ ⟨Nat.le_of_ble_eq_true rfl, Nat.le_of_ble_eq_true rfl⟩ rfl hl.1 (Nat.le_of_ble_eq_true rfl) dX9_readNumber_8 ⟨Nat.le_of_ble_eq_true rfl, Nat.le_of_ble_eq_true rfl⟩) hT hS hA [1, 2] [0] rfl rfl rfl (by decide) (by decide) (fun r31 H locs hB J hS => ?_)
    rcases hB with ⟨rfl, hT1⟩ | ⟨v32, v33, b_v32, b_v33, c_34, c_35, c_36, rfl, hT1⟩
    · skip
      have hT := J _ hT1
      have hT : TP D A [(h2, aJ (k 1) 36 anJ), (h0, ob 6 [.ref h1, .int h0f1, .int v4, .int h0f3, .ref h2]), (h1, aI (k 2) 120 anI)] H := hT
      refine lv_if_ne (tgt := 16) hx hb dX9_readNumber_11 (by decide) (fun cc => absurd (by decide +kernel) cc) (fun _ => ?_)
      refine lv_iconst (v := 0) hx hb dX9_readNumber_14 (by decide) ?_
      exact tz_retZ (B := B_cX9_readNumber_23bb0 D k h0 h1 h2 x1 h0f1 h0f2 h0f3) (v := 0) hQ hx hb hr hlocks hS (Nat.le_of_ble_eq_true rfl) (Nat.le_of_ble_eq_true rfl) dX9_readNumber_15 (by have := li_0; omega) (⟨v4, (by have := li_0; omega), (by have := li_0; omega), (hT.sub [1, 2, 0] (by decide) rfl)⟩)
    · skip
      have hT := J _ hT1
      have hT : TP D A [(h2, aJ (k 1) 36 anJ), (h0, ob 6 [.ref h1, .int h0f1, .int v4, .int h0f3, .ref h2]), (h1, aI (k 2) 120 anI)] H := hT
      refine lv_if_ne (tgt := 16) hx hb dX9_readNumber_11 (by decide) (fun _ => ?_) (fun cc => absurd cc (by decide +kernel))
      refine lv_aload_n hx hb dX9_readNumber_16 rfl (lv_at hl 1 rfl) ?_
      refine tz_get (ci := 6) (v := .ref h1) (C := RX9) (F := TX9) (N := 5) hx hb hU iX9 hown hK hT 1 rfl rfl 0 (by decide) w120 (fun _ h9 => h9) rfl dX9_readNumber_17 ?_
      refine lv_aload_n hx hb dX9_readNumber_20 rfl (lv_at hl 1 rfl) ?_
      refine tz_get (ci := 6) (v := .int v4) (C := RX9) (F := TX9) (N := 5) hx hb hU iX9 hown hK hT 1 rfl rfl 2 (by decide) w123 (fun _ h9 => h9) rfl dX9_readNumber_21 ?_
      refine tz_bald hx hb hK hT 2 rfl (by omega) dX9_readNumber_24 (fun v37 e_v37 => ?_)
      clear e_v37
      refine lv_bipush (v := 48) hx hb dX9_readNumber_25 (by decide) ?_
      refine lv_isub hx hb dX9_readNumber_27 (lv_topi (fun v38 e_v38 => ?_))
      refine lv_istore_n (lv' := [(3, .int v38), (2, .int 1), (0, .ref h0), (1, .int x1)]) hx hb dX9_readNumber_28 rfl hl (by decide) rfl (fun ls hl => ?_)
      refine lv_aload_n hx hb dX9_readNumber_29 rfl (lv_at hl 2 rfl) ?_
      refine lv_dup hx hb dX9_readNumber_30 rfl ?_
      refine tz_get (ci := 6) (v := .int v4) (C := RX9) (F := TX9) (N := 5) hx hb hU iX9 hown hK hT 1 rfl rfl 2 (by decide) w123 (fun _ h9 => h9) rfl dX9_readNumber_31 ?_
      refine lv_iconst (v := 1) hx hb dX9_readNumber_34 (by decide) ?_
      refine lv_iadd hx hb dX9_readNumber_35 (lv_topi (fun v39 e_v39 => ?_))
      have e_v39 := ai_add e_v39 rfl li_1 (by omega)
      refine tz_put (ci := 6) (v := .int v39) (ty := .int) (C := RX9) (F := TX9) (N := 5) hx hb hU iX9 tyX9 tyX9_ok nmX9 hown hK hT hS 1 rfl rfl 2 (by decide) w123 (fun _ h9 => h9) rfl (by decide +kernel) rfl rfl (Nat.le_of_ble_eq_true rfl) dX9_readNumber_36 (fun H locs hT hS => ?_)
      have hT : TP D A [(h2, aJ (k 1) 36 anJ), (h0, ob 6 [.ref h1, .int h0f1, .int v39, .int h0f3, .ref h2]), (h1, aI (k 2) 120 anI)] H := hT
      refine lv_aload_n hx hb dX9_readNumber_39 rfl (lv_at hl 2 rfl) ?_
      refine tcI (Tc := [(h0, ob 6 [.ref h1, .int h0f1, .int v39, .int h0f3, .ref h2]), (h1, aI (k 2) 120 anI)]) (Tr := [(h2, aJ (k 1) 36 anJ)]) (as := [h0, h1]) (zcV (q0 := 1) (ci := 6) (As := []) (rest := []) (Tc := [(h0, ob 6 [.ref h1, .int h0f1, .int v39, .int h0f3, .ref h2]), (h1, aI (k 2) 120 anI)]) hx hb hml hown hU hK hT rfl rfl [1, 2] rfl (by decide) (cX9_isDigit_872e6 l D k _ h0 h1 h2 h0f1 v39 h0f3 (by omega) (by omega) (by omega)) w480 w477 w479 w9 w65 hdX9_isDigit ⟨rfl, rfl⟩ ⟨Nat.le_of_ble_eq_true rfl, Nat.le_of_ble_eq_true rfl⟩ rfl hl.1 (Nat.le_of_ble_eq_true rfl) dX9_readNumber_40 ⟨Nat.le_of_ble_eq_true rfl, Nat.le_of_ble_eq_true rfl⟩) hT hS hA [1, 2] [0] rfl rfl rfl (by decide) (by decide) (fun r40 H locs hB J hS => ?_)
      rcases hB with ⟨rfl, hT1⟩ | ⟨v41, v42, b_v41, b_v42, c_43, c_44, c_45, rfl, hT1⟩
      · skip
        have hT := J _ hT1
        have hT : TP D A [(h2, aJ (k 1) 36 anJ), (h0, ob 6 [.ref h1, .int h0f1, .int v39, .int h0f3, .ref h2]), (h1, aI (k 2) 120 anI)] H := hT
        refine lv_if_eq (tgt := 74) hx hb dX9_readNumber_43 (by decide) (fun _ => ?_) (fun cc => absurd (by decide +kernel) cc)
        refine lv_aload_n hx hb dX9_readNumber_74 rfl (lv_at hl 2 rfl) ?_
        refine tz_get (ci := 6) (v := .ref h2) (C := RX9) (F := TX9) (N := 5) hx hb hU iX9 hown hK hT 1 rfl rfl 4 (by decide) w127 (fun _ h9 => h9) rfl dX9_readNumber_75 ?_
        refine lv_iload_n hx hb dX9_readNumber_78 rfl (lv_at hl 3 rfl) ?_
        refine lv_iload_n hx hb dX9_readNumber_79 rfl (lv_at hl 1 rfl) ?_
        refine lv_if_eq (tgt := 89) hx hb dX9_readNumber_80 (by decide) (fun cc => absurd cc (by decide +kernel)) (fun _ => ?_)
        refine lv_iload_n hx hb dX9_readNumber_83 rfl (lv_at hl 0 rfl) ?_
        refine lv_ineg hx hb dX9_readNumber_84 (lv_topi (fun v46 e_v46 => ?_))
        obtain ⟨v47, e_v47⟩ : ∃ x : Int64, v46.toInt64 = x := ⟨_, rfl⟩
        refine lv_i2l (v := v47) hx hb dX9_readNumber_85 e_v47 ?_
        have e_v47 := ai_i2l e_v47 rfl
        refine lv_goto (tgt := 91) hx hb dX9_readNumber_86 (by decide) ?_
        refine tz_last hx hb hK hT hS 0 rfl (by omega) (fun _ _ => trivial) dX9_readNumber_91 (fun H locs hT hS => ?_)
        refine lv_iconst (v := 1) hx hb dX9_readNumber_92 (by decide) ?_
        exact tz_retZ (B := B_cX9_readNumber_23bb0 D k h0 h1 h2 x1 h0f1 h0f2 h0f3) (v := 1) hQ hx hb hr hlocks hS (Nat.le_of_ble_eq_true rfl) (Nat.le_of_ble_eq_true rfl) dX9_readNumber_93 (by have := li_1; omega) (⟨v39, (by have := li_1; omega), (by have := li_1; omega), (hT.sub [1, 2, 0] (by decide) rfl)⟩)
      · skip
        have hT := J _ hT1
        have hT : TP D A [(h2, aJ (k 1) 36 anJ), (h0, ob 6 [.ref h1, .int h0f1, .int v39, .int h0f3, .ref h2]), (h1, aI (k 2) 120 anI)] H := hT
        refine lv_if_eq (tgt := 74) hx hb dX9_readNumber_43 (by decide) (fun cc => absurd cc (by decide +kernel)) (fun _ => ?_)
        refine lv_iload_n hx hb dX9_readNumber_46 rfl (lv_at hl 0 rfl) ?_
        refine lv_bipush (v := 10) hx hb dX9_readNumber_47 (by decide) ?_
        refine lv_imul hx hb dX9_readNumber_49 (lv_topi (fun v48 e_v48 => ?_))
        refine lv_aload_n hx hb dX9_readNumber_50 rfl (lv_at hl 2 rfl) ?_
        refine tz_get (ci := 6) (v := .ref h1) (C := RX9) (F := TX9) (N := 5) hx hb hU iX9 hown hK hT 1 rfl rfl 0 (by decide) w120 (fun _ h9 => h9) rfl dX9_readNumber_51 ?_
        refine lv_aload_n hx hb dX9_readNumber_54 rfl (lv_at hl 2 rfl) ?_
        refine tz_get (ci := 6) (v := .int v39) (C := RX9) (F := TX9) (N := 5) hx hb hU iX9 hown hK hT 1 rfl rfl 2 (by decide) w123 (fun _ h9 => h9) rfl dX9_readNumber_55 ?_
        refine tz_bald hx hb hK hT 2 rfl (by omega) dX9_readNumber_58 (fun v49 e_v49 => ?_)
        clear e_v49
        refine lv_iadd hx hb dX9_readNumber_59 (lv_topi (fun v50 e_v50 => ?_))
        refine lv_bipush (v := 48) hx hb dX9_readNumber_60 (by decide) ?_
        refine lv_isub hx hb dX9_readNumber_62 (lv_topi (fun v51 e_v51 => ?_))
        refine lv_istore_n (lv' := [(3, .int v51), (2, .int 1), (0, .ref h0), (1, .int x1)]) hx hb dX9_readNumber_63 rfl hl (by decide) rfl (fun ls hl => ?_)
        refine lv_aload_n hx hb dX9_readNumber_64 rfl (lv_at hl 2 rfl) ?_
        refine lv_dup hx hb dX9_readNumber_65 rfl ?_
        refine tz_get (ci := 6) (v := .int v39) (C := RX9) (F := TX9) (N := 5) hx hb hU iX9 hown hK hT 1 rfl rfl 2 (by decide) w123 (fun _ h9 => h9) rfl dX9_readNumber_66 ?_
        refine lv_iconst (v := 1) hx hb dX9_readNumber_69 (by decide) ?_
        refine lv_iadd hx hb dX9_readNumber_70 (lv_topi (fun v52 e_v52 => ?_))
        have e_v52 := ai_add e_v52 rfl li_1 (by omega)
        refine tz_put (ci := 6) (v := .int v52) (ty := .int) (C := RX9) (F := TX9) (N := 5) hx hb hU iX9 tyX9 tyX9_ok nmX9 hown hK hT hS 1 rfl rfl 2 (by decide) w123 (fun _ h9 => h9) rfl (by decide +kernel) rfl rfl (Nat.le_of_ble_eq_true rfl) dX9_readNumber_71 (fun H locs hT hS => ?_)
        have hT : TP D A [(h2, aJ (k 1) 36 anJ), (h0, ob 6 [.ref h1, .int h0f1, .int v52, .int h0f3, .ref h2]), (h1, aI (k 2) 120 anI)] H := hT
        refine lv_aload_n hx hb dX9_readNumber_74 rfl (lv_at hl 2 rfl) ?_
        refine tz_get (ci := 6) (v := .ref h2) (C := RX9) (F := TX9) (N := 5) hx hb hU iX9 hown hK hT 1 rfl rfl 4 (by decide) w127 (fun _ h9 => h9) rfl dX9_readNumber_75 ?_
        refine lv_iload_n hx hb dX9_readNumber_78 rfl (lv_at hl 3 rfl) ?_
        refine lv_iload_n hx hb dX9_readNumber_79 rfl (lv_at hl 1 rfl) ?_
        refine lv_if_eq (tgt := 89) hx hb dX9_readNumber_80 (by decide) (fun cc => absurd cc (by decide +kernel)) (fun _ => ?_)
        refine lv_iload_n hx hb dX9_readNumber_83 rfl (lv_at hl 0 rfl) ?_
        refine lv_ineg hx hb dX9_readNumber_84 (lv_topi (fun v53 e_v53 => ?_))
        obtain ⟨v54, e_v54⟩ : ∃ x : Int64, v53.toInt64 = x := ⟨_, rfl⟩
        refine lv_i2l (v := v54) hx hb dX9_readNumber_85 e_v54 ?_
        have e_v54 := ai_i2l e_v54 rfl
        refine lv_goto (tgt := 91) hx hb dX9_readNumber_86 (by decide) ?_
        refine tz_last hx hb hK hT hS 0 rfl (by omega) (fun _ _ => trivial) dX9_readNumber_91 (fun H locs hT hS => ?_)
        refine lv_iconst (v := 1) hx hb dX9_readNumber_92 (by decide) ?_
        exact tz_retZ (B := B_cX9_readNumber_23bb0 D k h0 h1 h2 x1 h0f1 h0f2 h0f3) (v := 1) hQ hx hb hr hlocks hS (Nat.le_of_ble_eq_true rfl) (Nat.le_of_ble_eq_true rfl) dX9_readNumber_93 (by have := li_1; omega) (⟨v52, (by have := li_1; omega), (by have := li_1; omega), (hT.sub [1, 2, 0] (by decide) rfl)⟩)
abbrev Rm_cX7_hasWholeInverse_e20f0 : Room := { frames := 2, cells := 0, slots := 0, locals := 54 }
abbrev B_cX7_hasWholeInverse_e20f0 (D : va_G) (k : Nat → ClassId) (h0 : Nat) (x1 : Int32) (x2 : Int32) (A : Nat → Prop) (r : Int32) (H : Heap) : Prop := (0 ≤ r.toInt ∧ r.toInt ≤ 1) ∧ TP D A [(h0, aJ (k 1) 36 anJ)] H
set_option maxHeartbeats 4000000 in
set_option maxRecDepth 100000 in
theorem cX7_hasWholeInverse_e20f0 (l : Launch) (D : va_G) (k : Nat → ClassId) (sz : Nat) (h0 : Nat) (x1 : Int32) (x2 : Int32) (b_x1 : 0 ≤ x1.toInt ∧ x1.toInt ≤ 27) (b_x2 : 1 ≤ x2.toInt ∧ x2.toInt ≤ 3) : Met l yX7_hasWholeInverse (Cond.code yX7_hasWholeInverse cX7_hasWholeInverse 5 (some .boolean) :: uw) Rm_cX7_hasWholeInverse_e20f0 (pT D k sz [.ref h0, .int x1, .int x2] [(h0, aJ (k 1) 36 anJ)]) (qI (B_cX7_hasWholeInverse_e20f0 D k h0 x1 x2 (zA [h0] sz)) (zA [h0] sz)) 0 0 (zA [h0] sz) := by
  refine tz_begin (as := [h0]) (Qc := fun A => qI (B_cX7_hasWholeInverse_e20f0 D k h0 x1 x2 A) A) (by decide +kernel) rfl (Nat.le_of_ble_eq_true rfl) ?_
  intro p e s m args below meth c ls A Q hx hb hr hml hown hlocks hin hU hK hT hS hA hl hQ
  have hl : lv_has ls 5 [(0, .ref h0), (1, .int x1), (2, .int x2)] := hl
  have hT : TP D A [(h0, aJ (k 1) 36 anJ)] s.heap := hT
  refine lv_aload_n hx hb dX7_hasWholeInverse_0 rfl (lv_at hl 0 rfl) ?_
  refine lv_iload_n hx hb dX7_hasWholeInverse_1 rfl (lv_at hl 1 rfl) ?_
  refine lv_iload_n hx hb dX7_hasWholeInverse_2 rfl (lv_at hl 2 rfl) ?_
  refine lv_iload_n hx hb dX7_hasWholeInverse_3 rfl (lv_at hl 2 rfl) ?_
  refine tcL (Tc := [(h0, aJ (k 1) 36 anJ)]) (Tr := []) (as := [h0]) (zcS (As := [.ref h0, .int x1, .int x2, .int x2]) (rest := []) (Tc := [(h0, aJ (k 1) 36 anJ)]) hx hb hml hown hU hK hT [0] rfl (by decide) (cX7_determinant_05929 l D k _ h0 x1 x2 x2 (by omega) (by omega) (by omega)) w372 w370 w371 w74 hdX7_determinant ⟨rfl, rfl⟩ ⟨Nat.le_of_ble_eq_true rfl, Nat.le_of_ble_eq_true rfl⟩ rfl hl.1 (Nat.le_of_ble_eq_true rfl) dX7_hasWholeInverse_4 ⟨Nat.le_of_ble_eq_true rfl, Nat.le_of_ble_eq_true rfl⟩) hT hS hA [0] [] rfl rfl rfl (by decide) (by decide) (fun r1 H locs hB J hS => ?_)
  have hT1 := hB
  have hT := J _ hT1
  have hT : TP D A [(h0, aJ (k 1) 36 anJ)] H := hT
  refine lv_lstore_n (lv' := [(3, .long r1), (0, .ref h0), (1, .int x1), (2, .int x2)]) hx hb dX7_hasWholeInverse_7 rfl hl (by decide) rfl (fun ls hl => ?_)
  refine lv_lload_n hx hb dX7_hasWholeInverse_8 rfl (lv_at hl 0 rfl) ?_
  refine lv_lconst (v := 1) hx hb dX7_hasWholeInverse_9 (by decide) ?_
  refine W.lcmp hx hb dX7_hasWholeInverse_10 ?_
  refine lv_if_eq (tgt := 22) hx hb dX7_hasWholeInverse_11 (by decide) (fun c_2 => ?_) (fun c_2 => ?_)
  · skip
    have c_2 := nl_eq c_2 rfl ll_1
    refine lv_iconst (v := 1) hx hb dX7_hasWholeInverse_22 (by decide) ?_
    refine lv_goto (tgt := 27) hx hb dX7_hasWholeInverse_23 (by decide) ?_
    exact tz_retZ (B := B_cX7_hasWholeInverse_e20f0 D k h0 x1 x2) (v := 1) hQ hx hb hr hlocks hS (Nat.le_of_ble_eq_true rfl) (Nat.le_of_ble_eq_true rfl) dX7_hasWholeInverse_27 (by have := li_1; omega) (⟨(by have := li_1; omega), hT⟩)
  · skip
    have c_2 := nl_ne c_2 rfl ll_1
    refine lv_lload_n hx hb dX7_hasWholeInverse_14 rfl (lv_at hl 0 rfl) ?_
    refine lv_ldc2 hx hb hown (hU _ w484) dX7_hasWholeInverse_15 ?_
    refine W.lcmp hx hb dX7_hasWholeInverse_18 ?_
    refine lv_if_ne (tgt := 26) hx hb dX7_hasWholeInverse_19 (by decide) (fun c_3 => ?_) (fun c_3 => ?_)
    · skip
      have c_3 := nl_ne c_3 rfl ll_m1
      refine lv_iconst (v := 0) hx hb dX7_hasWholeInverse_26 (by decide) ?_
      exact tz_retZ (B := B_cX7_hasWholeInverse_e20f0 D k h0 x1 x2) (v := 0) hQ hx hb hr hlocks hS (Nat.le_of_ble_eq_true rfl) (Nat.le_of_ble_eq_true rfl) dX7_hasWholeInverse_27 (by have := li_0; omega) (⟨(by have := li_0; omega), hT⟩)
    · skip
      have c_3 := nl_eq c_3 rfl ll_m1
      refine lv_iconst (v := 1) hx hb dX7_hasWholeInverse_22 (by decide) ?_
      refine lv_goto (tgt := 27) hx hb dX7_hasWholeInverse_23 (by decide) ?_
      exact tz_retZ (B := B_cX7_hasWholeInverse_e20f0 D k h0 x1 x2) (v := 1) hQ hx hb hr hlocks hS (Nat.le_of_ble_eq_true rfl) (Nat.le_of_ble_eq_true rfl) dX7_hasWholeInverse_27 (by have := li_1; omega) (⟨(by have := li_1; omega), hT⟩)
abbrev Rm_cX9_readMatrix_f7444 : Room := { frames := 3, cells := 0, slots := 0, locals := 78 }
abbrev B_cX9_readMatrix_f7444 (D : va_G) (k : Nat → ClassId) (h0 h1 h2 : Nat) (x1 : Int32) (h0f1 : Int32) (h0f2 : Int32) (h0f3 : Int32) (A : Nat → Prop) (r : Int32) (H : Heap) : Prop := ∃ o0 : Int32, (0 ≤ o0.toInt ∧ o0.toInt ≤ 120) ∧ (0 ≤ r.toInt ∧ r.toInt ≤ 1) ∧ TP D A [(h0, ob 6 [.ref h1, .int h0f1, .int o0, .int h0f3, .ref h2]), (h1, aI (k 2) 120 anI), (h2, aJ (k 1) 36 anJ)] H
set_option maxHeartbeats 4000000 in
set_option maxRecDepth 100000 in
theorem cX9_readMatrix_f7444 (l : Launch) (D : va_G) (k : Nat → ClassId) (sz : Nat) (h0 h1 h2 : Nat) (x1 : Int32) (h0f1 : Int32) (h0f2 : Int32) (h0f3 : Int32) (b_x1 : 1 ≤ x1.toInt ∧ x1.toInt ≤ 3) (b_h0f1 : 1 ≤ h0f1.toInt ∧ h0f1.toInt ≤ 120) (b_h0f2 : 0 ≤ h0f2.toInt ∧ h0f2.toInt ≤ 119) (b_h0f3 : 0 ≤ h0f3.toInt ∧ h0f3.toInt ≤ 3) : Met l yX9_readMatrix (Cond.code yX9_readMatrix cX9_readMatrix 4 (some .boolean) :: uw) Rm_cX9_readMatrix_f7444 (pT D k sz [.ref h0, .int x1] [(h0, ob 6 [.ref h1, .int h0f1, .int h0f2, .int h0f3, .ref h2]), (h1, aI (k 2) 120 anI), (h2, aJ (k 1) 36 anJ)]) (qI (B_cX9_readMatrix_f7444 D k h0 h1 h2 x1 h0f1 h0f2 h0f3 (zA [h0, h1, h2] sz)) (zA [h0, h1, h2] sz)) 0 0 (zA [h0, h1, h2] sz) := by
  refine tz_begin (as := [h0, h1, h2]) (Qc := fun A => qI (B_cX9_readMatrix_f7444 D k h0 h1 h2 x1 h0f1 h0f2 h0f3 A) A) (by decide +kernel) rfl (Nat.le_of_ble_eq_true rfl) ?_
  intro p e s m args below meth c ls A Q hx hb hr hml hown hlocks hin hU hK hT hS hA hl hQ
  have hl : lv_has ls 4 [(0, .ref h0), (1, .int x1)] := hl
  have hT : TP D A [(h0, ob 6 [.ref h1, .int h0f1, .int h0f2, .int h0f3, .ref h2]), (h1, aI (k 2) 120 anI), (h2, aJ (k 1) 36 anJ)] s.heap := hT
  refine lv_iconst (v := 0) hx hb dX9_readMatrix_0 (by decide) ?_
  refine lv_istore_n (lv' := [(2, .int 0), (0, .ref h0), (1, .int x1)]) hx hb dX9_readMatrix_1 rfl hl (by decide) rfl (fun ls hl => ?_)
  have lp2_7 : ∀ (n : Nat) (y5 : Int32) (y6 : Int32) (H : Heap) (locs : List Loc) (ls : Array Slot), (0 ≤ y5.toInt ∧ y5.toInt ≤ 3) → (0 ≤ y6.toInt ∧ y6.toInt ≤ 120) → (3 - y5.toInt).toNat < n → TP D A [(h0, ob 6 [.ref h1, .int h0f1, .int y6, .int h0f3, .ref h2]), (h1, aI (k 2) 120 anI), (h2, aJ (k 1) 36 anJ)] H → va_S A s.heap H locs → lv_has ls 4 [(0, .ref h0), (1, .int x1), (2, .int y5)] → W p l e Rm_cX9_readMatrix_f7444 s m args below meth c H locs 0 0 Q (F0 m 2 ls []) := by
    intro n
    induction n with
    | zero => intro y5 y6 H locs ls b_y5 b_y6 hm hT hS hl; exact absurd hm (Nat.not_lt_zero _)
    | succ n ih =>
      intro y5 y6 H locs ls b_y5 b_y6 hm hT hS hl
      have ih2_7 := ih
      clear ih
      have lp24_15 : ∀ (n : Nat) (y13 : Int32) (y14 : Int32) (H : Heap) (locs : List Loc) (ls : Array Slot), (0 ≤ y13.toInt ∧ y13.toInt ≤ 3) → (0 ≤ y14.toInt ∧ y14.toInt ≤ 120) → (0 ≤ y5.toInt ∧ y5.toInt ≤ 2) → (x1.toInt + (-1) * y13.toInt + 1).toNat < n → TP D A [(h0, ob 6 [.ref h1, .int h0f1, .int y14, .int h0f3, .ref h2]), (h1, aI (k 2) 120 anI), (h2, aJ (k 1) 36 anJ)] H → va_S A s.heap H locs → lv_has ls 4 [(0, .ref h0), (1, .int x1), (2, .int y5), (3, .int y13)] → W p l e Rm_cX9_readMatrix_f7444 s m args below meth c H locs 0 0 Q (F0 m 24 ls []) := by
        intro n
        induction n with
        | zero => intro y13 y14 H locs ls b_y13 b_y14 b_y5 hm hT hS hl; exact absurd hm (Nat.not_lt_zero _)
        | succ n ih =>
          intro y13 y14 H locs ls b_y13 b_y14 b_y5 hm hT hS hl
          have ih24_15 := ih
          clear ih
          refine lv_iload_n hx hb dX9_readMatrix_24 rfl (lv_at hl 3 rfl) ?_
          refine lv_iload_n hx hb dX9_readMatrix_25 rfl (lv_at hl 1 rfl) ?_
          refine lv_icmp_ge (tgt := 57) hx hb dX9_readMatrix_26 (by decide) (fun c_16 => ?_) (fun c_16 => ?_)
          · skip
            have c_16 := ni_le c_16 rfl rfl
            obtain ⟨v17, e_v17⟩ : ∃ x : Int32, x = y5 + Int32.ofInt 1 := ⟨_, rfl⟩
            have f_v17 := e_v17.symm
            have e_v17 : v17.toInt = y5.toInt + 1 := ai_add e_v17 rfl (show (Int32.ofInt 1).toInt = 1 from (by decide +kernel)) (by omega)
            refine lv_iinc (v := v17) (lv' := [(2, .int v17), (0, .ref h0), (1, .int x1), (3, .int y13)]) hx hb dX9_readMatrix_57 hl (k := 2) rfl f_v17 (by decide) rfl (fun ls hl => ?_)
            refine lv_goto (tgt := 2) hx hb dX9_readMatrix_60 (by decide) ?_
            exact ih2_7 v17 y14 _ _ _ (by omega) (by omega)  (by omega) hT hS (lv_sub hl [1, 2, 0] rfl)
          · skip
            have c_16 := ni_nle c_16 rfl rfl
            refine lv_aload_n hx hb dX9_readMatrix_29 rfl (lv_at hl 0 rfl) ?_
            refine lv_aload_n hx hb dX9_readMatrix_30 rfl (lv_at hl 0 rfl) ?_
            refine tz_get (ci := 6) (v := .int h0f3) (C := RX9) (F := TX9) (N := 5) hx hb hU iX9 hown hK hT 0 rfl rfl 3 (by decide) w125 (fun _ h9 => h9) rfl dX9_readMatrix_31 ?_
            refine lv_bipush (v := 9) hx hb dX9_readMatrix_34 (by decide) ?_
            refine lv_imul hx hb dX9_readMatrix_36 (lv_topi (fun v18 e_v18 => ?_))
            have e_v18 := ai_mul e_v18 rfl li_9 (by omega)
            refine lv_iload_n hx hb dX9_readMatrix_37 rfl (lv_at hl 2 rfl) ?_
            refine lv_iload_n hx hb dX9_readMatrix_38 rfl (lv_at hl 1 rfl) ?_
            refine lv_imul hx hb dX9_readMatrix_39 (lv_topi (fun v19 e_v19 => ?_))
            have e_v19 := ai_mm (la := 0) (ua := 2) (lb := 1) (ub := 3) e_v19 rfl rfl (by omega) (by decide)
            refine lv_iadd hx hb dX9_readMatrix_40 (lv_topi (fun v20 e_v20 => ?_))
            have e_v20 := ai_add e_v20 rfl rfl (by omega)
            refine lv_iload_n hx hb dX9_readMatrix_41 rfl (lv_at hl 3 rfl) ?_
            refine lv_iadd hx hb dX9_readMatrix_42 (lv_topi (fun v21 e_v21 => ?_))
            have e_v21 := ai_add e_v21 rfl rfl (by omega)
            refine tcI (Tc := [(h0, ob 6 [.ref h1, .int h0f1, .int y14, .int h0f3, .ref h2]), (h1, aI (k 2) 120 anI), (h2, aJ (k 1) 36 anJ)]) (Tr := []) (as := [h0, h1, h2]) (zcV (q0 := 0) (ci := 6) (As := [.int v21]) (rest := []) (Tc := [(h0, ob 6 [.ref h1, .int h0f1, .int y14, .int h0f3, .ref h2]), (h1, aI (k 2) 120 anI), (h2, aJ (k 1) 36 anJ)]) hx hb hml hown hU hK hT rfl rfl [0, 1, 2] rfl (by decide) (cX9_readNumber_23bb0 l D k _ h0 h1 h2 v21 h0f1 y14 h0f3 (by omega) (by omega) (by omega) (by omega)) w476 w473 w475 w8 w65 hdX9_readNumber ⟨rfl, rfl⟩ ⟨Nat.le_of_ble_eq_true rfl, Nat.le_of_ble_eq_true rfl⟩ rfl hl.1 (Nat.le_of_ble_eq_true rfl) dX9_readMatrix_43 ⟨Nat.le_of_ble_eq_true rfl, Nat.le_of_ble_eq_true rfl⟩) hT hS hA [0, 1, 2] [] rfl rfl rfl (by decide) (by decide) (fun r22 H locs hB J hS => ?_)
            obtain ⟨v23, b_v23, b_r22, hT1⟩ := hB
            have hT := J _ hT1
            have hT : TP D A [(h0, ob 6 [.ref h1, .int h0f1, .int v23, .int h0f3, .ref h2]), (h1, aI (k 2) 120 anI), (h2, aJ (k 1) 36 anJ)] H := hT
            refine lv_if_ne (tgt := 51) hx hb dX9_readMatrix_46 (by decide) (fun c_24 => ?_) (fun c_24 => ?_)
            · skip
              have c_24 := ni_ne c_24 rfl li_0
              obtain ⟨v25, e_v25⟩ : ∃ x : Int32, x = y13 + Int32.ofInt 1 := ⟨_, rfl⟩
              have f_v25 := e_v25.symm
              have e_v25 : v25.toInt = y13.toInt + 1 := ai_add e_v25 rfl (show (Int32.ofInt 1).toInt = 1 from (by decide +kernel)) (by omega)
              refine lv_iinc (v := v25) (lv' := [(3, .int v25), (0, .ref h0), (1, .int x1), (2, .int y5)]) hx hb dX9_readMatrix_51 hl (k := 3) rfl f_v25 (by decide) rfl (fun ls hl => ?_)
              refine lv_goto (tgt := 24) hx hb dX9_readMatrix_54 (by decide) ?_
              exact ih24_15 v25 v23 _ _ _ (by omega) (by omega) (by omega)  (by omega) hT hS (lv_sub hl [1, 2, 3, 0] rfl)
            · skip
              have c_24 := ni_eq c_24 rfl li_0
              refine lv_iconst (v := 0) hx hb dX9_readMatrix_49 (by decide) ?_
              exact tz_retZ (B := B_cX9_readMatrix_f7444 D k h0 h1 h2 x1 h0f1 h0f2 h0f3) (v := 0) hQ hx hb hr hlocks hS (Nat.le_of_ble_eq_true rfl) (Nat.le_of_ble_eq_true rfl) dX9_readMatrix_50 (by have := li_0; omega) (⟨v23, (by have := li_0; omega), (by have := li_0; omega), hT⟩)
      refine lv_iload_n hx hb dX9_readMatrix_2 rfl (lv_at hl 2 rfl) ?_
      refine lv_iload_n hx hb dX9_readMatrix_3 rfl (lv_at hl 1 rfl) ?_
      refine lv_icmp_ge (tgt := 63) hx hb dX9_readMatrix_4 (by decide) (fun c_26 => ?_) (fun c_26 => ?_)
      · skip
        have c_26 := ni_le c_26 rfl rfl
        refine lv_aload_n hx hb dX9_readMatrix_63 rfl (lv_at hl 0 rfl) ?_
        refine tcV (Tc := [(h0, ob 6 [.ref h1, .int h0f1, .int y6, .int h0f3, .ref h2]), (h1, aI (k 2) 120 anI)]) (Tr := [(h2, aJ (k 1) 36 anJ)]) (as := [h0, h1]) (zcV (q0 := 0) (ci := 6) (As := []) (rest := []) (Tc := [(h0, ob 6 [.ref h1, .int h0f1, .int y6, .int h0f3, .ref h2]), (h1, aI (k 2) 120 anI)]) hx hb hml hown hU hK hT rfl rfl [0, 1] rfl (by decide) (cX9_skipBlanks_4b650 l D k _ h0 h1 h2 h0f1 y6 h0f3 (by omega) (by omega) (by omega)) w464 w461 w463 w5 w65 hdX9_skipBlanks ⟨rfl, rfl⟩ ⟨Nat.le_of_ble_eq_true rfl, Nat.le_of_ble_eq_true rfl⟩ rfl hl.1 (Nat.le_of_ble_eq_true rfl) dX9_readMatrix_64 ⟨Nat.le_of_ble_eq_true rfl, Nat.le_of_ble_eq_true rfl⟩) hT hS hA [0, 1] [2] rfl rfl rfl (by decide) (by decide) (fun H locs hB J hS => ?_)
        obtain ⟨v28, b_v28, hT1⟩ := hB
        have hT := J _ hT1
        have hT : TP D A [(h2, aJ (k 1) 36 anJ), (h0, ob 6 [.ref h1, .int h0f1, .int v28, .int h0f3, .ref h2]), (h1, aI (k 2) 120 anI)] H := hT
        refine lv_aload_n hx hb dX9_readMatrix_67 rfl (lv_at hl 0 rfl) ?_
        refine tz_get (ci := 6) (v := .ref h2) (C := RX9) (F := TX9) (N := 5) hx hb hU iX9 hown hK hT 1 rfl rfl 4 (by decide) w127 (fun _ h9 => h9) rfl dX9_readMatrix_68 ?_
        refine lv_aload_n hx hb dX9_readMatrix_71 rfl (lv_at hl 0 rfl) ?_
        refine tz_get (ci := 6) (v := .int h0f3) (C := RX9) (F := TX9) (N := 5) hx hb hU iX9 hown hK hT 1 rfl rfl 3 (by decide) w125 (fun _ h9 => h9) rfl dX9_readMatrix_72 ?_
        refine lv_bipush (v := 9) hx hb dX9_readMatrix_75 (by decide) ?_
        refine lv_imul hx hb dX9_readMatrix_77 (lv_topi (fun v29 e_v29 => ?_))
        have e_v29 := ai_mul e_v29 rfl li_9 (by omega)
        refine lv_iload_n hx hb dX9_readMatrix_78 rfl (lv_at hl 1 rfl) ?_
        refine tcI (Tc := [(h2, aJ (k 1) 36 anJ)]) (Tr := [(h0, ob 6 [.ref h1, .int h0f1, .int v28, .int h0f3, .ref h2]), (h1, aI (k 2) 120 anI)]) (as := [h2]) (zcS (As := [.ref h2, .int v29, .int x1]) (rest := []) (Tc := [(h2, aJ (k 1) 36 anJ)]) hx hb hml hown hU hK hT [0] rfl (by decide) (cX7_hasWholeInverse_e20f0 l D k _ h2 v29 x1 (by omega) (by omega)) w483 w481 w482 w74 hdX7_hasWholeInverse ⟨rfl, rfl⟩ ⟨Nat.le_of_ble_eq_true rfl, Nat.le_of_ble_eq_true rfl⟩ rfl hl.1 (Nat.le_of_ble_eq_true rfl) dX9_readMatrix_79 ⟨Nat.le_of_ble_eq_true rfl, Nat.le_of_ble_eq_true rfl⟩) hT hS hA [0] [1, 2] rfl rfl rfl (by decide) (by decide) (fun r30 H locs hB J hS => ?_)
        obtain ⟨b_r30, hT1⟩ := hB
        have hT := J _ hT1
        have hT : TP D A [(h0, ob 6 [.ref h1, .int h0f1, .int v28, .int h0f3, .ref h2]), (h1, aI (k 2) 120 anI), (h2, aJ (k 1) 36 anJ)] H := hT
        refine lv_if_eq (tgt := 98) hx hb dX9_readMatrix_82 (by decide) (fun c_31 => ?_) (fun c_31 => ?_)
        · skip
          have c_31 := ni_eq c_31 rfl li_0
          refine lv_iconst (v := 0) hx hb dX9_readMatrix_98 (by decide) ?_
          exact tz_retZ (B := B_cX9_readMatrix_f7444 D k h0 h1 h2 x1 h0f1 h0f2 h0f3) (v := 0) hQ hx hb hr hlocks hS (Nat.le_of_ble_eq_true rfl) (Nat.le_of_ble_eq_true rfl) dX9_readMatrix_99 (by have := li_0; omega) (⟨v28, (by have := li_0; omega), (by have := li_0; omega), hT⟩)
        · skip
          have c_31 := ni_ne c_31 rfl li_0
          refine lv_aload_n hx hb dX9_readMatrix_85 rfl (lv_at hl 0 rfl) ?_
          refine lv_bipush (v := 59) hx hb dX9_readMatrix_86 (by decide) ?_
          have q_q33 := li_59
          refine tcI (Tc := [(h0, ob 6 [.ref h1, .int h0f1, .int v28, .int h0f3, .ref h2]), (h1, aI (k 2) 120 anI)]) (Tr := [(h2, aJ (k 1) 36 anJ)]) (as := [h0, h1]) (zcV (q0 := 0) (ci := 6) (As := [.int 59]) (rest := []) (Tc := [(h0, ob 6 [.ref h1, .int h0f1, .int v28, .int h0f3, .ref h2]), (h1, aI (k 2) 120 anI)]) hx hb hml hown hU hK hT rfl rfl [0, 1] rfl (by decide) (cX9_pass_8ea59 l D k _ h0 h1 h2 (59) h0f1 v28 h0f3 (by have := li_59; omega) (by omega) (by omega) (by omega)) w472 w469 w471 w7 w65 hdX9_pass ⟨rfl, rfl⟩ ⟨Nat.le_of_ble_eq_true rfl, Nat.le_of_ble_eq_true rfl⟩ rfl hl.1 (Nat.le_of_ble_eq_true rfl) dX9_readMatrix_88 ⟨Nat.le_of_ble_eq_true rfl, Nat.le_of_ble_eq_true rfl⟩) hT hS hA [0, 1] [2] rfl rfl rfl (by decide) (by decide) (fun r32 H locs hB J hS => ?_)
          rcases hB with ⟨v34, b_v34, rfl, hT1⟩ | ⟨v35, v36, v37, b_v35, b_v36, b_v37, c_38, c_39, rfl, hT1⟩
          · skip
            have hT := J _ hT1
            have hT : TP D A [(h2, aJ (k 1) 36 anJ), (h0, ob 6 [.ref h1, .int h0f1, .int v34, .int h0f3, .ref h2]), (h1, aI (k 2) 120 anI)] H := hT
            refine lv_if_eq (tgt := 98) hx hb dX9_readMatrix_91 (by decide) (fun _ => ?_) (fun cc => absurd (by decide +kernel) cc)
            refine lv_iconst (v := 0) hx hb dX9_readMatrix_98 (by decide) ?_
            exact tz_retZ (B := B_cX9_readMatrix_f7444 D k h0 h1 h2 x1 h0f1 h0f2 h0f3) (v := 0) hQ hx hb hr hlocks hS (Nat.le_of_ble_eq_true rfl) (Nat.le_of_ble_eq_true rfl) dX9_readMatrix_99 (by have := li_0; omega) (⟨v34, (by have := li_0; omega), (by have := li_0; omega), (hT.sub [1, 2, 0] (by decide) rfl)⟩)
          · skip
            have hT := J _ hT1
            have hT : TP D A [(h2, aJ (k 1) 36 anJ), (h0, ob 6 [.ref h1, .int h0f1, .int v35, .int h0f3, .ref h2]), (h1, aI (k 2) 120 anI)] H := hT
            refine lv_if_eq (tgt := 98) hx hb dX9_readMatrix_91 (by decide) (fun cc => absurd cc (by decide +kernel)) (fun _ => ?_)
            refine lv_iconst (v := 1) hx hb dX9_readMatrix_94 (by decide) ?_
            refine lv_goto (tgt := 99) hx hb dX9_readMatrix_95 (by decide) ?_
            exact tz_retZ (B := B_cX9_readMatrix_f7444 D k h0 h1 h2 x1 h0f1 h0f2 h0f3) (v := 1) hQ hx hb hr hlocks hS (Nat.le_of_ble_eq_true rfl) (Nat.le_of_ble_eq_true rfl) dX9_readMatrix_99 (by have := li_1; omega) (⟨v35, (by have := li_1; omega), (by have := li_1; omega), (hT.sub [1, 2, 0] (by decide) rfl)⟩)
      · skip
        have c_26 := ni_nle c_26 rfl rfl
        refine lv_iload_n hx hb dX9_readMatrix_7 rfl (lv_at hl 2 rfl) ?_
        refine lv_if_le (tgt := 22) hx hb dX9_readMatrix_8 (by decide) (fun c_40 => ?_) (fun c_40 => ?_)
        · skip
          have c_40 := ni_le c_40 rfl li_0
          refine lv_iconst (v := 0) hx hb dX9_readMatrix_22 (by decide) ?_
          refine lv_istore_n (lv' := [(3, .int 0), (0, .ref h0), (1, .int x1), (2, .int y5)]) hx hb dX9_readMatrix_23 rfl hl (by decide) rfl (fun ls hl => ?_)
          exact lp24_15 ((x1.toInt + (-1) * (0 : Int32).toInt + 1).toNat + 1) (0) y6 _ _ _ (by have := li_0; omega) (by have := li_0; omega) (by have := li_0; omega)  (Nat.lt_succ_self _) hT hS (lv_sub hl [1, 2, 3, 0] rfl)
        · skip
          have c_40 := ni_nle c_40 rfl li_0
          refine lv_aload_n hx hb dX9_readMatrix_11 rfl (lv_at hl 0 rfl) ?_
          refine lv_bipush (v := 47) hx hb dX9_readMatrix_12 (by decide) ?_
          have q_q42 := li_47
          refine tcI (Tc := [(h0, ob 6 [.ref h1, .int h0f1, .int y6, .int h0f3, .ref h2]), (h1, aI (k 2) 120 anI)]) (Tr := [(h2, aJ (k 1) 36 anJ)]) (as := [h0, h1]) (zcV (q0 := 0) (ci := 6) (As := [.int 47]) (rest := []) (Tc := [(h0, ob 6 [.ref h1, .int h0f1, .int y6, .int h0f3, .ref h2]), (h1, aI (k 2) 120 anI)]) hx hb hml hown hU hK hT rfl rfl [0, 1] rfl (by decide) (cX9_pass_8ea59 l D k _ h0 h1 h2 (47) h0f1 y6 h0f3 (by have := li_47; omega) (by omega) (by omega) (by omega)) w472 w469 w471 w7 w65 hdX9_pass ⟨rfl, rfl⟩ ⟨Nat.le_of_ble_eq_true rfl, Nat.le_of_ble_eq_true rfl⟩ rfl hl.1 (Nat.le_of_ble_eq_true rfl) dX9_readMatrix_14 ⟨Nat.le_of_ble_eq_true rfl, Nat.le_of_ble_eq_true rfl⟩) hT hS hA [0, 1] [2] rfl rfl rfl (by decide) (by decide) (fun r41 H locs hB J hS => ?_)
          rcases hB with ⟨v43, b_v43, rfl, hT1⟩ | ⟨v44, v45, v46, b_v44, b_v45, b_v46, c_47, c_48, rfl, hT1⟩
          · skip
            have hT := J _ hT1
            have hT : TP D A [(h2, aJ (k 1) 36 anJ), (h0, ob 6 [.ref h1, .int h0f1, .int v43, .int h0f3, .ref h2]), (h1, aI (k 2) 120 anI)] H := hT
            refine lv_if_ne (tgt := 22) hx hb dX9_readMatrix_17 (by decide) (fun cc => absurd (by decide +kernel) cc) (fun _ => ?_)
            refine lv_iconst (v := 0) hx hb dX9_readMatrix_20 (by decide) ?_
            exact tz_retZ (B := B_cX9_readMatrix_f7444 D k h0 h1 h2 x1 h0f1 h0f2 h0f3) (v := 0) hQ hx hb hr hlocks hS (Nat.le_of_ble_eq_true rfl) (Nat.le_of_ble_eq_true rfl) dX9_readMatrix_21 (by have := li_0; omega) (⟨v43, (by have := li_0; omega), (by have := li_0; omega), (hT.sub [1, 2, 0] (by decide) rfl)⟩)
          · skip
            have hT := J _ hT1
            have hT : TP D A [(h2, aJ (k 1) 36 anJ), (h0, ob 6 [.ref h1, .int h0f1, .int v44, .int h0f3, .ref h2]), (h1, aI (k 2) 120 anI)] H := hT
            refine lv_if_ne (tgt := 22) hx hb dX9_readMatrix_17 (by decide) (fun _ => ?_) (fun cc => absurd cc (by decide +kernel))
            refine lv_iconst (v := 0) hx hb dX9_readMatrix_22 (by decide) ?_
            refine lv_istore_n (lv' := [(3, .int 0), (0, .ref h0), (1, .int x1), (2, .int y5)]) hx hb dX9_readMatrix_23 rfl hl (by decide) rfl (fun ls hl => ?_)
            exact lp24_15 ((x1.toInt + (-1) * (0 : Int32).toInt + 1).toNat + 1) (0) v44 _ _ _ (by have := li_0; omega) (by have := li_0; omega) (by have := li_0; omega)  (Nat.lt_succ_self _) (hT.sub [1, 2, 0] (by decide) rfl) hS (lv_sub hl [1, 2, 3, 0] rfl)
  exact lp2_7 ((3 - (0 : Int32).toInt).toNat + 1) (0) h0f2 _ _ _ (by have := li_0; omega) (by have := li_0; omega)  (Nat.lt_succ_self _) hT hS (lv_sub hl [1, 2, 0] rfl)
abbrev Rm_cX9_read_9e3bd : Room := { frames := 4, cells := 0, slots := 0, locals := 101 }
abbrev B_cX9_read_9e3bd (D : va_G) (k : Nat → ClassId) (h0 h1 h2 : Nat) (x1 : Int32) (h0f1 : Int32) (h0f2 : Int32) (h0f3 : Int32) (A : Nat → Prop) (r : Int32) (H : Heap) : Prop := ∃ o0 : Int32, ∃ o1 : Int32, (0 ≤ o0.toInt ∧ o0.toInt ≤ 120) ∧ (0 ≤ o1.toInt ∧ o1.toInt ≤ 4) ∧ (0 ≤ r.toInt ∧ r.toInt ≤ 1) ∧ TP D A [(h0, ob 6 [.ref h1, .int h0f1, .int o0, .int o1, .ref h2]), (h1, aI (k 2) 120 anI), (h2, aJ (k 1) 36 anJ)] H
set_option maxHeartbeats 4000000 in
set_option maxRecDepth 100000 in
theorem cX9_read_9e3bd (l : Launch) (D : va_G) (k : Nat → ClassId) (sz : Nat) (h0 h1 h2 : Nat) (x1 : Int32) (h0f1 : Int32) (h0f2 : Int32) (h0f3 : Int32) (b_x1 : 1 ≤ x1.toInt ∧ x1.toInt ≤ 3) (b_h0f1 : 0 ≤ h0f1.toInt ∧ h0f1.toInt ≤ 120) (b_h0f2 : 0 ≤ h0f2.toInt ∧ h0f2.toInt ≤ 120) (b_h0f3 : 0 ≤ h0f3.toInt ∧ h0f3.toInt ≤ 4) : Met l yX9_read (Cond.code yX9_read cX9_read 2 (some .boolean) :: uw) Rm_cX9_read_9e3bd (pT D k sz [.ref h0, .int x1] [(h0, ob 6 [.ref h1, .int h0f1, .int h0f2, .int h0f3, .ref h2]), (h1, aI (k 2) 120 anI), (h2, aJ (k 1) 36 anJ)]) (qI (B_cX9_read_9e3bd D k h0 h1 h2 x1 h0f1 h0f2 h0f3 (zA [h0, h1, h2] sz)) (zA [h0, h1, h2] sz)) 0 0 (zA [h0, h1, h2] sz) := by
  refine tz_begin (as := [h0, h1, h2]) (Qc := fun A => qI (B_cX9_read_9e3bd D k h0 h1 h2 x1 h0f1 h0f2 h0f3 A) A) (by decide +kernel) rfl (Nat.le_of_ble_eq_true rfl) ?_
  intro p e s m args below meth c ls A Q hx hb hr hml hown hlocks hin hU hK hT hS hA hl hQ
  have hl : lv_has ls 2 [(0, .ref h0), (1, .int x1)] := hl
  have hT : TP D A [(h0, ob 6 [.ref h1, .int h0f1, .int h0f2, .int h0f3, .ref h2]), (h1, aI (k 2) 120 anI), (h2, aJ (k 1) 36 anJ)] s.heap := hT
  refine lv_aload_n hx hb dX9_read_0 rfl (lv_at hl 0 rfl) ?_
  refine lv_iconst (v := 0) hx hb dX9_read_1 (by decide) ?_
  refine tz_put (ci := 6) (v := .int 0) (ty := .int) (C := RX9) (F := TX9) (N := 5) hx hb hU iX9 tyX9 tyX9_ok nmX9 hown hK hT hS 0 rfl rfl 2 (by decide) w123 (fun _ h9 => h9) rfl (by decide +kernel) rfl rfl (Nat.le_of_ble_eq_true rfl) dX9_read_2 (fun H locs hT hS => ?_)
  have hT : TP D A [(h0, ob 6 [.ref h1, .int h0f1, .int 0, .int h0f3, .ref h2]), (h1, aI (k 2) 120 anI), (h2, aJ (k 1) 36 anJ)] H := hT
  refine lv_aload_n hx hb dX9_read_5 rfl (lv_at hl 0 rfl) ?_
  refine lv_iconst (v := 0) hx hb dX9_read_6 (by decide) ?_
  refine tz_put (ci := 6) (v := .int 0) (ty := .int) (C := RX9) (F := TX9) (N := 5) hx hb hU iX9 tyX9 tyX9_ok nmX9 hown hK hT hS 0 rfl rfl 3 (by decide) w125 (fun _ h9 => h9) rfl (by decide +kernel) rfl rfl (Nat.le_of_ble_eq_true rfl) dX9_read_7 (fun H locs hT hS => ?_)
  have hT : TP D A [(h0, ob 6 [.ref h1, .int h0f1, .int 0, .int 0, .ref h2]), (h1, aI (k 2) 120 anI), (h2, aJ (k 1) 36 anJ)] H := hT
  refine lv_aload_n hx hb dX9_read_10 rfl (lv_at hl 0 rfl) ?_
  have q_q2 := li_0
  have q_q3 := li_0
  refine tcV (Tc := [(h0, ob 6 [.ref h1, .int h0f1, .int 0, .int 0, .ref h2]), (h1, aI (k 2) 120 anI)]) (Tr := [(h2, aJ (k 1) 36 anJ)]) (as := [h0, h1]) (zcV (q0 := 0) (ci := 6) (As := []) (rest := []) (Tc := [(h0, ob 6 [.ref h1, .int h0f1, .int 0, .int 0, .ref h2]), (h1, aI (k 2) 120 anI)]) hx hb hml hown hU hK hT rfl rfl [0, 1] rfl (by decide) (cX9_skipBlanks_4b650 l D k _ h0 h1 h2 h0f1 (0) (0) (by omega) (by have := li_0; omega) (by have := li_0; omega)) w464 w461 w463 w5 w65 hdX9_skipBlanks ⟨rfl, rfl⟩ ⟨Nat.le_of_ble_eq_true rfl, Nat.le_of_ble_eq_true rfl⟩ rfl hl.1 (Nat.le_of_ble_eq_true rfl) dX9_read_11 ⟨Nat.le_of_ble_eq_true rfl, Nat.le_of_ble_eq_true rfl⟩) hT hS hA [0, 1] [2] rfl rfl rfl (by decide) (by decide) (fun H locs hB J hS => ?_)
  obtain ⟨v4, b_v4, hT1⟩ := hB
  have hT := J _ hT1
  have hT : TP D A [(h2, aJ (k 1) 36 anJ), (h0, ob 6 [.ref h1, .int h0f1, .int v4, .int 0, .ref h2]), (h1, aI (k 2) 120 anI)] H := hT
  have lp14_13 : ∀ (n : Nat) (y11 : Int32) (y12 : Int32) (H : Heap) (locs : List Loc) (ls : Array Slot), (0 ≤ y11.toInt ∧ y11.toInt ≤ 120) → (0 ≤ y12.toInt ∧ y12.toInt ≤ 4) → ((-1) * y12.toInt + 4 + 1).toNat < n → TP D A [(h2, aJ (k 1) 36 anJ), (h0, ob 6 [.ref h1, .int h0f1, .int y11, .int y12, .ref h2]), (h1, aI (k 2) 120 anI)] H → va_S A s.heap H locs → lv_has ls 2 [(0, .ref h0), (1, .int x1)] → W p l e Rm_cX9_read_9e3bd s m args below meth c H locs 0 0 Q (F0 m 14 ls []) := by
    intro n
    induction n with
    | zero => intro y11 y12 H locs ls b_y11 b_y12 hm hT hS hl; exact absurd hm (Nat.not_lt_zero _)
    | succ n ih =>
      intro y11 y12 H locs ls b_y11 b_y12 hm hT hS hl
      have ih14_13 := ih
      clear ih
      refine lv_aload_n hx hb dX9_read_14 rfl (lv_at hl 0 rfl) ?_
      refine tz_get (ci := 6) (v := .int y11) (C := RX9) (F := TX9) (N := 5) hx hb hU iX9 hown hK hT 1 rfl rfl 2 (by decide) w123 (fun _ h9 => h9) rfl dX9_read_15 ?_
      refine lv_aload_n hx hb dX9_read_18 rfl (lv_at hl 0 rfl) ?_
      refine tz_get (ci := 6) (v := .int h0f1) (C := RX9) (F := TX9) (N := 5) hx hb hU iX9 hown hK hT 1 rfl rfl 1 (by decide) w121 (fun _ h9 => h9) rfl dX9_read_19 ?_
      refine lv_icmp_ge (tgt := 60) hx hb dX9_read_22 (by decide) (fun c_14 => ?_) (fun c_14 => ?_)
      · skip
        have c_14 := ni_le c_14 rfl rfl
        refine lv_iconst (v := 1) hx hb dX9_read_60 (by decide) ?_
        exact tz_retZ (B := B_cX9_read_9e3bd D k h0 h1 h2 x1 h0f1 h0f2 h0f3) (v := 1) hQ hx hb hr hlocks hS (Nat.le_of_ble_eq_true rfl) (Nat.le_of_ble_eq_true rfl) dX9_read_61 (by have := li_1; omega) (⟨y11, y12, (by have := li_1; omega), (by have := li_1; omega), (by have := li_1; omega), (hT.sub [1, 2, 0] (by decide) rfl)⟩)
      · skip
        have c_14 := ni_nle c_14 rfl rfl
        refine lv_aload_n hx hb dX9_read_25 rfl (lv_at hl 0 rfl) ?_
        refine tz_get (ci := 6) (v := .int y12) (C := RX9) (F := TX9) (N := 5) hx hb hU iX9 hown hK hT 1 rfl rfl 3 (by decide) w125 (fun _ h9 => h9) rfl dX9_read_26 ?_
        refine lv_iconst (v := 4) hx hb dX9_read_29 (by decide) ?_
        refine lv_icmp_eq (tgt := 41) hx hb dX9_read_30 (by decide) (fun c_15 => ?_) (fun c_15 => ?_)
        · skip
          have c_15 := ni_eq c_15 rfl li_4
          refine lv_iconst (v := 0) hx hb dX9_read_41 (by decide) ?_
          exact tz_retZ (B := B_cX9_read_9e3bd D k h0 h1 h2 x1 h0f1 h0f2 h0f3) (v := 0) hQ hx hb hr hlocks hS (Nat.le_of_ble_eq_true rfl) (Nat.le_of_ble_eq_true rfl) dX9_read_42 (by have := li_0; omega) (⟨y11, y12, (by have := li_0; omega), (by have := li_0; omega), (by have := li_0; omega), (hT.sub [1, 2, 0] (by decide) rfl)⟩)
        · skip
          have c_15 := ni_ne c_15 rfl li_4
          refine lv_aload_n hx hb dX9_read_33 rfl (lv_at hl 0 rfl) ?_
          refine lv_iload_n hx hb dX9_read_34 rfl (lv_at hl 1 rfl) ?_
          refine tcI (Tc := [(h0, ob 6 [.ref h1, .int h0f1, .int y11, .int y12, .ref h2]), (h1, aI (k 2) 120 anI), (h2, aJ (k 1) 36 anJ)]) (Tr := []) (as := [h0, h1, h2]) (zcV (q0 := 1) (ci := 6) (As := [.int x1]) (rest := []) (Tc := [(h0, ob 6 [.ref h1, .int h0f1, .int y11, .int y12, .ref h2]), (h1, aI (k 2) 120 anI), (h2, aJ (k 1) 36 anJ)]) hx hb hml hown hU hK hT rfl rfl [1, 2, 0] rfl (by decide) (cX9_readMatrix_f7444 l D k _ h0 h1 h2 x1 h0f1 y11 y12 (by omega) (by omega) (by omega) (by omega)) w468 w465 w467 w6 w65 hdX9_readMatrix ⟨rfl, rfl⟩ ⟨Nat.le_of_ble_eq_true rfl, Nat.le_of_ble_eq_true rfl⟩ rfl hl.1 (Nat.le_of_ble_eq_true rfl) dX9_read_35 ⟨Nat.le_of_ble_eq_true rfl, Nat.le_of_ble_eq_true rfl⟩) hT hS hA [1, 2, 0] [] rfl rfl rfl (by decide) (by decide) (fun r16 H locs hB J hS => ?_)
          obtain ⟨v17, b_v17, b_r16, hT1⟩ := hB
          have hT := J _ hT1
          have hT : TP D A [(h0, ob 6 [.ref h1, .int h0f1, .int v17, .int y12, .ref h2]), (h1, aI (k 2) 120 anI), (h2, aJ (k 1) 36 anJ)] H := hT
          refine lv_if_ne (tgt := 43) hx hb dX9_read_38 (by decide) (fun c_18 => ?_) (fun c_18 => ?_)
          · skip
            have c_18 := ni_ne c_18 rfl li_0
            refine lv_aload_n hx hb dX9_read_43 rfl (lv_at hl 0 rfl) ?_
            refine lv_dup hx hb dX9_read_44 rfl ?_
            refine tz_get (ci := 6) (v := .int y12) (C := RX9) (F := TX9) (N := 5) hx hb hU iX9 hown hK hT 0 rfl rfl 3 (by decide) w125 (fun _ h9 => h9) rfl dX9_read_45 ?_
            refine lv_iconst (v := 1) hx hb dX9_read_48 (by decide) ?_
            refine lv_iadd hx hb dX9_read_49 (lv_topi (fun v19 e_v19 => ?_))
            have e_v19 := ai_add e_v19 rfl li_1 (by omega)
            refine tz_put (ci := 6) (v := .int v19) (ty := .int) (C := RX9) (F := TX9) (N := 5) hx hb hU iX9 tyX9 tyX9_ok nmX9 hown hK hT hS 0 rfl rfl 3 (by decide) w125 (fun _ h9 => h9) rfl (by decide +kernel) rfl rfl (Nat.le_of_ble_eq_true rfl) dX9_read_50 (fun H locs hT hS => ?_)
            have hT : TP D A [(h0, ob 6 [.ref h1, .int h0f1, .int v17, .int v19, .ref h2]), (h1, aI (k 2) 120 anI), (h2, aJ (k 1) 36 anJ)] H := hT
            refine lv_aload_n hx hb dX9_read_53 rfl (lv_at hl 0 rfl) ?_
            refine tcV (Tc := [(h0, ob 6 [.ref h1, .int h0f1, .int v17, .int v19, .ref h2]), (h1, aI (k 2) 120 anI)]) (Tr := [(h2, aJ (k 1) 36 anJ)]) (as := [h0, h1]) (zcV (q0 := 0) (ci := 6) (As := []) (rest := []) (Tc := [(h0, ob 6 [.ref h1, .int h0f1, .int v17, .int v19, .ref h2]), (h1, aI (k 2) 120 anI)]) hx hb hml hown hU hK hT rfl rfl [0, 1] rfl (by decide) (cX9_skipBlanks_4b650 l D k _ h0 h1 h2 h0f1 v17 v19 (by omega) (by omega) (by omega)) w464 w461 w463 w5 w65 hdX9_skipBlanks ⟨rfl, rfl⟩ ⟨Nat.le_of_ble_eq_true rfl, Nat.le_of_ble_eq_true rfl⟩ rfl hl.1 (Nat.le_of_ble_eq_true rfl) dX9_read_54 ⟨Nat.le_of_ble_eq_true rfl, Nat.le_of_ble_eq_true rfl⟩) hT hS hA [0, 1] [2] rfl rfl rfl (by decide) (by decide) (fun H locs hB J hS => ?_)
            obtain ⟨v21, b_v21, hT1⟩ := hB
            have hT := J _ hT1
            have hT : TP D A [(h2, aJ (k 1) 36 anJ), (h0, ob 6 [.ref h1, .int h0f1, .int v21, .int v19, .ref h2]), (h1, aI (k 2) 120 anI)] H := hT
            refine lv_goto (tgt := 14) hx hb dX9_read_57 (by decide) ?_
            exact ih14_13 v21 v19 _ _ _ (by omega) (by omega)  (by omega) hT hS hl
          · skip
            have c_18 := ni_eq c_18 rfl li_0
            refine lv_iconst (v := 0) hx hb dX9_read_41 (by decide) ?_
            exact tz_retZ (B := B_cX9_read_9e3bd D k h0 h1 h2 x1 h0f1 h0f2 h0f3) (v := 0) hQ hx hb hr hlocks hS (Nat.le_of_ble_eq_true rfl) (Nat.le_of_ble_eq_true rfl) dX9_read_42 (by have := li_0; omega) (⟨v17, y12, (by have := li_0; omega), (by have := li_0; omega), (by have := li_0; omega), hT⟩)
  exact lp14_13 (((-1) * (0 : Int32).toInt + 4 + 1).toNat + 1) v4 (0) _ _ _ (by have := li_0; omega) (by have := li_0; omega)  (Nat.lt_succ_self _) hT hS hl
