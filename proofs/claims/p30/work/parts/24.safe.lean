abbrev Rm_cX9_receive_a97ee : Room := { frames := 0, cells := 0, slots := 0, locals := 0 }
abbrev B_cX9_receive_a97ee (D : va_G) (k : Nat → ClassId) (h0 h1 h2 : Nat) (x1 : Int64) (x2 : Int32) (h0f1 : Int32) (h0f2 : Int32) (h0f3 : Int32) (A : Nat → Prop) (H : Heap) : Prop := ∃ o0 : Int32, (0 ≤ o0.toInt ∧ o0.toInt ≤ 120) ∧ TP D A [(h0, ob 6 [.ref h1, .int o0, .int h0f2, .int h0f3, .ref h2]), (h1, aI (k 2) 120 anI)] H
set_option maxHeartbeats 4000000 in
set_option maxRecDepth 100000 in
theorem cX9_receive_a97ee (l : Launch) (D : va_G) (k : Nat → ClassId) (sz : Nat) (h0 h1 h2 : Nat) (x1 : Int64) (x2 : Int32) (h0f1 : Int32) (h0f2 : Int32) (h0f3 : Int32) (b_x2 : 1 ≤ x2.toInt ∧ x2.toInt ≤ 8) (b_h0f1 : 0 ≤ h0f1.toInt ∧ h0f1.toInt ≤ 119) (b_h0f2 : 0 ≤ h0f2.toInt ∧ h0f2.toInt ≤ 120) (b_h0f3 : 0 ≤ h0f3.toInt ∧ h0f3.toInt ≤ 4) : Met l yX9_receive (Cond.code yX9_receive cX9_receive 5 none :: uw) Rm_cX9_receive_a97ee (pT D k sz [.ref h0, .long x1, .int x2] [(h0, ob 6 [.ref h1, .int h0f1, .int h0f2, .int h0f3, .ref h2]), (h1, aI (k 2) 120 anI)]) (qV (B_cX9_receive_a97ee D k h0 h1 h2 x1 x2 h0f1 h0f2 h0f3 (zA [h0, h1] sz)) (zA [h0, h1] sz)) 0 0 (zA [h0, h1] sz) := by
  refine tz_begin (as := [h0, h1]) (Qc := fun A => qV (B_cX9_receive_a97ee D k h0 h1 h2 x1 x2 h0f1 h0f2 h0f3 A) A) (by decide +kernel) rfl (Nat.le_of_ble_eq_true rfl) ?_
  intro p e s m args below meth c ls A Q hx hb hr hml hown hlocks hin hU hK hT hS hA hl hQ
  have hl : lv_has ls 5 [(0, .ref h0), (1, .long x1), (3, .int x2)] := hl
  have hT : TP D A [(h0, ob 6 [.ref h1, .int h0f1, .int h0f2, .int h0f3, .ref h2]), (h1, aI (k 2) 120 anI)] s.heap := hT
  refine lv_iconst (v := 0) hx hb dX9_receive_0 (by decide) ?_
  refine lv_istore (lv' := [(4, .int 0), (0, .ref h0), (1, .long x1), (3, .int x2)]) hx hb dX9_receive_1 hl (by decide) rfl (fun ls hl => ?_)
  have lp3_15 : ∀ (n : Nat) (y13 : Int32) (y14 : Int32) (H : Heap) (locs : List Loc) (ls : Array Slot), (0 ≤ y13.toInt ∧ y13.toInt ≤ 8) → (0 ≤ y14.toInt ∧ y14.toInt ≤ 120) → (x2.toInt + (-1) * y13.toInt + 1).toNat < n → TP D A [(h0, ob 6 [.ref h1, .int y14, .int h0f2, .int h0f3, .ref h2]), (h1, aI (k 2) 120 anI)] H → va_S A s.heap H locs → lv_has ls 5 [(0, .ref h0), (1, .long x1), (3, .int x2), (4, .int y13)] → W p l e Rm_cX9_receive_a97ee s m args below meth c H locs 0 0 Q (F0 m 3 ls []) := by
    intro n
    induction n with
    | zero => intro y13 y14 H locs ls b_y13 b_y14 hm hT hS hl; exact absurd hm (Nat.not_lt_zero _)
    | succ n ih =>
      intro y13 y14 H locs ls b_y13 b_y14 hm hT hS hl
      have ih3_15 := ih
      clear ih
      refine lv_iload hx hb dX9_receive_3 (lv_at hl 3 rfl) ?_
      refine lv_iload_n hx hb dX9_receive_5 rfl (lv_at hl 2 rfl) ?_
      refine lv_icmp_ge (tgt := 52) hx hb dX9_receive_6 (by decide) (fun c_16 => ?_) (fun c_16 => ?_)
      · skip
        have c_16 := ni_le c_16 rfl rfl
        exact tz_retV (B := B_cX9_receive_a97ee D k h0 h1 h2 x1 x2 h0f1 h0f2 h0f3) hQ hx hb hr hlocks hS (Nat.le_of_ble_eq_true rfl) (Nat.le_of_ble_eq_true rfl) dX9_receive_52 (⟨y14, (by omega), hT⟩)
      · skip
        have c_16 := ni_nle c_16 rfl rfl
        refine lv_aload_n hx hb dX9_receive_9 rfl (lv_at hl 0 rfl) ?_
        refine tz_get (ci := 6) (v := .int y14) (C := RX9) (F := TX9) (N := 5) hx hb hU iX9 hown hK hT 0 rfl rfl 1 (by decide) w121 (fun _ h9 => h9) rfl dX9_receive_10 ?_
        refine lv_bipush (v := 120) hx hb dX9_receive_13 (by decide) ?_
        refine lv_icmp_ge (tgt := 52) hx hb dX9_receive_15 (by decide) (fun c_17 => ?_) (fun c_17 => ?_)
        · skip
          have c_17 := ni_le c_17 li_120 rfl
          exact tz_retV (B := B_cX9_receive_a97ee D k h0 h1 h2 x1 x2 h0f1 h0f2 h0f3) hQ hx hb hr hlocks hS (Nat.le_of_ble_eq_true rfl) (Nat.le_of_ble_eq_true rfl) dX9_receive_52 (⟨y14, (by omega), hT⟩)
        · skip
          have c_17 := ni_nle c_17 li_120 rfl
          refine lv_aload_n hx hb dX9_receive_18 rfl (lv_at hl 0 rfl) ?_
          refine tz_get (ci := 6) (v := .ref h1) (C := RX9) (F := TX9) (N := 5) hx hb hU iX9 hown hK hT 0 rfl rfl 0 (by decide) w120 (fun _ h9 => h9) rfl dX9_receive_19 ?_
          refine lv_aload_n hx hb dX9_receive_22 rfl (lv_at hl 0 rfl) ?_
          refine tz_get (ci := 6) (v := .int y14) (C := RX9) (F := TX9) (N := 5) hx hb hU iX9 hown hK hT 0 rfl rfl 1 (by decide) w121 (fun _ h9 => h9) rfl dX9_receive_23 ?_
          refine lv_lload_n hx hb dX9_receive_26 rfl (lv_at hl 1 rfl) ?_
          refine lv_bipush (v := 8) hx hb dX9_receive_27 (by decide) ?_
          refine lv_iload hx hb dX9_receive_29 (lv_at hl 3 rfl) ?_
          refine lv_imul hx hb dX9_receive_31 (lv_topi (fun v18 e_v18 => ?_))
          have e_v18 := ai_mul e_v18 li_8 rfl (by omega)
          refine lv_lushr hx hb dX9_receive_32 rfl (lv_topl (fun v19 _ => ?_))
          refine lv_l2i hx hb dX9_receive_33 rfl (lv_topi (fun v20 _ => ?_))
          refine lv_i2b hx hb dX9_receive_34 rfl (lv_topi (fun v21 _ => ?_))
          refine tz_bast hx hb hK hT hS 1 rfl (by omega) dX9_receive_35 (fun H locs hT hS => ?_)
          refine lv_aload_n hx hb dX9_receive_36 rfl (lv_at hl 0 rfl) ?_
          refine lv_dup hx hb dX9_receive_37 rfl ?_
          refine tz_get (ci := 6) (v := .int y14) (C := RX9) (F := TX9) (N := 5) hx hb hU iX9 hown hK hT 0 rfl rfl 1 (by decide) w121 (fun _ h9 => h9) rfl dX9_receive_38 ?_
          refine lv_iconst (v := 1) hx hb dX9_receive_41 (by decide) ?_
          refine lv_iadd hx hb dX9_receive_42 (lv_topi (fun v22 e_v22 => ?_))
          have e_v22 := ai_add e_v22 rfl li_1 (by omega)
          refine tz_put (ci := 6) (v := .int v22) (ty := .int) (C := RX9) (F := TX9) (N := 5) hx hb hU iX9 tyX9 tyX9_ok nmX9 hown hK hT hS 0 rfl rfl 1 (by decide) w121 (fun _ h9 => h9) rfl (by decide +kernel) rfl rfl (Nat.le_of_ble_eq_true rfl) dX9_receive_43 (fun H locs hT hS => ?_)
          have hT : TP D A [(h0, ob 6 [.ref h1, .int v22, .int h0f2, .int h0f3, .ref h2]), (h1, aI (k 2) 120 anI)] _ := hT
          obtain ⟨v23, e_v23⟩ : ∃ x : Int32, x = y13 + Int32.ofInt 1 := ⟨_, rfl⟩
          have f_v23 := e_v23.symm
          have e_v23 : v23.toInt = y13.toInt + 1 := ai_add e_v23 rfl (show (Int32.ofInt 1).toInt = 1 from (by decide +kernel)) (by omega)
          refine lv_iinc (v := v23) (lv' := [(4, .int v23), (0, .ref h0), (1, .long x1), (3, .int x2)]) hx hb dX9_receive_46 hl (k := 3) rfl f_v23 (by decide) rfl (fun ls hl => ?_)
          refine lv_goto (tgt := 3) hx hb dX9_receive_49 (by decide) ?_
          exact ih3_15 v23 v22 _ _ _ (by omega) (by omega)  (by omega) hT hS (lv_sub hl [1, 2, 3, 0] rfl)
  exact lp3_15 ((x2.toInt + (-1) * (0 : Int32).toInt + 1).toNat + 1) (0) h0f1 _ _ _ (by have := li_0; omega) (by have := li_0; omega)  (Nat.lt_succ_self _) hT hS (lv_sub hl [1, 2, 3, 0] rfl)
abbrev Rm_cX10_feed_649e4 : Room := { frames := 1, cells := 0, slots := 0, locals := 24 }
abbrev B_cX10_feed_649e4 (D : va_G) (k : Nat → ClassId) (h0 h3 h15 h1 h2 h4 h5 h6 h7 h8 h9 h10 h11 h12 h16 : Nat) (x1 : Int64) (x2 : Int32) (h0f2 : Int32) (h0f6 : Int32) (h0f8 : Int32) (h0f11 : Int32) (h3f1 : Int32) (h3f2 : Int32) (h3f3 : Int32) (A : Nat → Prop) (r : Int32) (H : Heap) : Prop := ∃ o0 : Int32, (0 ≤ o0.toInt ∧ o0.toInt ≤ 120) ∧ ((-2) ≤ r.toInt ∧ r.toInt ≤ 120) ∧ TP D A [(h0, ob 7 [.ref h1, .ref h2, .int h0f2, .ref h3, .ref h4, .ref h5, .int h0f6, .ref h6, .int h0f8, .null, .ref h7, .int h0f11, .ref h8, .ref h9, .ref h10, .ref h11, .ref h12]), (h3, ob 6 [.ref h15, .int o0, .int h3f2, .int h3f3, .ref h16]), (h15, aI (k 2) 120 anI)] H
set_option maxHeartbeats 4000000 in
set_option maxRecDepth 100000 in
theorem cX10_feed_649e4 (l : Launch) (D : va_G) (k : Nat → ClassId) (sz : Nat) (h0 h3 h15 h1 h2 h4 h5 h6 h7 h8 h9 h10 h11 h12 h16 : Nat) (x1 : Int64) (x2 : Int32) (h0f2 : Int32) (h0f6 : Int32) (h0f8 : Int32) (h0f11 : Int32) (h3f1 : Int32) (h3f2 : Int32) (h3f3 : Int32) (b_h0f2 : 0 ≤ h0f2.toInt ∧ h0f2.toInt ≤ 1) (b_h0f6 : 0 ≤ h0f6.toInt ∧ h0f6.toInt ≤ 1) (b_h0f8 : 0 ≤ h0f8.toInt ∧ h0f8.toInt ≤ 1) (b_h0f11 : 0 ≤ h0f11.toInt ∧ h0f11.toInt ≤ 200) (b_h3f1 : 0 ≤ h3f1.toInt ∧ h3f1.toInt ≤ 120) (b_h3f2 : 0 ≤ h3f2.toInt ∧ h3f2.toInt ≤ 120) (b_h3f3 : 0 ≤ h3f3.toInt ∧ h3f3.toInt ≤ 4) : Met l yX10_feed (Cond.code yX10_feed cX10_feed 4 (some .int) :: uw) Rm_cX10_feed_649e4 (pT D k sz [.ref h0, .long x1, .int x2] [(h0, ob 7 [.ref h1, .ref h2, .int h0f2, .ref h3, .ref h4, .ref h5, .int h0f6, .ref h6, .int h0f8, .null, .ref h7, .int h0f11, .ref h8, .ref h9, .ref h10, .ref h11, .ref h12]), (h3, ob 6 [.ref h15, .int h3f1, .int h3f2, .int h3f3, .ref h16]), (h15, aI (k 2) 120 anI)]) (qI (B_cX10_feed_649e4 D k h0 h3 h15 h1 h2 h4 h5 h6 h7 h8 h9 h10 h11 h12 h16 x1 x2 h0f2 h0f6 h0f8 h0f11 h3f1 h3f2 h3f3 (zA [h0, h3, h15] sz)) (zA [h0, h3, h15] sz)) 0 0 (zA [h0, h3, h15] sz) := by
  refine tz_begin (as := [h0, h3, h15]) (Qc := fun A => qI (B_cX10_feed_649e4 D k h0 h3 h15 h1 h2 h4 h5 h6 h7 h8 h9 h10 h11 h12 h16 x1 x2 h0f2 h0f6 h0f8 h0f11 h3f1 h3f2 h3f3 A) A) (by decide +kernel) rfl (Nat.le_of_ble_eq_true rfl) ?_
  intro p e s m args below meth c ls A Q hx hb hr hml hown hlocks hin hU hK hT hS hA hl hQ
  have hl : lv_has ls 4 [(0, .ref h0), (1, .long x1), (3, .int x2)] := hl
  have hT : TP D A [(h0, ob 7 [.ref h1, .ref h2, .int h0f2, .ref h3, .ref h4, .ref h5, .int h0f6, .ref h6, .int h0f8, .null, .ref h7, .int h0f11, .ref h8, .ref h9, .ref h10, .ref h11, .ref h12]), (h3, ob 6 [.ref h15, .int h3f1, .int h3f2, .int h3f3, .ref h16]), (h15, aI (k 2) 120 anI)] s.heap := hT
  refine lv_iload_n hx hb dX10_feed_0 rfl (lv_at hl 2 rfl) ?_
  refine lv_iconst (v := 1) hx hb dX10_feed_1 (by decide) ?_
  refine lv_icmp_lt (tgt := 11) hx hb dX10_feed_2 (by decide) (fun c_1 => ?_) (fun c_1 => ?_)
  · skip
    have c_1 := ni_lt c_1 rfl li_1
    refine lv_iconst (v := (-1)) hx hb dX10_feed_11 (by decide) ?_
    exact tz_retI (B := B_cX10_feed_649e4 D k h0 h3 h15 h1 h2 h4 h5 h6 h7 h8 h9 h10 h11 h12 h16 x1 x2 h0f2 h0f6 h0f8 h0f11 h3f1 h3f2 h3f3) (v := (-1)) hQ hx hb hr hlocks hS (Nat.le_of_ble_eq_true rfl) (Nat.le_of_ble_eq_true rfl) dX10_feed_12 (⟨h3f1, (by have := li_m1; omega), (by have := li_m1; omega), hT⟩)
  · skip
    have c_1 := ni_nlt c_1 rfl li_1
    refine lv_iload_n hx hb dX10_feed_5 rfl (lv_at hl 2 rfl) ?_
    refine lv_bipush (v := 8) hx hb dX10_feed_6 (by decide) ?_
    refine lv_icmp_le (tgt := 13) hx hb dX10_feed_8 (by decide) (fun c_2 => ?_) (fun c_2 => ?_)
    · skip
      have c_2 := ni_le c_2 rfl li_8
      refine lv_aload_n hx hb dX10_feed_13 rfl (lv_at hl 0 rfl) ?_
      refine tz_get (ci := 7) (v := .ref h3) (C := RX10) (F := TX10) (N := 17) hx hb hU iX10 hown hK hT 0 rfl rfl 3 (by decide) w252 (fun _ h9 => h9) rfl dX10_feed_14 ?_
      refine tz_get (ci := 6) (v := .int h3f1) (C := RX9) (F := TX9) (N := 5) hx hb hU iX9 hown hK hT 1 rfl rfl 1 (by decide) w122 (fun _ h9 => h9) rfl dX10_feed_17 ?_
      refine lv_iload_n hx hb dX10_feed_20 rfl (lv_at hl 2 rfl) ?_
      refine lv_iadd hx hb dX10_feed_21 (lv_topi (fun v3 e_v3 => ?_))
      have e_v3 := ai_add e_v3 rfl rfl (by omega)
      refine lv_bipush (v := 120) hx hb dX10_feed_22 (by decide) ?_
      refine lv_icmp_le (tgt := 30) hx hb dX10_feed_24 (by decide) (fun c_4 => ?_) (fun c_4 => ?_)
      · skip
        have c_4 := ni_le c_4 rfl li_120
        refine lv_aload_n hx hb dX10_feed_30 rfl (lv_at hl 0 rfl) ?_
        refine tz_get (ci := 7) (v := .ref h3) (C := RX10) (F := TX10) (N := 17) hx hb hU iX10 hown hK hT 0 rfl rfl 3 (by decide) w252 (fun _ h9 => h9) rfl dX10_feed_31 ?_
        refine lv_lload_n hx hb dX10_feed_34 rfl (lv_at hl 1 rfl) ?_
        refine lv_iload_n hx hb dX10_feed_35 rfl (lv_at hl 2 rfl) ?_
        refine tcV (Tc := [(h3, ob 6 [.ref h15, .int h3f1, .int h3f2, .int h3f3, .ref h16]), (h15, aI (k 2) 120 anI)]) (Tr := [(h0, ob 7 [.ref h1, .ref h2, .int h0f2, .ref h3, .ref h4, .ref h5, .int h0f6, .ref h6, .int h0f8, .null, .ref h7, .int h0f11, .ref h8, .ref h9, .ref h10, .ref h11, .ref h12])]) (as := [h3, h15]) (zcV (q0 := 1) (ci := 6) (As := [.long x1, .int x2]) (rest := []) (Tc := [(h3, ob 6 [.ref h15, .int h3f1, .int h3f2, .int h3f3, .ref h16]), (h15, aI (k 2) 120 anI)]) hx hb hml hown hU hK hT rfl rfl [1, 2] rfl (by decide) (cX9_receive_a97ee l D k _ h3 h15 h16 x1 x2 h3f1 h3f2 h3f3 (by omega) (by omega) (by omega) (by omega)) w452 w449 w450 w451 w65 hdX9_receive ⟨rfl, rfl⟩ ⟨Nat.le_of_ble_eq_true rfl, Nat.le_of_ble_eq_true rfl⟩ rfl hl.1 (Nat.le_of_ble_eq_true rfl) dX10_feed_36 ⟨Nat.le_of_ble_eq_true rfl, Nat.le_of_ble_eq_true rfl⟩) hT hS hA [1, 2] [0] rfl rfl rfl (by decide) (by decide) (fun H locs hB J hS => ?_)
        obtain ⟨v6, b_v6, hT1⟩ := hB
        have hT := J _ hT1
        have hT : TP D A [(h0, ob 7 [.ref h1, .ref h2, .int h0f2, .ref h3, .ref h4, .ref h5, .int h0f6, .ref h6, .int h0f8, .null, .ref h7, .int h0f11, .ref h8, .ref h9, .ref h10, .ref h11, .ref h12]), (h3, ob 6 [.ref h15, .int v6, .int h3f2, .int h3f3, .ref h16]), (h15, aI (k 2) 120 anI)] _ := hT
        refine lv_aload_n hx hb dX10_feed_39 rfl (lv_at hl 0 rfl) ?_
        refine tz_get (ci := 7) (v := .ref h3) (C := RX10) (F := TX10) (N := 17) hx hb hU iX10 hown hK hT 0 rfl rfl 3 (by decide) w252 (fun _ h9 => h9) rfl dX10_feed_40 ?_
        refine tz_get (ci := 6) (v := .int v6) (C := RX9) (F := TX9) (N := 5) hx hb hU iX9 hown hK hT 1 rfl rfl 1 (by decide) w122 (fun _ h9 => h9) rfl dX10_feed_43 ?_
        exact tz_retI (B := B_cX10_feed_649e4 D k h0 h3 h15 h1 h2 h4 h5 h6 h7 h8 h9 h10 h11 h12 h16 x1 x2 h0f2 h0f6 h0f8 h0f11 h3f1 h3f2 h3f3) (v := v6) hQ hx hb hr hlocks hS (Nat.le_of_ble_eq_true rfl) (Nat.le_of_ble_eq_true rfl) dX10_feed_46 (⟨v6, (by omega), (by omega), hT⟩)
      · skip
        have c_4 := ni_nle c_4 rfl li_120
        refine lv_bipush (v := (-2)) hx hb dX10_feed_27 (by decide) ?_
        exact tz_retI (B := B_cX10_feed_649e4 D k h0 h3 h15 h1 h2 h4 h5 h6 h7 h8 h9 h10 h11 h12 h16 x1 x2 h0f2 h0f6 h0f8 h0f11 h3f1 h3f2 h3f3) (v := (-2)) hQ hx hb hr hlocks hS (Nat.le_of_ble_eq_true rfl) (Nat.le_of_ble_eq_true rfl) dX10_feed_29 (⟨h3f1, (by have := li_m2; omega), (by have := li_m2; omega), hT⟩)
    · skip
      have c_2 := ni_nle c_2 rfl li_8
      refine lv_iconst (v := (-1)) hx hb dX10_feed_11 (by decide) ?_
      exact tz_retI (B := B_cX10_feed_649e4 D k h0 h3 h15 h1 h2 h4 h5 h6 h7 h8 h9 h10 h11 h12 h16 x1 x2 h0f2 h0f6 h0f8 h0f11 h3f1 h3f2 h3f3) (v := (-1)) hQ hx hb hr hlocks hS (Nat.le_of_ble_eq_true rfl) (Nat.le_of_ble_eq_true rfl) dX10_feed_12 (⟨h3f1, (by have := li_m1; omega), (by have := li_m1; omega), hT⟩)
abbrev Rm_cX10_feed_16af9 : Room := { frames := 1, cells := 0, slots := 0, locals := 24 }
abbrev B_cX10_feed_16af9 (D : va_G) (k : Nat → ClassId) (h0 h3 h16 h1 h2 h4 h5 h6 h7 h8 h9 h10 h11 h12 h13 h17 : Nat) (x1 : Int64) (x2 : Int32) (h0f2 : Int32) (h0f6 : Int32) (h0f8 : Int32) (h0f11 : Int32) (h3f1 : Int32) (h3f2 : Int32) (h3f3 : Int32) (A : Nat → Prop) (r : Int32) (H : Heap) : Prop := ∃ o0 : Int32, (0 ≤ o0.toInt ∧ o0.toInt ≤ 120) ∧ ((-2) ≤ r.toInt ∧ r.toInt ≤ 120) ∧ TP D A [(h0, ob 7 [.ref h1, .ref h2, .int h0f2, .ref h3, .ref h4, .ref h5, .int h0f6, .ref h6, .int h0f8, .ref h7, .ref h8, .int h0f11, .ref h9, .ref h10, .ref h11, .ref h12, .ref h13]), (h3, ob 6 [.ref h16, .int o0, .int h3f2, .int h3f3, .ref h17]), (h16, aI (k 2) 120 anI)] H
set_option maxHeartbeats 4000000 in
set_option maxRecDepth 100000 in
theorem cX10_feed_16af9 (l : Launch) (D : va_G) (k : Nat → ClassId) (sz : Nat) (h0 h3 h16 h1 h2 h4 h5 h6 h7 h8 h9 h10 h11 h12 h13 h17 : Nat) (x1 : Int64) (x2 : Int32) (h0f2 : Int32) (h0f6 : Int32) (h0f8 : Int32) (h0f11 : Int32) (h3f1 : Int32) (h3f2 : Int32) (h3f3 : Int32) (b_h0f2 : 0 ≤ h0f2.toInt ∧ h0f2.toInt ≤ 1) (b_h0f6 : 0 ≤ h0f6.toInt ∧ h0f6.toInt ≤ 1) (b_h0f8 : 0 ≤ h0f8.toInt ∧ h0f8.toInt ≤ 1) (b_h0f11 : 0 ≤ h0f11.toInt ∧ h0f11.toInt ≤ 200) (b_h3f1 : 0 ≤ h3f1.toInt ∧ h3f1.toInt ≤ 120) (b_h3f2 : 0 ≤ h3f2.toInt ∧ h3f2.toInt ≤ 120) (b_h3f3 : 0 ≤ h3f3.toInt ∧ h3f3.toInt ≤ 4) : Met l yX10_feed (Cond.code yX10_feed cX10_feed 4 (some .int) :: uw) Rm_cX10_feed_16af9 (pT D k sz [.ref h0, .long x1, .int x2] [(h0, ob 7 [.ref h1, .ref h2, .int h0f2, .ref h3, .ref h4, .ref h5, .int h0f6, .ref h6, .int h0f8, .ref h7, .ref h8, .int h0f11, .ref h9, .ref h10, .ref h11, .ref h12, .ref h13]), (h3, ob 6 [.ref h16, .int h3f1, .int h3f2, .int h3f3, .ref h17]), (h16, aI (k 2) 120 anI)]) (qI (B_cX10_feed_16af9 D k h0 h3 h16 h1 h2 h4 h5 h6 h7 h8 h9 h10 h11 h12 h13 h17 x1 x2 h0f2 h0f6 h0f8 h0f11 h3f1 h3f2 h3f3 (zA [h0, h3, h16] sz)) (zA [h0, h3, h16] sz)) 0 0 (zA [h0, h3, h16] sz) := by
  refine tz_begin (as := [h0, h3, h16]) (Qc := fun A => qI (B_cX10_feed_16af9 D k h0 h3 h16 h1 h2 h4 h5 h6 h7 h8 h9 h10 h11 h12 h13 h17 x1 x2 h0f2 h0f6 h0f8 h0f11 h3f1 h3f2 h3f3 A) A) (by decide +kernel) rfl (Nat.le_of_ble_eq_true rfl) ?_
  intro p e s m args below meth c ls A Q hx hb hr hml hown hlocks hin hU hK hT hS hA hl hQ
  have hl : lv_has ls 4 [(0, .ref h0), (1, .long x1), (3, .int x2)] := hl
  have hT : TP D A [(h0, ob 7 [.ref h1, .ref h2, .int h0f2, .ref h3, .ref h4, .ref h5, .int h0f6, .ref h6, .int h0f8, .ref h7, .ref h8, .int h0f11, .ref h9, .ref h10, .ref h11, .ref h12, .ref h13]), (h3, ob 6 [.ref h16, .int h3f1, .int h3f2, .int h3f3, .ref h17]), (h16, aI (k 2) 120 anI)] s.heap := hT
  refine lv_iload_n hx hb dX10_feed_0 rfl (lv_at hl 2 rfl) ?_
  refine lv_iconst (v := 1) hx hb dX10_feed_1 (by decide) ?_
  refine lv_icmp_lt (tgt := 11) hx hb dX10_feed_2 (by decide) (fun c_1 => ?_) (fun c_1 => ?_)
  · skip
    have c_1 := ni_lt c_1 rfl li_1
    refine lv_iconst (v := (-1)) hx hb dX10_feed_11 (by decide) ?_
    exact tz_retI (B := B_cX10_feed_16af9 D k h0 h3 h16 h1 h2 h4 h5 h6 h7 h8 h9 h10 h11 h12 h13 h17 x1 x2 h0f2 h0f6 h0f8 h0f11 h3f1 h3f2 h3f3) (v := (-1)) hQ hx hb hr hlocks hS (Nat.le_of_ble_eq_true rfl) (Nat.le_of_ble_eq_true rfl) dX10_feed_12 (⟨h3f1, (by have := li_m1; omega), (by have := li_m1; omega), hT⟩)
  · skip
    have c_1 := ni_nlt c_1 rfl li_1
    refine lv_iload_n hx hb dX10_feed_5 rfl (lv_at hl 2 rfl) ?_
    refine lv_bipush (v := 8) hx hb dX10_feed_6 (by decide) ?_
    refine lv_icmp_le (tgt := 13) hx hb dX10_feed_8 (by decide) (fun c_2 => ?_) (fun c_2 => ?_)
    · skip
      have c_2 := ni_le c_2 rfl li_8
      refine lv_aload_n hx hb dX10_feed_13 rfl (lv_at hl 0 rfl) ?_
      refine tz_get (ci := 7) (v := .ref h3) (C := RX10) (F := TX10) (N := 17) hx hb hU iX10 hown hK hT 0 rfl rfl 3 (by decide) w252 (fun _ h9 => h9) rfl dX10_feed_14 ?_
      refine tz_get (ci := 6) (v := .int h3f1) (C := RX9) (F := TX9) (N := 5) hx hb hU iX9 hown hK hT 1 rfl rfl 1 (by decide) w122 (fun _ h9 => h9) rfl dX10_feed_17 ?_
      refine lv_iload_n hx hb dX10_feed_20 rfl (lv_at hl 2 rfl) ?_
      refine lv_iadd hx hb dX10_feed_21 (lv_topi (fun v3 e_v3 => ?_))
      have e_v3 := ai_add e_v3 rfl rfl (by omega)
      refine lv_bipush (v := 120) hx hb dX10_feed_22 (by decide) ?_
      refine lv_icmp_le (tgt := 30) hx hb dX10_feed_24 (by decide) (fun c_4 => ?_) (fun c_4 => ?_)
      · skip
        have c_4 := ni_le c_4 rfl li_120
        refine lv_aload_n hx hb dX10_feed_30 rfl (lv_at hl 0 rfl) ?_
        refine tz_get (ci := 7) (v := .ref h3) (C := RX10) (F := TX10) (N := 17) hx hb hU iX10 hown hK hT 0 rfl rfl 3 (by decide) w252 (fun _ h9 => h9) rfl dX10_feed_31 ?_
        refine lv_lload_n hx hb dX10_feed_34 rfl (lv_at hl 1 rfl) ?_
        refine lv_iload_n hx hb dX10_feed_35 rfl (lv_at hl 2 rfl) ?_
        refine tcV (Tc := [(h3, ob 6 [.ref h16, .int h3f1, .int h3f2, .int h3f3, .ref h17]), (h16, aI (k 2) 120 anI)]) (Tr := [(h0, ob 7 [.ref h1, .ref h2, .int h0f2, .ref h3, .ref h4, .ref h5, .int h0f6, .ref h6, .int h0f8, .ref h7, .ref h8, .int h0f11, .ref h9, .ref h10, .ref h11, .ref h12, .ref h13])]) (as := [h3, h16]) (zcV (q0 := 1) (ci := 6) (As := [.long x1, .int x2]) (rest := []) (Tc := [(h3, ob 6 [.ref h16, .int h3f1, .int h3f2, .int h3f3, .ref h17]), (h16, aI (k 2) 120 anI)]) hx hb hml hown hU hK hT rfl rfl [1, 2] rfl (by decide) (cX9_receive_a97ee l D k _ h3 h16 h17 x1 x2 h3f1 h3f2 h3f3 (by omega) (by omega) (by omega) (by omega)) w452 w449 w450 w451 w65 hdX9_receive ⟨rfl, rfl⟩ ⟨Nat.le_of_ble_eq_true rfl, Nat.le_of_ble_eq_true rfl⟩ rfl hl.1 (Nat.le_of_ble_eq_true rfl) dX10_feed_36 ⟨Nat.le_of_ble_eq_true rfl, Nat.le_of_ble_eq_true rfl⟩) hT hS hA [1, 2] [0] rfl rfl rfl (by decide) (by decide) (fun H locs hB J hS => ?_)
        obtain ⟨v6, b_v6, hT1⟩ := hB
        have hT := J _ hT1
        have hT : TP D A [(h0, ob 7 [.ref h1, .ref h2, .int h0f2, .ref h3, .ref h4, .ref h5, .int h0f6, .ref h6, .int h0f8, .ref h7, .ref h8, .int h0f11, .ref h9, .ref h10, .ref h11, .ref h12, .ref h13]), (h3, ob 6 [.ref h16, .int v6, .int h3f2, .int h3f3, .ref h17]), (h16, aI (k 2) 120 anI)] _ := hT
        refine lv_aload_n hx hb dX10_feed_39 rfl (lv_at hl 0 rfl) ?_
        refine tz_get (ci := 7) (v := .ref h3) (C := RX10) (F := TX10) (N := 17) hx hb hU iX10 hown hK hT 0 rfl rfl 3 (by decide) w252 (fun _ h9 => h9) rfl dX10_feed_40 ?_
        refine tz_get (ci := 6) (v := .int v6) (C := RX9) (F := TX9) (N := 5) hx hb hU iX9 hown hK hT 1 rfl rfl 1 (by decide) w122 (fun _ h9 => h9) rfl dX10_feed_43 ?_
        exact tz_retI (B := B_cX10_feed_16af9 D k h0 h3 h16 h1 h2 h4 h5 h6 h7 h8 h9 h10 h11 h12 h13 h17 x1 x2 h0f2 h0f6 h0f8 h0f11 h3f1 h3f2 h3f3) (v := v6) hQ hx hb hr hlocks hS (Nat.le_of_ble_eq_true rfl) (Nat.le_of_ble_eq_true rfl) dX10_feed_46 (⟨v6, (by omega), (by omega), hT⟩)
      · skip
        have c_4 := ni_nle c_4 rfl li_120
        refine lv_bipush (v := (-2)) hx hb dX10_feed_27 (by decide) ?_
        exact tz_retI (B := B_cX10_feed_16af9 D k h0 h3 h16 h1 h2 h4 h5 h6 h7 h8 h9 h10 h11 h12 h13 h17 x1 x2 h0f2 h0f6 h0f8 h0f11 h3f1 h3f2 h3f3) (v := (-2)) hQ hx hb hr hlocks hS (Nat.le_of_ble_eq_true rfl) (Nat.le_of_ble_eq_true rfl) dX10_feed_29 (⟨h3f1, (by have := li_m2; omega), (by have := li_m2; omega), hT⟩)
    · skip
      have c_2 := ni_nle c_2 rfl li_8
      refine lv_iconst (v := (-1)) hx hb dX10_feed_11 (by decide) ?_
      exact tz_retI (B := B_cX10_feed_16af9 D k h0 h3 h16 h1 h2 h4 h5 h6 h7 h8 h9 h10 h11 h12 h13 h17 x1 x2 h0f2 h0f6 h0f8 h0f11 h3f1 h3f2 h3f3) (v := (-1)) hQ hx hb hr hlocks hS (Nat.le_of_ble_eq_true rfl) (Nat.le_of_ble_eq_true rfl) dX10_feed_12 (⟨h3f1, (by have := li_m1; omega), (by have := li_m1; omega), hT⟩)
abbrev Rm_cX11_feed_ad661 : Room := { frames := 1, cells := 0, slots := 0, locals := 25 }
abbrev B_cX11_feed_ad661 (D : va_G) (k : Nat → ClassId) (h0 h8 h1 h2 h3 h4 h5 h6 h7 h9 h10 h11 h12 h13 h14 h15 h16 h17 h18 h19 h20 h21 : Nat) (x1 : Int64) (x2 : Int32) (h0f0 : Int32) (h0f1 : Int32) (h0f2 : Int32) (h0f3 : Int32) (h0f4 : Int32) (h0f5 : Int32) (h0f8 : Int32) (h0f9 : Int32) (h0f17 : Int32) (h0f18 : Int32) (h0f19 : Int32) (h0f24 : Int32) (h0f25 : Int32) (h0f30 : Int32) (h0f31 : Int32) (A : Nat → Prop) (r : Int32) (H : Heap) : Prop := ∃ o0 : Int32, (0 ≤ o0.toInt ∧ o0.toInt ≤ 127) ∧ ((-2) ≤ r.toInt ∧ r.toInt ≤ 127) ∧ TP D A [(h0, ob 8 [.int h0f0, .int h0f1, .int h0f2, .int h0f3, .int h0f4, .int h0f5, .ref h1, .ref h2, .int h0f8, .int h0f9, .ref h3, .ref h4, .ref h5, .ref h6, .ref h7, .ref h8, .ref h9, .int o0, .int h0f18, .int h0f19, .ref h10, .ref h11, .ref h12, .ref h13, .int h0f24, .int h0f25, .ref h14, .ref h15, .ref h16, .ref h17, .int h0f30, .int h0f31, .ref h18, .ref h19, .ref h20, .ref h21]), (h8, aI (k 0) 120 anI)] H
set_option maxHeartbeats 4000000 in
set_option maxRecDepth 100000 in
theorem cX11_feed_ad661 (l : Launch) (D : va_G) (k : Nat → ClassId) (sz : Nat) (h0 h8 h1 h2 h3 h4 h5 h6 h7 h9 h10 h11 h12 h13 h14 h15 h16 h17 h18 h19 h20 h21 : Nat) (x1 : Int64) (x2 : Int32) (h0f0 : Int32) (h0f1 : Int32) (h0f2 : Int32) (h0f3 : Int32) (h0f4 : Int32) (h0f5 : Int32) (h0f8 : Int32) (h0f9 : Int32) (h0f17 : Int32) (h0f18 : Int32) (h0f19 : Int32) (h0f24 : Int32) (h0f25 : Int32) (h0f30 : Int32) (h0f31 : Int32) (b_h0f0 : 1 ≤ h0f0.toInt ∧ h0f0.toInt ≤ 3) (b_h0f1 : 0 ≤ h0f1.toInt ∧ h0f1.toInt ≤ 4) (b_h0f3 : 0 ≤ h0f3.toInt ∧ h0f3.toInt ≤ 3) (b_h0f4 : 0 ≤ h0f4.toInt ∧ h0f4.toInt ≤ 4) (b_h0f8 : 0 ≤ h0f8.toInt ∧ h0f8.toInt ≤ 1) (b_h0f9 : 0 ≤ h0f9.toInt ∧ h0f9.toInt ≤ 1) (b_h0f17 : 0 ≤ h0f17.toInt ∧ h0f17.toInt ≤ 120) (b_h0f18 : 0 ≤ h0f18.toInt ∧ h0f18.toInt ≤ 120) (b_h0f19 : 0 ≤ h0f19.toInt ∧ h0f19.toInt ≤ 4) (b_h0f24 : 0 ≤ h0f24.toInt ∧ h0f24.toInt ≤ 100) (b_h0f25 : 0 ≤ h0f25.toInt ∧ h0f25.toInt ≤ 1) (b_h0f30 : 0 ≤ h0f30.toInt ∧ h0f30.toInt ≤ 60) (b_h0f31 : 0 ≤ h0f31.toInt ∧ h0f31.toInt ≤ 1) (i_0 : h0f8.toInt ≤ h0f3.toInt) (i_1 : h0f9.toInt ≤ h0f24.toInt) : Met l yX11_feed (Cond.code yX11_feed cX11_feed 5 (some .int) :: uw) Rm_cX11_feed_ad661 (pT D k sz [.ref h0, .long x1, .int x2] [(h0, ob 8 [.int h0f0, .int h0f1, .int h0f2, .int h0f3, .int h0f4, .int h0f5, .ref h1, .ref h2, .int h0f8, .int h0f9, .ref h3, .ref h4, .ref h5, .ref h6, .ref h7, .ref h8, .ref h9, .int h0f17, .int h0f18, .int h0f19, .ref h10, .ref h11, .ref h12, .ref h13, .int h0f24, .int h0f25, .ref h14, .ref h15, .ref h16, .ref h17, .int h0f30, .int h0f31, .ref h18, .ref h19, .ref h20, .ref h21]), (h8, aI (k 0) 120 anI)]) (qI (B_cX11_feed_ad661 D k h0 h8 h1 h2 h3 h4 h5 h6 h7 h9 h10 h11 h12 h13 h14 h15 h16 h17 h18 h19 h20 h21 x1 x2 h0f0 h0f1 h0f2 h0f3 h0f4 h0f5 h0f8 h0f9 h0f17 h0f18 h0f19 h0f24 h0f25 h0f30 h0f31 (zA [h0, h8] sz)) (zA [h0, h8] sz)) 0 0 (zA [h0, h8] sz) := by
  refine tz_begin (as := [h0, h8]) (Qc := fun A => qI (B_cX11_feed_ad661 D k h0 h8 h1 h2 h3 h4 h5 h6 h7 h9 h10 h11 h12 h13 h14 h15 h16 h17 h18 h19 h20 h21 x1 x2 h0f0 h0f1 h0f2 h0f3 h0f4 h0f5 h0f8 h0f9 h0f17 h0f18 h0f19 h0f24 h0f25 h0f30 h0f31 A) A) (by decide +kernel) rfl (Nat.le_of_ble_eq_true rfl) ?_
  intro p e s m args below meth c ls A Q hx hb hr hml hown hlocks hin hU hK hT hS hA hl hQ
  have hl : lv_has ls 5 [(0, .ref h0), (1, .long x1), (3, .int x2)] := hl
  have hT : TP D A [(h0, ob 8 [.int h0f0, .int h0f1, .int h0f2, .int h0f3, .int h0f4, .int h0f5, .ref h1, .ref h2, .int h0f8, .int h0f9, .ref h3, .ref h4, .ref h5, .ref h6, .ref h7, .ref h8, .ref h9, .int h0f17, .int h0f18, .int h0f19, .ref h10, .ref h11, .ref h12, .ref h13, .int h0f24, .int h0f25, .ref h14, .ref h15, .ref h16, .ref h17, .int h0f30, .int h0f31, .ref h18, .ref h19, .ref h20, .ref h21]), (h8, aI (k 0) 120 anI)] s.heap := hT
  refine lv_iload_n hx hb dX11_feed_0 rfl (lv_at hl 2 rfl) ?_
  have tb_x2 := i32b x2
  obtain ⟨v1, e_v1⟩ : ∃ x : Int64, x2.toInt64 = x := ⟨_, rfl⟩
  refine lv_i2l (v := v1) hx hb dX11_feed_1 e_v1 ?_
  have e_v1 := ai_i2l e_v1 rfl
  refine lv_lconst (v := 1) hx hb dX11_feed_2 (by decide) ?_
  refine lv_ldc2 hx hb hown (hU _ w1004) dX11_feed_3 ?_
  have q_q3 := ll_1
  have q_q4 := ll_8
  refine tcI (Tc := []) (Tr := [(h0, ob 8 [.int h0f0, .int h0f1, .int h0f2, .int h0f3, .int h0f4, .int h0f5, .ref h1, .ref h2, .int h0f8, .int h0f9, .ref h3, .ref h4, .ref h5, .ref h6, .ref h7, .ref h8, .ref h9, .int h0f17, .int h0f18, .int h0f19, .ref h10, .ref h11, .ref h12, .ref h13, .int h0f24, .int h0f25, .ref h14, .ref h15, .ref h16, .ref h17, .int h0f30, .int h0f31, .ref h18, .ref h19, .ref h20, .ref h21]), (h8, aI (k 0) 120 anI)]) (as := []) (zcS (As := [.long v1, .long 1, .long 8]) (rest := []) (Tc := []) hx hb hml hown hU hK hT [] rfl (by decide) (cX11_in_ca3b9 l D k _ v1 (1) (8) (by have := ll_1; omega) (by have := ll_8; omega)) w901 w899 w900 w72 hdX11_in ⟨rfl, rfl⟩ ⟨Nat.le_of_ble_eq_true rfl, Nat.le_of_ble_eq_true rfl⟩ rfl hl.1 (Nat.le_of_ble_eq_true rfl) dX11_feed_6 ⟨Nat.le_of_ble_eq_true rfl, Nat.le_of_ble_eq_true rfl⟩) hT hS hA [] [0, 1] rfl rfl rfl (by decide) (by decide) (fun r2 H locs hB J hS => ?_)
  rcases hB with ⟨rfl, hT1⟩ | ⟨c_5, c_6, rfl, hT1⟩
  · skip
    have hT := J _ hT1
    have hT : TP D A [(h0, ob 8 [.int h0f0, .int h0f1, .int h0f2, .int h0f3, .int h0f4, .int h0f5, .ref h1, .ref h2, .int h0f8, .int h0f9, .ref h3, .ref h4, .ref h5, .ref h6, .ref h7, .ref h8, .ref h9, .int h0f17, .int h0f18, .int h0f19, .ref h10, .ref h11, .ref h12, .ref h13, .int h0f24, .int h0f25, .ref h14, .ref h15, .ref h16, .ref h17, .int h0f30, .int h0f31, .ref h18, .ref h19, .ref h20, .ref h21]), (h8, aI (k 0) 120 anI)] _ := hT
    refine lv_if_ne (tgt := 14) hx hb dX11_feed_9 (by decide) (fun cc => absurd (by decide +kernel) cc) (fun _ => ?_)
    refine lv_iconst (v := (-1)) hx hb dX11_feed_12 (by decide) ?_
    exact tz_retI (B := B_cX11_feed_ad661 D k h0 h8 h1 h2 h3 h4 h5 h6 h7 h9 h10 h11 h12 h13 h14 h15 h16 h17 h18 h19 h20 h21 x1 x2 h0f0 h0f1 h0f2 h0f3 h0f4 h0f5 h0f8 h0f9 h0f17 h0f18 h0f19 h0f24 h0f25 h0f30 h0f31) (v := (-1)) hQ hx hb hr hlocks hS (Nat.le_of_ble_eq_true rfl) (Nat.le_of_ble_eq_true rfl) dX11_feed_13 (⟨h0f17, (by have := li_m1; omega), (by have := li_m1; omega), hT⟩)
  · skip
    have hT := J _ hT1
    have hT : TP D A [(h0, ob 8 [.int h0f0, .int h0f1, .int h0f2, .int h0f3, .int h0f4, .int h0f5, .ref h1, .ref h2, .int h0f8, .int h0f9, .ref h3, .ref h4, .ref h5, .ref h6, .ref h7, .ref h8, .ref h9, .int h0f17, .int h0f18, .int h0f19, .ref h10, .ref h11, .ref h12, .ref h13, .int h0f24, .int h0f25, .ref h14, .ref h15, .ref h16, .ref h17, .int h0f30, .int h0f31, .ref h18, .ref h19, .ref h20, .ref h21]), (h8, aI (k 0) 120 anI)] _ := hT
    refine lv_if_ne (tgt := 14) hx hb dX11_feed_9 (by decide) (fun _ => ?_) (fun cc => absurd cc (by decide +kernel))
    refine lv_aload_n hx hb dX11_feed_14 rfl (lv_at hl 0 rfl) ?_
    refine tz_get (ci := 8) (v := .int h0f17) (C := RX11) (F := TX11) (N := 36) hx hb hU iX11 hown hK hT 0 rfl rfl 17 (by decide) w802 (fun _ h9 => h9) rfl dX11_feed_15 ?_
    refine lv_iload_n hx hb dX11_feed_18 rfl (lv_at hl 2 rfl) ?_
    refine lv_iadd hx hb dX11_feed_19 (lv_topi (fun v7 e_v7 => ?_))
    have e_v7 := ai_add e_v7 rfl rfl (by omega)
    refine lv_bipush (v := 120) hx hb dX11_feed_20 (by decide) ?_
    refine lv_icmp_le (tgt := 28) hx hb dX11_feed_22 (by decide) (fun c_8 => ?_) (fun c_8 => ?_)
    · skip
      have c_8 := ni_le c_8 rfl li_120
      refine lv_iconst (v := 0) hx hb dX11_feed_28 (by decide) ?_
      refine lv_istore (lv' := [(4, .int 0), (0, .ref h0), (1, .long x1), (3, .int x2)]) hx hb dX11_feed_29 hl (by decide) rfl (fun ls hl => ?_)
      have lp31_23 : ∀ (n : Nat) (y21 : Int32) (y22 : Int32) (H : Heap) (locs : List Loc) (ls : Array Slot), (0 ≤ y21.toInt ∧ y21.toInt ≤ 8) → (0 ≤ y22.toInt ∧ y22.toInt ≤ 127) → (y22.toInt + x2.toInt + (-1) * y21.toInt ≤ 120) → (x2.toInt + (-1) * y21.toInt + 1).toNat < n → TP D A [(h0, ob 8 [.int h0f0, .int h0f1, .int h0f2, .int h0f3, .int h0f4, .int h0f5, .ref h1, .ref h2, .int h0f8, .int h0f9, .ref h3, .ref h4, .ref h5, .ref h6, .ref h7, .ref h8, .ref h9, .int y22, .int h0f18, .int h0f19, .ref h10, .ref h11, .ref h12, .ref h13, .int h0f24, .int h0f25, .ref h14, .ref h15, .ref h16, .ref h17, .int h0f30, .int h0f31, .ref h18, .ref h19, .ref h20, .ref h21]), (h8, aI (k 0) 120 anI)] H → va_S A s.heap H locs → lv_has ls 5 [(0, .ref h0), (1, .long x1), (3, .int x2), (4, .int y21)] → W p l e Rm_cX11_feed_ad661 s m args below meth c H locs 0 0 Q (F0 m 31 ls []) := by
        intro n
        induction n with
        | zero => intro y21 y22 H locs ls b_y21 b_y22 x_0 hm hT hS hl; exact absurd hm (Nat.not_lt_zero _)
        | succ n ih =>
          intro y21 y22 H locs ls b_y21 b_y22 x_0 hm hT hS hl
          have ih31_23 := ih
          clear ih
          refine lv_iload hx hb dX11_feed_31 (lv_at hl 3 rfl) ?_
          refine lv_iload_n hx hb dX11_feed_33 rfl (lv_at hl 2 rfl) ?_
          refine lv_icmp_ge (tgt := 74) hx hb dX11_feed_34 (by decide) (fun c_24 => ?_) (fun c_24 => ?_)
          · skip
            have c_24 := ni_le c_24 rfl rfl
            refine lv_aload_n hx hb dX11_feed_74 rfl (lv_at hl 0 rfl) ?_
            refine tz_get (ci := 8) (v := .int y22) (C := RX11) (F := TX11) (N := 36) hx hb hU iX11 hown hK hT 0 rfl rfl 17 (by decide) w802 (fun _ h9 => h9) rfl dX11_feed_75 ?_
            exact tz_retI (B := B_cX11_feed_ad661 D k h0 h8 h1 h2 h3 h4 h5 h6 h7 h9 h10 h11 h12 h13 h14 h15 h16 h17 h18 h19 h20 h21 x1 x2 h0f0 h0f1 h0f2 h0f3 h0f4 h0f5 h0f8 h0f9 h0f17 h0f18 h0f19 h0f24 h0f25 h0f30 h0f31) (v := y22) hQ hx hb hr hlocks hS (Nat.le_of_ble_eq_true rfl) (Nat.le_of_ble_eq_true rfl) dX11_feed_78 (⟨y22, (by omega), (by omega), hT⟩)
          · skip
            have c_24 := ni_nle c_24 rfl rfl
            refine lv_aload_n hx hb dX11_feed_37 rfl (lv_at hl 0 rfl) ?_
            refine tz_get (ci := 8) (v := .ref h8) (C := RX11) (F := TX11) (N := 36) hx hb hU iX11 hown hK hT 0 rfl rfl 15 (by decide) w800 (fun _ h9 => h9) rfl dX11_feed_38 ?_
            refine lv_aload_n hx hb dX11_feed_41 rfl (lv_at hl 0 rfl) ?_
            refine tz_get (ci := 8) (v := .int y22) (C := RX11) (F := TX11) (N := 36) hx hb hU iX11 hown hK hT 0 rfl rfl 17 (by decide) w802 (fun _ h9 => h9) rfl dX11_feed_42 ?_
            refine lv_lload_n hx hb dX11_feed_45 rfl (lv_at hl 1 rfl) ?_
            refine lv_bipush (v := 8) hx hb dX11_feed_46 (by decide) ?_
            refine lv_iload hx hb dX11_feed_48 (lv_at hl 3 rfl) ?_
            refine lv_imul hx hb dX11_feed_50 (lv_topi (fun v25 e_v25 => ?_))
            have e_v25 := ai_mul e_v25 li_8 rfl (by omega)
            refine lv_lshr hx hb dX11_feed_51 rfl (lv_topl (fun v26 _ => ?_))
            refine lv_ldc2 hx hb hown (hU _ w1005) dX11_feed_52 ?_
            refine lv_land hx hb dX11_feed_55 (lv_topl (fun v27 e_v27 => ?_))
            refine lv_l2i hx hb dX11_feed_56 rfl (lv_topi (fun v28 _ => ?_))
            refine tz_iast hx hb hK hT hS 1 rfl (by omega) (fun _ _ => trivial) dX11_feed_57 (fun H locs hT hS => ?_)
            refine lv_aload_n hx hb dX11_feed_58 rfl (lv_at hl 0 rfl) ?_
            refine lv_dup hx hb dX11_feed_59 rfl ?_
            refine tz_get (ci := 8) (v := .int y22) (C := RX11) (F := TX11) (N := 36) hx hb hU iX11 hown hK hT 0 rfl rfl 17 (by decide) w802 (fun _ h9 => h9) rfl dX11_feed_60 ?_
            refine lv_iconst (v := 1) hx hb dX11_feed_63 (by decide) ?_
            refine lv_iadd hx hb dX11_feed_64 (lv_topi (fun v29 e_v29 => ?_))
            have e_v29 := ai_add e_v29 rfl li_1 (by omega)
            refine tz_put (ci := 8) (v := .int v29) (ty := .int) (C := RX11) (F := TX11) (N := 36) hx hb hU iX11 tyX11 tyX11_ok nmX11 hown hK hT hS 0 rfl rfl 17 (by decide) w802 (fun _ h9 => h9) rfl (by decide +kernel) rfl rfl (Nat.le_of_ble_eq_true rfl) dX11_feed_65 (fun H locs hT hS => ?_)
            have hT : TP D A [(h0, ob 8 [.int h0f0, .int h0f1, .int h0f2, .int h0f3, .int h0f4, .int h0f5, .ref h1, .ref h2, .int h0f8, .int h0f9, .ref h3, .ref h4, .ref h5, .ref h6, .ref h7, .ref h8, .ref h9, .int v29, .int h0f18, .int h0f19, .ref h10, .ref h11, .ref h12, .ref h13, .int h0f24, .int h0f25, .ref h14, .ref h15, .ref h16, .ref h17, .int h0f30, .int h0f31, .ref h18, .ref h19, .ref h20, .ref h21]), (h8, aI (k 0) 120 anI)] _ := hT
            obtain ⟨v30, e_v30⟩ : ∃ x : Int32, x = y21 + Int32.ofInt 1 := ⟨_, rfl⟩
            have f_v30 := e_v30.symm
            have e_v30 : v30.toInt = y21.toInt + 1 := ai_add e_v30 rfl (show (Int32.ofInt 1).toInt = 1 from (by decide +kernel)) (by omega)
            refine lv_iinc (v := v30) (lv' := [(4, .int v30), (0, .ref h0), (1, .long x1), (3, .int x2)]) hx hb dX11_feed_68 hl (k := 3) rfl f_v30 (by decide) rfl (fun ls hl => ?_)
            refine lv_goto (tgt := 31) hx hb dX11_feed_71 (by decide) ?_
            exact ih31_23 v30 v29 _ _ _ (by omega) (by omega) (by omega) (by omega) hT hS (lv_sub hl [1, 2, 3, 0] rfl)
      exact lp31_23 ((x2.toInt + (-1) * (0 : Int32).toInt + 1).toNat + 1) (0) h0f17 _ _ _ (by have := li_0; omega) (by have := li_0; omega) (by have := li_0; omega) (Nat.lt_succ_self _) hT hS (lv_sub hl [1, 2, 3, 0] rfl)
    · skip
      have c_8 := ni_nle c_8 rfl li_120
      refine lv_bipush (v := (-2)) hx hb dX11_feed_25 (by decide) ?_
      exact tz_retI (B := B_cX11_feed_ad661 D k h0 h8 h1 h2 h3 h4 h5 h6 h7 h9 h10 h11 h12 h13 h14 h15 h16 h17 h18 h19 h20 h21 x1 x2 h0f0 h0f1 h0f2 h0f3 h0f4 h0f5 h0f8 h0f9 h0f17 h0f18 h0f19 h0f24 h0f25 h0f30 h0f31) (v := (-2)) hQ hx hb hr hlocks hS (Nat.le_of_ble_eq_true rfl) (Nat.le_of_ble_eq_true rfl) dX11_feed_27 (⟨h0f17, (by have := li_m2; omega), (by have := li_m2; omega), hT⟩)
abbrev Rm_cX9_skipBlanks_4b650 : Room := { frames := 0, cells := 0, slots := 0, locals := 0 }
abbrev B_cX9_skipBlanks_4b650 (D : va_G) (k : Nat → ClassId) (h0 h1 h2 : Nat) (h0f1 : Int32) (h0f2 : Int32) (h0f3 : Int32) (A : Nat → Prop) (H : Heap) : Prop := ∃ o0 : Int32, (0 ≤ o0.toInt ∧ o0.toInt ≤ 120) ∧ TP D A [(h0, ob 6 [.ref h1, .int h0f1, .int o0, .int h0f3, .ref h2]), (h1, aI (k 2) 120 anI)] H
set_option maxHeartbeats 4000000 in
set_option maxRecDepth 100000 in
theorem cX9_skipBlanks_4b650 (l : Launch) (D : va_G) (k : Nat → ClassId) (sz : Nat) (h0 h1 h2 : Nat) (h0f1 : Int32) (h0f2 : Int32) (h0f3 : Int32) (b_h0f1 : 0 ≤ h0f1.toInt ∧ h0f1.toInt ≤ 120) (b_h0f2 : 0 ≤ h0f2.toInt ∧ h0f2.toInt ≤ 120) (b_h0f3 : 0 ≤ h0f3.toInt ∧ h0f3.toInt ≤ 4) : Met l yX9_skipBlanks (Cond.code yX9_skipBlanks cX9_skipBlanks 1 none :: uw) Rm_cX9_skipBlanks_4b650 (pT D k sz [.ref h0] [(h0, ob 6 [.ref h1, .int h0f1, .int h0f2, .int h0f3, .ref h2]), (h1, aI (k 2) 120 anI)]) (qV (B_cX9_skipBlanks_4b650 D k h0 h1 h2 h0f1 h0f2 h0f3 (zA [h0, h1] sz)) (zA [h0, h1] sz)) 0 0 (zA [h0, h1] sz) := by
  refine tz_begin (as := [h0, h1]) (Qc := fun A => qV (B_cX9_skipBlanks_4b650 D k h0 h1 h2 h0f1 h0f2 h0f3 A) A) (by decide +kernel) rfl (Nat.le_of_ble_eq_true rfl) ?_
  intro p e s m args below meth c ls A Q hx hb hr hml hown hlocks hin hU hK hT hS hA hl hQ
  have hl : lv_has ls 1 [(0, .ref h0)] := hl
  have hT : TP D A [(h0, ob 6 [.ref h1, .int h0f1, .int h0f2, .int h0f3, .ref h2]), (h1, aI (k 2) 120 anI)] s.heap := hT
  have lp0_2 : ∀ (n : Nat) (y1 : Int32) (H : Heap) (locs : List Loc) (ls : Array Slot), (0 ≤ y1.toInt ∧ y1.toInt ≤ 120) → (h0f1.toInt + (-1) * y1.toInt + 1).toNat < n → TP D A [(h0, ob 6 [.ref h1, .int h0f1, .int y1, .int h0f3, .ref h2]), (h1, aI (k 2) 120 anI)] H → va_S A s.heap H locs → lv_has ls 1 [(0, .ref h0)] → W p l e Rm_cX9_skipBlanks_4b650 s m args below meth c H locs 0 0 Q (F0 m 0 ls []) := by
    intro n
    induction n with
    | zero => intro y1 H locs ls b_y1 hm hT hS hl; exact absurd hm (Nat.not_lt_zero _)
    | succ n ih =>
      intro y1 H locs ls b_y1 hm hT hS hl
      have ih0_2 := ih
      clear ih
      refine lv_aload_n hx hb dX9_skipBlanks_0 rfl (lv_at hl 0 rfl) ?_
      refine tz_get (ci := 6) (v := .int y1) (C := RX9) (F := TX9) (N := 5) hx hb hU iX9 hown hK hT 0 rfl rfl 2 (by decide) w123 (fun _ h9 => h9) rfl dX9_skipBlanks_1 ?_
      refine lv_aload_n hx hb dX9_skipBlanks_4 rfl (lv_at hl 0 rfl) ?_
      refine tz_get (ci := 6) (v := .int h0f1) (C := RX9) (F := TX9) (N := 5) hx hb hU iX9 hown hK hT 0 rfl rfl 1 (by decide) w121 (fun _ h9 => h9) rfl dX9_skipBlanks_5 ?_
      refine lv_icmp_ge (tgt := 38) hx hb dX9_skipBlanks_8 (by decide) (fun c_3 => ?_) (fun c_3 => ?_)
      · skip
        have c_3 := ni_le c_3 rfl rfl
        exact tz_retV (B := B_cX9_skipBlanks_4b650 D k h0 h1 h2 h0f1 h0f2 h0f3) hQ hx hb hr hlocks hS (Nat.le_of_ble_eq_true rfl) (Nat.le_of_ble_eq_true rfl) dX9_skipBlanks_38 (⟨y1, (by omega), hT⟩)
      · skip
        have c_3 := ni_nle c_3 rfl rfl
        refine lv_aload_n hx hb dX9_skipBlanks_11 rfl (lv_at hl 0 rfl) ?_
        refine tz_get (ci := 6) (v := .ref h1) (C := RX9) (F := TX9) (N := 5) hx hb hU iX9 hown hK hT 0 rfl rfl 0 (by decide) w120 (fun _ h9 => h9) rfl dX9_skipBlanks_12 ?_
        refine lv_aload_n hx hb dX9_skipBlanks_15 rfl (lv_at hl 0 rfl) ?_
        refine tz_get (ci := 6) (v := .int y1) (C := RX9) (F := TX9) (N := 5) hx hb hU iX9 hown hK hT 0 rfl rfl 2 (by decide) w123 (fun _ h9 => h9) rfl dX9_skipBlanks_16 ?_
        refine tz_bald hx hb hK hT 1 rfl (by omega) dX9_skipBlanks_19 (fun v4 e_v4 => ?_)
        clear e_v4
        refine lv_bipush (v := 32) hx hb dX9_skipBlanks_20 (by decide) ?_
        refine lv_icmp_ne (tgt := 38) hx hb dX9_skipBlanks_22 (by decide) (fun c_5 => ?_) (fun c_5 => ?_)
        · skip
          have c_5 := ni_ne c_5 rfl li_32
          exact tz_retV (B := B_cX9_skipBlanks_4b650 D k h0 h1 h2 h0f1 h0f2 h0f3) hQ hx hb hr hlocks hS (Nat.le_of_ble_eq_true rfl) (Nat.le_of_ble_eq_true rfl) dX9_skipBlanks_38 (⟨y1, (by omega), hT⟩)
        · skip
          have c_5 := ni_eq c_5 rfl li_32
          refine lv_aload_n hx hb dX9_skipBlanks_25 rfl (lv_at hl 0 rfl) ?_
          refine lv_dup hx hb dX9_skipBlanks_26 rfl ?_
          refine tz_get (ci := 6) (v := .int y1) (C := RX9) (F := TX9) (N := 5) hx hb hU iX9 hown hK hT 0 rfl rfl 2 (by decide) w123 (fun _ h9 => h9) rfl dX9_skipBlanks_27 ?_
          refine lv_iconst (v := 1) hx hb dX9_skipBlanks_30 (by decide) ?_
          refine lv_iadd hx hb dX9_skipBlanks_31 (lv_topi (fun v6 e_v6 => ?_))
          have e_v6 := ai_add e_v6 rfl li_1 (by omega)
          refine tz_put (ci := 6) (v := .int v6) (ty := .int) (C := RX9) (F := TX9) (N := 5) hx hb hU iX9 tyX9 tyX9_ok nmX9 hown hK hT hS 0 rfl rfl 2 (by decide) w123 (fun _ h9 => h9) rfl (by decide +kernel) rfl rfl (Nat.le_of_ble_eq_true rfl) dX9_skipBlanks_32 (fun H locs hT hS => ?_)
          have hT : TP D A [(h0, ob 6 [.ref h1, .int h0f1, .int v6, .int h0f3, .ref h2]), (h1, aI (k 2) 120 anI)] _ := hT
          refine lv_goto (tgt := 0) hx hb dX9_skipBlanks_35 (by decide) ?_
          exact ih0_2 v6 _ _ _ (by omega)  (by omega) hT hS hl
  exact lp0_2 ((h0f1.toInt + (-1) * h0f2.toInt + 1).toNat + 1) h0f2 _ _ _ (by omega)  (Nat.lt_succ_self _) hT hS hl
abbrev Rm_cX9_pass_8ea59 : Room := { frames := 1, cells := 0, slots := 0, locals := 20 }
abbrev B_cX9_pass_8ea59 (D : va_G) (k : Nat → ClassId) (h0 h1 h2 : Nat) (x1 : Int32) (h0f1 : Int32) (h0f2 : Int32) (h0f3 : Int32) (A : Nat → Prop) (r : Int32) (H : Heap) : Prop := (∃ o0 : Int32, (0 ≤ o0.toInt ∧ o0.toInt ≤ 120) ∧ 0 = r ∧ TP D A [(h0, ob 6 [.ref h1, .int h0f1, .int o0, .int h0f3, .ref h2]), (h1, aI (k 2) 120 anI)] H) ∨ (∃ o0 : Int32, ∃ o1 : Int32, ∃ o2 : Int32, (1 ≤ o0.toInt ∧ o0.toInt ≤ 120) ∧ (0 ≤ o1.toInt ∧ o1.toInt ≤ 119) ∧ (45 ≤ o2.toInt ∧ o2.toInt ≤ 59) ∧ o1.toInt < h0f1.toInt ∧ o2.toInt = x1.toInt ∧ 1 = r ∧ TP D A [(h0, ob 6 [.ref h1, .int h0f1, .int o0, .int h0f3, .ref h2]), (h1, aI (k 2) 120 anI)] H)
set_option maxHeartbeats 4000000 in
set_option maxRecDepth 100000 in
theorem cX9_pass_8ea59 (l : Launch) (D : va_G) (k : Nat → ClassId) (sz : Nat) (h0 h1 h2 : Nat) (x1 : Int32) (h0f1 : Int32) (h0f2 : Int32) (h0f3 : Int32) (b_x1 : 45 ≤ x1.toInt ∧ x1.toInt ≤ 59) (b_h0f1 : 1 ≤ h0f1.toInt ∧ h0f1.toInt ≤ 120) (b_h0f2 : 0 ≤ h0f2.toInt ∧ h0f2.toInt ≤ 120) (b_h0f3 : 0 ≤ h0f3.toInt ∧ h0f3.toInt ≤ 3) : Met l yX9_pass (Cond.code yX9_pass cX9_pass 2 (some .boolean) :: uw) Rm_cX9_pass_8ea59 (pT D k sz [.ref h0, .int x1] [(h0, ob 6 [.ref h1, .int h0f1, .int h0f2, .int h0f3, .ref h2]), (h1, aI (k 2) 120 anI)]) (qI (B_cX9_pass_8ea59 D k h0 h1 h2 x1 h0f1 h0f2 h0f3 (zA [h0, h1] sz)) (zA [h0, h1] sz)) 0 0 (zA [h0, h1] sz) := by
  refine tz_begin (as := [h0, h1]) (Qc := fun A => qI (B_cX9_pass_8ea59 D k h0 h1 h2 x1 h0f1 h0f2 h0f3 A) A) (by decide +kernel) rfl (Nat.le_of_ble_eq_true rfl) ?_
  intro p e s m args below meth c ls A Q hx hb hr hml hown hlocks hin hU hK hT hS hA hl hQ
  have hl : lv_has ls 2 [(0, .ref h0), (1, .int x1)] := hl
  have hT : TP D A [(h0, ob 6 [.ref h1, .int h0f1, .int h0f2, .int h0f3, .ref h2]), (h1, aI (k 2) 120 anI)] s.heap := hT
  refine lv_aload_n hx hb dX9_pass_0 rfl (lv_at hl 0 rfl) ?_
  refine tcV (Tc := [(h0, ob 6 [.ref h1, .int h0f1, .int h0f2, .int h0f3, .ref h2]), (h1, aI (k 2) 120 anI)]) (Tr := []) (as := [h0, h1]) (zcV (q0 := 0) (ci := 6) (As := []) (rest := []) (Tc := [(h0, ob 6 [.ref h1, .int h0f1, .int h0f2, .int h0f3, .ref h2]), (h1, aI (k 2) 120 anI)]) hx hb hml hown hU hK hT rfl rfl [0, 1] rfl (by decide) (cX9_skipBlanks_4b650 l D k _ h0 h1 h2 h0f1 h0f2 h0f3 (by omega) (by omega) (by omega)) w464 w461 w463 w5 w65 hdX9_skipBlanks ⟨rfl, rfl⟩ ⟨Nat.le_of_ble_eq_true rfl, Nat.le_of_ble_eq_true rfl⟩ rfl hl.1 (Nat.le_of_ble_eq_true rfl) dX9_pass_1 ⟨Nat.le_of_ble_eq_true rfl, Nat.le_of_ble_eq_true rfl⟩) hT hS hA [0, 1] [] rfl rfl rfl (by decide) (by decide) (fun H locs hB J hS => ?_)
  obtain ⟨v2, b_v2, hT1⟩ := hB
  have hT := J _ hT1
  have hT : TP D A [(h0, ob 6 [.ref h1, .int h0f1, .int v2, .int h0f3, .ref h2]), (h1, aI (k 2) 120 anI)] _ := hT
  refine lv_aload_n hx hb dX9_pass_4 rfl (lv_at hl 0 rfl) ?_
  refine tz_get (ci := 6) (v := .int v2) (C := RX9) (F := TX9) (N := 5) hx hb hU iX9 hown hK hT 0 rfl rfl 2 (by decide) w123 (fun _ h9 => h9) rfl dX9_pass_5 ?_
  refine lv_aload_n hx hb dX9_pass_8 rfl (lv_at hl 0 rfl) ?_
  refine tz_get (ci := 6) (v := .int h0f1) (C := RX9) (F := TX9) (N := 5) hx hb hU iX9 hown hK hT 0 rfl rfl 1 (by decide) w121 (fun _ h9 => h9) rfl dX9_pass_9 ?_
  refine lv_icmp_ge (tgt := 28) hx hb dX9_pass_12 (by decide) (fun c_3 => ?_) (fun c_3 => ?_)
  · skip
    have c_3 := ni_le c_3 rfl rfl
    refine lv_iconst (v := 0) hx hb dX9_pass_28 (by decide) ?_
    exact tz_retZ (B := B_cX9_pass_8ea59 D k h0 h1 h2 x1 h0f1 h0f2 h0f3) (v := 0) hQ hx hb hr hlocks hS (Nat.le_of_ble_eq_true rfl) (Nat.le_of_ble_eq_true rfl) dX9_pass_29 (by have := li_0; omega) (Or.inl ⟨v2, (by have := li_0; omega), rfl, hT⟩)
  · skip
    have c_3 := ni_nle c_3 rfl rfl
    refine lv_aload_n hx hb dX9_pass_15 rfl (lv_at hl 0 rfl) ?_
    refine tz_get (ci := 6) (v := .ref h1) (C := RX9) (F := TX9) (N := 5) hx hb hU iX9 hown hK hT 0 rfl rfl 0 (by decide) w120 (fun _ h9 => h9) rfl dX9_pass_16 ?_
    refine lv_aload_n hx hb dX9_pass_19 rfl (lv_at hl 0 rfl) ?_
    refine tz_get (ci := 6) (v := .int v2) (C := RX9) (F := TX9) (N := 5) hx hb hU iX9 hown hK hT 0 rfl rfl 2 (by decide) w123 (fun _ h9 => h9) rfl dX9_pass_20 ?_
    refine tz_bald hx hb hK hT 1 rfl (by omega) dX9_pass_23 (fun v4 e_v4 => ?_)
    clear e_v4
    refine lv_iload_n hx hb dX9_pass_24 rfl (lv_at hl 1 rfl) ?_
    refine lv_icmp_eq (tgt := 30) hx hb dX9_pass_25 (by decide) (fun c_5 => ?_) (fun c_5 => ?_)
    · skip
      have c_5 := ni_eq c_5 rfl rfl
      refine lv_aload_n hx hb dX9_pass_30 rfl (lv_at hl 0 rfl) ?_
      refine lv_dup hx hb dX9_pass_31 rfl ?_
      refine tz_get (ci := 6) (v := .int v2) (C := RX9) (F := TX9) (N := 5) hx hb hU iX9 hown hK hT 0 rfl rfl 2 (by decide) w123 (fun _ h9 => h9) rfl dX9_pass_32 ?_
      refine lv_iconst (v := 1) hx hb dX9_pass_35 (by decide) ?_
      refine lv_iadd hx hb dX9_pass_36 (lv_topi (fun v6 e_v6 => ?_))
      have e_v6 := ai_add e_v6 rfl li_1 (by omega)
      refine tz_put (ci := 6) (v := .int v6) (ty := .int) (C := RX9) (F := TX9) (N := 5) hx hb hU iX9 tyX9 tyX9_ok nmX9 hown hK hT hS 0 rfl rfl 2 (by decide) w123 (fun _ h9 => h9) rfl (by decide +kernel) rfl rfl (Nat.le_of_ble_eq_true rfl) dX9_pass_37 (fun H locs hT hS => ?_)
      have hT : TP D A [(h0, ob 6 [.ref h1, .int h0f1, .int v6, .int h0f3, .ref h2]), (h1, aI (k 2) 120 anI)] _ := hT
      refine lv_iconst (v := 1) hx hb dX9_pass_40 (by decide) ?_
      exact tz_retZ (B := B_cX9_pass_8ea59 D k h0 h1 h2 x1 h0f1 h0f2 h0f3) (v := 1) hQ hx hb hr hlocks hS (Nat.le_of_ble_eq_true rfl) (Nat.le_of_ble_eq_true rfl) dX9_pass_41 (by have := li_1; omega) (Or.inr (⟨v6, v2, v4, (by have := li_1; omega), (by have := li_1; omega), (by have := li_1; omega), (by have := li_1; omega), (by have := li_1; omega), rfl, hT⟩))
    · skip
      have c_5 := ni_ne c_5 rfl rfl
      refine lv_iconst (v := 0) hx hb dX9_pass_28 (by decide) ?_
      exact tz_retZ (B := B_cX9_pass_8ea59 D k h0 h1 h2 x1 h0f1 h0f2 h0f3) (v := 0) hQ hx hb hr hlocks hS (Nat.le_of_ble_eq_true rfl) (Nat.le_of_ble_eq_true rfl) dX9_pass_29 (by have := li_0; omega) (Or.inl ⟨v2, (by have := li_0; omega), rfl, hT⟩)
abbrev Rm_cX9_isDigit_872e6 : Room := { frames := 0, cells := 0, slots := 0, locals := 0 }
abbrev B_cX9_isDigit_872e6 (D : va_G) (k : Nat → ClassId) (h0 h1 h2 : Nat) (h0f1 : Int32) (h0f2 : Int32) (h0f3 : Int32) (A : Nat → Prop) (r : Int32) (H : Heap) : Prop := (0 = r ∧ TP D A [(h0, ob 6 [.ref h1, .int h0f1, .int h0f2, .int h0f3, .ref h2]), (h1, aI (k 2) 120 anI)] H) ∨ (∃ o0 : Int32, ∃ o1 : Int32, 48 ≤ o0.toInt ∧ o1.toInt ≤ 57 ∧ h0f2.toInt < h0f1.toInt ∧ 48 ≤ o0.toInt ∧ o1.toInt ≤ 57 ∧ 1 = r ∧ TP D A [(h0, ob 6 [.ref h1, .int h0f1, .int h0f2, .int h0f3, .ref h2]), (h1, aI (k 2) 120 anI)] H)
set_option maxHeartbeats 4000000 in
set_option maxRecDepth 100000 in
theorem cX9_isDigit_872e6 (l : Launch) (D : va_G) (k : Nat → ClassId) (sz : Nat) (h0 h1 h2 : Nat) (h0f1 : Int32) (h0f2 : Int32) (h0f3 : Int32) (b_h0f1 : 1 ≤ h0f1.toInt ∧ h0f1.toInt ≤ 120) (b_h0f2 : 0 ≤ h0f2.toInt ∧ h0f2.toInt ≤ 120) (b_h0f3 : 0 ≤ h0f3.toInt ∧ h0f3.toInt ≤ 3) : Met l yX9_isDigit (Cond.code yX9_isDigit cX9_isDigit 1 (some .boolean) :: uw) Rm_cX9_isDigit_872e6 (pT D k sz [.ref h0] [(h0, ob 6 [.ref h1, .int h0f1, .int h0f2, .int h0f3, .ref h2]), (h1, aI (k 2) 120 anI)]) (qI (B_cX9_isDigit_872e6 D k h0 h1 h2 h0f1 h0f2 h0f3 (zA [h0, h1] sz)) (zA [h0, h1] sz)) 0 0 (zA [h0, h1] sz) := by
  refine tz_begin (as := [h0, h1]) (Qc := fun A => qI (B_cX9_isDigit_872e6 D k h0 h1 h2 h0f1 h0f2 h0f3 A) A) (by decide +kernel) rfl (Nat.le_of_ble_eq_true rfl) ?_
  intro p e s m args below meth c ls A Q hx hb hr hml hown hlocks hin hU hK hT hS hA hl hQ
  have hl : lv_has ls 1 [(0, .ref h0)] := hl
  have hT : TP D A [(h0, ob 6 [.ref h1, .int h0f1, .int h0f2, .int h0f3, .ref h2]), (h1, aI (k 2) 120 anI)] s.heap := hT
  refine lv_aload_n hx hb dX9_isDigit_0 rfl (lv_at hl 0 rfl) ?_
  refine tz_get (ci := 6) (v := .int h0f2) (C := RX9) (F := TX9) (N := 5) hx hb hU iX9 hown hK hT 0 rfl rfl 2 (by decide) w123 (fun _ h9 => h9) rfl dX9_isDigit_1 ?_
  refine lv_aload_n hx hb dX9_isDigit_4 rfl (lv_at hl 0 rfl) ?_
  refine tz_get (ci := 6) (v := .int h0f1) (C := RX9) (F := TX9) (N := 5) hx hb hU iX9 hown hK hT 0 rfl rfl 1 (by decide) w121 (fun _ h9 => h9) rfl dX9_isDigit_5 ?_
  refine lv_icmp_ge (tgt := 43) hx hb dX9_isDigit_8 (by decide) (fun c_1 => ?_) (fun c_1 => ?_)
  · skip
    have c_1 := ni_le c_1 rfl rfl
    refine lv_iconst (v := 0) hx hb dX9_isDigit_43 (by decide) ?_
    exact tz_retZ (B := B_cX9_isDigit_872e6 D k h0 h1 h2 h0f1 h0f2 h0f3) (v := 0) hQ hx hb hr hlocks hS (Nat.le_of_ble_eq_true rfl) (Nat.le_of_ble_eq_true rfl) dX9_isDigit_44 (by have := li_0; omega) (Or.inl ⟨rfl, hT⟩)
  · skip
    have c_1 := ni_nle c_1 rfl rfl
    refine lv_aload_n hx hb dX9_isDigit_11 rfl (lv_at hl 0 rfl) ?_
    refine tz_get (ci := 6) (v := .ref h1) (C := RX9) (F := TX9) (N := 5) hx hb hU iX9 hown hK hT 0 rfl rfl 0 (by decide) w120 (fun _ h9 => h9) rfl dX9_isDigit_12 ?_
    refine lv_aload_n hx hb dX9_isDigit_15 rfl (lv_at hl 0 rfl) ?_
    refine tz_get (ci := 6) (v := .int h0f2) (C := RX9) (F := TX9) (N := 5) hx hb hU iX9 hown hK hT 0 rfl rfl 2 (by decide) w123 (fun _ h9 => h9) rfl dX9_isDigit_16 ?_
    refine tz_bald hx hb hK hT 1 rfl (by omega) dX9_isDigit_19 (fun v2 e_v2 => ?_)
    clear e_v2
    refine lv_bipush (v := 48) hx hb dX9_isDigit_20 (by decide) ?_
    refine lv_icmp_lt (tgt := 43) hx hb dX9_isDigit_22 (by decide) (fun c_3 => ?_) (fun c_3 => ?_)
    · skip
      have c_3 := ni_lt c_3 rfl li_48
      refine lv_iconst (v := 0) hx hb dX9_isDigit_43 (by decide) ?_
      exact tz_retZ (B := B_cX9_isDigit_872e6 D k h0 h1 h2 h0f1 h0f2 h0f3) (v := 0) hQ hx hb hr hlocks hS (Nat.le_of_ble_eq_true rfl) (Nat.le_of_ble_eq_true rfl) dX9_isDigit_44 (by have := li_0; omega) (Or.inl ⟨rfl, hT⟩)
    · skip
      have c_3 := ni_nlt c_3 rfl li_48
      refine lv_aload_n hx hb dX9_isDigit_25 rfl (lv_at hl 0 rfl) ?_
      refine tz_get (ci := 6) (v := .ref h1) (C := RX9) (F := TX9) (N := 5) hx hb hU iX9 hown hK hT 0 rfl rfl 0 (by decide) w120 (fun _ h9 => h9) rfl dX9_isDigit_26 ?_
      refine lv_aload_n hx hb dX9_isDigit_29 rfl (lv_at hl 0 rfl) ?_
      refine tz_get (ci := 6) (v := .int h0f2) (C := RX9) (F := TX9) (N := 5) hx hb hU iX9 hown hK hT 0 rfl rfl 2 (by decide) w123 (fun _ h9 => h9) rfl dX9_isDigit_30 ?_
      refine tz_bald hx hb hK hT 1 rfl (by omega) dX9_isDigit_33 (fun v4 e_v4 => ?_)
      clear e_v4
      refine lv_bipush (v := 57) hx hb dX9_isDigit_34 (by decide) ?_
      refine lv_icmp_gt (tgt := 43) hx hb dX9_isDigit_36 (by decide) (fun c_5 => ?_) (fun c_5 => ?_)
      · skip
        have c_5 := ni_lt c_5 li_57 rfl
        refine lv_iconst (v := 0) hx hb dX9_isDigit_43 (by decide) ?_
        exact tz_retZ (B := B_cX9_isDigit_872e6 D k h0 h1 h2 h0f1 h0f2 h0f3) (v := 0) hQ hx hb hr hlocks hS (Nat.le_of_ble_eq_true rfl) (Nat.le_of_ble_eq_true rfl) dX9_isDigit_44 (by have := li_0; omega) (Or.inl ⟨rfl, hT⟩)
      · skip
        have c_5 := ni_nlt c_5 li_57 rfl
        refine lv_iconst (v := 1) hx hb dX9_isDigit_39 (by decide) ?_
        refine lv_goto (tgt := 44) hx hb dX9_isDigit_40 (by decide) ?_
        exact tz_retZ (B := B_cX9_isDigit_872e6 D k h0 h1 h2 h0f1 h0f2 h0f3) (v := 1) hQ hx hb hr hlocks hS (Nat.le_of_ble_eq_true rfl) (Nat.le_of_ble_eq_true rfl) dX9_isDigit_44 (by have := li_1; omega) (Or.inr (⟨v2, v4, (by have := li_1; omega), (by have := li_1; omega), (by have := li_1; omega), (by have := li_1; omega), (by have := li_1; omega), rfl, hT⟩))
abbrev Rm_cX9_readNumber_23bb0 : Room := { frames := 2, cells := 0, slots := 0, locals := 41 }
abbrev B_cX9_readNumber_23bb0 (D : va_G) (k : Nat → ClassId) (h0 h1 h2 : Nat) (x1 : Int32) (h0f1 : Int32) (h0f2 : Int32) (h0f3 : Int32) (A : Nat → Prop) (r : Int32) (H : Heap) : Prop := ∃ o0 : Int32, (0 ≤ o0.toInt ∧ o0.toInt ≤ 120) ∧ (0 ≤ r.toInt ∧ r.toInt ≤ 1) ∧ TP D A [(h0, ob 6 [.ref h1, .int h0f1, .int o0, .int h0f3, .ref h2]), (h1, aI (k 2) 120 anI), (h2, aJ (k 1) 36 anJ)] H
set_option maxHeartbeats 4000000 in
set_option maxRecDepth 100000 in
theorem cX9_readNumber_23bb0 (l : Launch) (D : va_G) (k : Nat → ClassId) (sz : Nat) (h0 h1 h2 : Nat) (x1 : Int32) (h0f1 : Int32) (h0f2 : Int32) (h0f3 : Int32) (b_x1 : 0 ≤ x1.toInt ∧ x1.toInt ≤ 35) (b_h0f1 : 1 ≤ h0f1.toInt ∧ h0f1.toInt ≤ 120) (b_h0f2 : 0 ≤ h0f2.toInt ∧ h0f2.toInt ≤ 120) (b_h0f3 : 0 ≤ h0f3.toInt ∧ h0f3.toInt ≤ 3) : Met l yX9_readNumber (Cond.code yX9_readNumber cX9_readNumber 4 (some .boolean) :: uw) Rm_cX9_readNumber_23bb0 (pT D k sz [.ref h0, .int x1] [(h0, ob 6 [.ref h1, .int h0f1, .int h0f2, .int h0f3, .ref h2]), (h1, aI (k 2) 120 anI), (h2, aJ (k 1) 36 anJ)]) (qI (B_cX9_readNumber_23bb0 D k h0 h1 h2 x1 h0f1 h0f2 h0f3 (zA [h0, h1, h2] sz)) (zA [h0, h1, h2] sz)) 0 0 (zA [h0, h1, h2] sz) := by
  refine tz_begin (as := [h0, h1, h2]) (Qc := fun A => qI (B_cX9_readNumber_23bb0 D k h0 h1 h2 x1 h0f1 h0f2 h0f3 A) A) (by decide +kernel) rfl (Nat.le_of_ble_eq_true rfl) ?_
  intro p e s m args below meth c ls A Q hx hb hr hml hown hlocks hin hU hK hT hS hA hl hQ
  have hl : lv_has ls 4 [(0, .ref h0), (1, .int x1)] := hl
  have hT : TP D A [(h0, ob 6 [.ref h1, .int h0f1, .int h0f2, .int h0f3, .ref h2]), (h1, aI (k 2) 120 anI), (h2, aJ (k 1) 36 anJ)] s.heap := hT
  refine lv_aload_n hx hb dX9_readNumber_0 rfl (lv_at hl 0 rfl) ?_
  refine lv_bipush (v := 45) hx hb dX9_readNumber_1 (by decide) ?_
  have q_q2 := li_45
  refine tcI (Tc := [(h0, ob 6 [.ref h1, .int h0f1, .int h0f2, .int h0f3, .ref h2]), (h1, aI (k 2) 120 anI)]) (Tr := [(h2, aJ (k 1) 36 anJ)]) (as := [h0, h1]) (zcV (q0 := 0) (ci := 6) (As := [.int 45]) (rest := []) (Tc := [(h0, ob 6 [.ref h1, .int h0f1, .int h0f2, .int h0f3, .ref h2]), (h1, aI (k 2) 120 anI)]) hx hb hml hown hU hK hT rfl rfl [0, 1] rfl (by decide) (cX9_pass_8ea59 l D k _ h0 h1 h2 (45) h0f1 h0f2 h0f3 (by have := li_45; omega) (by omega) (by omega) (by omega)) w472 w469 w471 w7 w65 hdX9_pass ⟨rfl, rfl⟩ ⟨Nat.le_of_ble_eq_true rfl, Nat.le_of_ble_eq_true rfl⟩ rfl hl.1 (Nat.le_of_ble_eq_true rfl) dX9_readNumber_3 ⟨Nat.le_of_ble_eq_true rfl, Nat.le_of_ble_eq_true rfl⟩) hT hS hA [0, 1] [2] rfl rfl rfl (by decide) (by decide) (fun r1 H locs hB J hS => ?_)
  rcases hB with ⟨v3, b_v3, rfl, hT1⟩ | ⟨v4, v5, v6, b_v4, b_v5, b_v6, c_7, c_8, rfl, hT1⟩
  · skip
    have hT := J _ hT1
    have hT : TP D A [(h2, aJ (k 1) 36 anJ), (h0, ob 6 [.ref h1, .int h0f1, .int v3, .int h0f3, .ref h2]), (h1, aI (k 2) 120 anI)] _ := hT
    refine lv_istore_n (lv' := [(2, .int 0), (0, .ref h0), (1, .int x1)]) hx hb dX9_readNumber_6 rfl hl (by decide) rfl (fun ls hl => ?_)
    refine lv_aload_n hx hb dX9_readNumber_7 rfl (lv_at hl 1 rfl) ?_
    refine tcI (Tc := [(h0, ob 6 [.ref h1, .int h0f1, .int v3, .int h0f3, .ref h2]), (h1, aI (k 2) 120 anI)]) (Tr := [(h2, aJ (k 1) 36 anJ)]) (as := [h0, h1]) (zcV (q0 := 1) (ci := 6) (As := []) (rest := []) (Tc := [(h0, ob 6 [.ref h1, .int h0f1, .int v3, .int h0f3, .ref h2]), (h1, aI (k 2) 120 anI)]) hx hb hml hown hU hK hT rfl rfl [1, 2] rfl (by decide) (cX9_isDigit_872e6 l D k _ h0 h1 h2 h0f1 v3 h0f3 (by omega) (by omega) (by omega)) w480 w477 w479 w9 w65 hdX9_isDigit ⟨rfl, rfl⟩ ⟨Nat.le_of_ble_eq_true rfl, Nat.le_of_ble_eq_true rfl⟩ rfl hl.1 (Nat.le_of_ble_eq_true rfl) dX9_readNumber_8 ⟨Nat.le_of_ble_eq_true rfl, Nat.le_of_ble_eq_true rfl⟩) hT hS hA [1, 2] [0] rfl rfl rfl (by decide) (by decide) (fun r9 H locs hB J hS => ?_)
    rcases hB with ⟨rfl, hT1⟩ | ⟨v10, v11, b_v10, b_v11, c_12, c_13, c_14, rfl, hT1⟩
    · skip
      have hT := J _ hT1
      have hT : TP D A [(h2, aJ (k 1) 36 anJ), (h0, ob 6 [.ref h1, .int h0f1, .int v3, .int h0f3, .ref h2]), (h1, aI (k 2) 120 anI)] _ := hT
      refine lv_if_ne (tgt := 16) hx hb dX9_readNumber_11 (by decide) (fun cc => absurd (by decide +kernel) cc) (fun _ => ?_)
      refine lv_iconst (v := 0) hx hb dX9_readNumber_14 (by decide) ?_
      exact tz_retZ (B := B_cX9_readNumber_23bb0 D k h0 h1 h2 x1 h0f1 h0f2 h0f3) (v := 0) hQ hx hb hr hlocks hS (Nat.le_of_ble_eq_true rfl) (Nat.le_of_ble_eq_true rfl) dX9_readNumber_15 (by have := li_0; omega) (⟨v3, (by have := li_0; omega), (by have := li_0; omega), (hT.sub [1, 2, 0] (by decide) rfl)⟩)
    · skip
      have hT := J _ hT1
      have hT : TP D A [(h2, aJ (k 1) 36 anJ), (h0, ob 6 [.ref h1, .int h0f1, .int v3, .int h0f3, .ref h2]), (h1, aI (k 2) 120 anI)] _ := hT
      refine lv_if_ne (tgt := 16) hx hb dX9_readNumber_11 (by decide) (fun _ => ?_) (fun cc => absurd cc (by decide +kernel))
      refine lv_aload_n hx hb dX9_readNumber_16 rfl (lv_at hl 1 rfl) ?_
      refine tz_get (ci := 6) (v := .ref h1) (C := RX9) (F := TX9) (N := 5) hx hb hU iX9 hown hK hT 1 rfl rfl 0 (by decide) w120 (fun _ h9 => h9) rfl dX9_readNumber_17 ?_
      refine lv_aload_n hx hb dX9_readNumber_20 rfl (lv_at hl 1 rfl) ?_
      refine tz_get (ci := 6) (v := .int v3) (C := RX9) (F := TX9) (N := 5) hx hb hU iX9 hown hK hT 1 rfl rfl 2 (by decide) w123 (fun _ h9 => h9) rfl dX9_readNumber_21 ?_
      refine tz_bald hx hb hK hT 2 rfl (by omega) dX9_readNumber_24 (fun v15 e_v15 => ?_)
      clear e_v15
      refine lv_bipush (v := 48) hx hb dX9_readNumber_25 (by decide) ?_
      refine lv_isub hx hb dX9_readNumber_27 (lv_topi (fun v16 e_v16 => ?_))
      refine lv_istore_n (lv' := [(3, .int v16), (2, .int 0), (0, .ref h0), (1, .int x1)]) hx hb dX9_readNumber_28 rfl hl (by decide) rfl (fun ls hl => ?_)
      refine lv_aload_n hx hb dX9_readNumber_29 rfl (lv_at hl 2 rfl) ?_
      refine lv_dup hx hb dX9_readNumber_30 rfl ?_
      refine tz_get (ci := 6) (v := .int v3) (C := RX9) (F := TX9) (N := 5) hx hb hU iX9 hown hK hT 1 rfl rfl 2 (by decide) w123 (fun _ h9 => h9) rfl dX9_readNumber_31 ?_
      refine lv_iconst (v := 1) hx hb dX9_readNumber_34 (by decide) ?_
      refine lv_iadd hx hb dX9_readNumber_35 (lv_topi (fun v17 e_v17 => ?_))
      have e_v17 := ai_add e_v17 rfl li_1 (by omega)
      refine tz_put (ci := 6) (v := .int v17) (ty := .int) (C := RX9) (F := TX9) (N := 5) hx hb hU iX9 tyX9 tyX9_ok nmX9 hown hK hT hS 1 rfl rfl 2 (by decide) w123 (fun _ h9 => h9) rfl (by decide +kernel) rfl rfl (Nat.le_of_ble_eq_true rfl) dX9_readNumber_36 (fun H locs hT hS => ?_)
      have hT : TP D A [(h2, aJ (k 1) 36 anJ), (h0, ob 6 [.ref h1, .int h0f1, .int v17, .int h0f3, .ref h2]), (h1, aI (k 2) 120 anI)] _ := hT
      refine lv_aload_n hx hb dX9_readNumber_39 rfl (lv_at hl 2 rfl) ?_
      refine tcI (Tc := [(h0, ob 6 [.ref h1, .int h0f1, .int v17, .int h0f3, .ref h2]), (h1, aI (k 2) 120 anI)]) (Tr := [(h2, aJ (k 1) 36 anJ)]) (as := [h0, h1]) (zcV (q0 := 1) (ci := 6) (As := []) (rest := []) (Tc := [(h0, ob 6 [.ref h1, .int h0f1, .int v17, .int h0f3, .ref h2]), (h1, aI (k 2) 120 anI)]) hx hb hml hown hU hK hT rfl rfl [1, 2] rfl (by decide) (cX9_isDigit_872e6 l D k _ h0 h1 h2 h0f1 v17 h0f3 (by omega) (by omega) (by omega)) w480 w477 w479 w9 w65 hdX9_isDigit ⟨rfl, rfl⟩ ⟨Nat.le_of_ble_eq_true rfl, Nat.le_of_ble_eq_true rfl⟩ rfl hl.1 (Nat.le_of_ble_eq_true rfl) dX9_readNumber_40 ⟨Nat.le_of_ble_eq_true rfl, Nat.le_of_ble_eq_true rfl⟩) hT hS hA [1, 2] [0] rfl rfl rfl (by decide) (by decide) (fun r18 H locs hB J hS => ?_)
      rcases hB with ⟨rfl, hT1⟩ | ⟨v19, v20, b_v19, b_v20, c_21, c_22, c_23, rfl, hT1⟩
      · skip
        have hT := J _ hT1
        have hT : TP D A [(h2, aJ (k 1) 36 anJ), (h0, ob 6 [.ref h1, .int h0f1, .int v17, .int h0f3, .ref h2]), (h1, aI (k 2) 120 anI)] _ := hT
        refine lv_if_eq (tgt := 74) hx hb dX9_readNumber_43 (by decide) (fun _ => ?_) (fun cc => absurd (by decide +kernel) cc)
        refine lv_aload_n hx hb dX9_readNumber_74 rfl (lv_at hl 2 rfl) ?_
        refine tz_get (ci := 6) (v := .ref h2) (C := RX9) (F := TX9) (N := 5) hx hb hU iX9 hown hK hT 1 rfl rfl 4 (by decide) w127 (fun _ h9 => h9) rfl dX9_readNumber_75 ?_
        refine lv_iload_n hx hb dX9_readNumber_78 rfl (lv_at hl 3 rfl) ?_
        refine lv_iload_n hx hb dX9_readNumber_79 rfl (lv_at hl 1 rfl) ?_
        refine lv_if_eq (tgt := 89) hx hb dX9_readNumber_80 (by decide) (fun _ => ?_) (fun cc => absurd (by decide +kernel) cc)
        refine lv_iload_n hx hb dX9_readNumber_89 rfl (lv_at hl 0 rfl) ?_
        have tb_v16 := i32b v16
        obtain ⟨v24, e_v24⟩ : ∃ x : Int64, v16.toInt64 = x := ⟨_, rfl⟩
        refine lv_i2l (v := v24) hx hb dX9_readNumber_90 e_v24 ?_
        have e_v24 := ai_i2l e_v24 rfl
        refine tz_last hx hb hK hT hS 0 rfl (by omega) (fun _ _ => trivial) dX9_readNumber_91 (fun H locs hT hS => ?_)
        refine lv_iconst (v := 1) hx hb dX9_readNumber_92 (by decide) ?_
        exact tz_retZ (B := B_cX9_readNumber_23bb0 D k h0 h1 h2 x1 h0f1 h0f2 h0f3) (v := 1) hQ hx hb hr hlocks hS (Nat.le_of_ble_eq_true rfl) (Nat.le_of_ble_eq_true rfl) dX9_readNumber_93 (by have := li_1; omega) (⟨v17, (by have := li_1; omega), (by have := li_1; omega), (hT.sub [1, 2, 0] (by decide) rfl)⟩)
      · skip
        have hT := J _ hT1
        have hT : TP D A [(h2, aJ (k 1) 36 anJ), (h0, ob 6 [.ref h1, .int h0f1, .int v17, .int h0f3, .ref h2]), (h1, aI (k 2) 120 anI)] _ := hT
        refine lv_if_eq (tgt := 74) hx hb dX9_readNumber_43 (by decide) (fun cc => absurd cc (by decide +kernel)) (fun _ => ?_)
        refine lv_iload_n hx hb dX9_readNumber_46 rfl (lv_at hl 0 rfl) ?_
        refine lv_bipush (v := 10) hx hb dX9_readNumber_47 (by decide) ?_
        refine lv_imul hx hb dX9_readNumber_49 (lv_topi (fun v25 e_v25 => ?_))
        refine lv_aload_n hx hb dX9_readNumber_50 rfl (lv_at hl 2 rfl) ?_
        refine tz_get (ci := 6) (v := .ref h1) (C := RX9) (F := TX9) (N := 5) hx hb hU iX9 hown hK hT 1 rfl rfl 0 (by decide) w120 (fun _ h9 => h9) rfl dX9_readNumber_51 ?_
        refine lv_aload_n hx hb dX9_readNumber_54 rfl (lv_at hl 2 rfl) ?_
        refine tz_get (ci := 6) (v := .int v17) (C := RX9) (F := TX9) (N := 5) hx hb hU iX9 hown hK hT 1 rfl rfl 2 (by decide) w123 (fun _ h9 => h9) rfl dX9_readNumber_55 ?_
        refine tz_bald hx hb hK hT 2 rfl (by omega) dX9_readNumber_58 (fun v26 e_v26 => ?_)
        clear e_v26
        refine lv_iadd hx hb dX9_readNumber_59 (lv_topi (fun v27 e_v27 => ?_))
        refine lv_bipush (v := 48) hx hb dX9_readNumber_60 (by decide) ?_
        refine lv_isub hx hb dX9_readNumber_62 (lv_topi (fun v28 e_v28 => ?_))
        refine lv_istore_n (lv' := [(3, .int v28), (2, .int 0), (0, .ref h0), (1, .int x1)]) hx hb dX9_readNumber_63 rfl hl (by decide) rfl (fun ls hl => ?_)
        refine lv_aload_n hx hb dX9_readNumber_64 rfl (lv_at hl 2 rfl) ?_
        refine lv_dup hx hb dX9_readNumber_65 rfl ?_
        refine tz_get (ci := 6) (v := .int v17) (C := RX9) (F := TX9) (N := 5) hx hb hU iX9 hown hK hT 1 rfl rfl 2 (by decide) w123 (fun _ h9 => h9) rfl dX9_readNumber_66 ?_
        refine lv_iconst (v := 1) hx hb dX9_readNumber_69 (by decide) ?_
        refine lv_iadd hx hb dX9_readNumber_70 (lv_topi (fun v29 e_v29 => ?_))
        have e_v29 := ai_add e_v29 rfl li_1 (by omega)
        refine tz_put (ci := 6) (v := .int v29) (ty := .int) (C := RX9) (F := TX9) (N := 5) hx hb hU iX9 tyX9 tyX9_ok nmX9 hown hK hT hS 1 rfl rfl 2 (by decide) w123 (fun _ h9 => h9) rfl (by decide +kernel) rfl rfl (Nat.le_of_ble_eq_true rfl) dX9_readNumber_71 (fun H locs hT hS => ?_)
        have hT : TP D A [(h2, aJ (k 1) 36 anJ), (h0, ob 6 [.ref h1, .int h0f1, .int v29, .int h0f3, .ref h2]), (h1, aI (k 2) 120 anI)] _ := hT
        refine lv_aload_n hx hb dX9_readNumber_74 rfl (lv_at hl 2 rfl) ?_
        refine tz_get (ci := 6) (v := .ref h2) (C := RX9) (F := TX9) (N := 5) hx hb hU iX9 hown hK hT 1 rfl rfl 4 (by decide) w127 (fun _ h9 => h9) rfl dX9_readNumber_75 ?_
        refine lv_iload_n hx hb dX9_readNumber_78 rfl (lv_at hl 3 rfl) ?_
        refine lv_iload_n hx hb dX9_readNumber_79 rfl (lv_at hl 1 rfl) ?_
        refine lv_if_eq (tgt := 89) hx hb dX9_readNumber_80 (by decide) (fun _ => ?_) (fun cc => absurd (by decide +kernel) cc)
        refine lv_iload_n hx hb dX9_readNumber_89 rfl (lv_at hl 0 rfl) ?_
        have tb_v28 := i32b v28
        obtain ⟨v30, e_v30⟩ : ∃ x : Int64, v28.toInt64 = x := ⟨_, rfl⟩
        refine lv_i2l (v := v30) hx hb dX9_readNumber_90 e_v30 ?_
        have e_v30 := ai_i2l e_v30 rfl
        refine tz_last hx hb hK hT hS 0 rfl (by omega) (fun _ _ => trivial) dX9_readNumber_91 (fun H locs hT hS => ?_)
        refine lv_iconst (v := 1) hx hb dX9_readNumber_92 (by decide) ?_
        exact tz_retZ (B := B_cX9_readNumber_23bb0 D k h0 h1 h2 x1 h0f1 h0f2 h0f3) (v := 1) hQ hx hb hr hlocks hS (Nat.le_of_ble_eq_true rfl) (Nat.le_of_ble_eq_true rfl) dX9_readNumber_93 (by have := li_1; omega) (⟨v29, (by have := li_1; omega), (by have := li_1; omega), (hT.sub [1, 2, 0] (by decide) rfl)⟩)
  · skip
    have hT := J _ hT1
    have hT : TP D A [(h2, aJ (k 1) 36 anJ), (h0, ob 6 [.ref h1, .int h0f1, .int v4, .int h0f3, .ref h2]), (h1, aI (k 2) 120 anI)] _ := hT
    refine lv_istore_n (lv' := [(2, .int 1), (0, .ref h0), (1, .int x1)]) hx hb dX9_readNumber_6 rfl hl (by decide) rfl (fun ls hl => ?_)
    refine lv_aload_n hx hb dX9_readNumber_7 rfl (lv_at hl 1 rfl) ?_
    refine tcI (Tc := [(h0, ob 6 [.ref h1, .int h0f1, .int v4, .int h0f3, .ref h2]), (h1, aI (k 2) 120 anI)]) (Tr := [(h2, aJ (k 1) 36 anJ)]) (as := [h0, h1]) (zcV (q0 := 1) (ci := 6) (As := []) (rest := []) (Tc := [(h0, ob 6 [.ref h1, .int h0f1, .int v4, .int h0f3, .ref h2]), (h1, aI (k 2) 120 anI)]) hx hb hml hown hU hK hT rfl rfl [1, 2] rfl (by decide) (cX9_isDigit_872e6 l D k _ h0 h1 h2 h0f1 v4 h0f3 (by omega) (by omega) (by omega)) w480 w477 w479 w9 w65 hdX9_isDigit ⟨rfl, rfl⟩ ⟨Nat.le_of_ble_eq_true rfl, Nat.le_of_ble_eq_true rfl⟩ rfl hl.1 (Nat.le_of_ble_eq_true rfl) dX9_readNumber_8 ⟨Nat.le_of_ble_eq_true rfl, Nat.le_of_ble_eq_true rfl⟩) hT hS hA [1, 2] [0] rfl rfl rfl (by decide) (by decide) (fun r31 H locs hB J hS => ?_)
    rcases hB with ⟨rfl, hT1⟩ | ⟨v32, v33, b_v32, b_v33, c_34, c_35, c_36, rfl, hT1⟩
    · skip
      have hT := J _ hT1
      have hT : TP D A [(h2, aJ (k 1) 36 anJ), (h0, ob 6 [.ref h1, .int h0f1, .int v4, .int h0f3, .ref h2]), (h1, aI (k 2) 120 anI)] _ := hT
      refine lv_if_ne (tgt := 16) hx hb dX9_readNumber_11 (by decide) (fun cc => absurd (by decide +kernel) cc) (fun _ => ?_)
      refine lv_iconst (v := 0) hx hb dX9_readNumber_14 (by decide) ?_
      exact tz_retZ (B := B_cX9_readNumber_23bb0 D k h0 h1 h2 x1 h0f1 h0f2 h0f3) (v := 0) hQ hx hb hr hlocks hS (Nat.le_of_ble_eq_true rfl) (Nat.le_of_ble_eq_true rfl) dX9_readNumber_15 (by have := li_0; omega) (⟨v4, (by have := li_0; omega), (by have := li_0; omega), (hT.sub [1, 2, 0] (by decide) rfl)⟩)
    · skip
      have hT := J _ hT1
      have hT : TP D A [(h2, aJ (k 1) 36 anJ), (h0, ob 6 [.ref h1, .int h0f1, .int v4, .int h0f3, .ref h2]), (h1, aI (k 2) 120 anI)] _ := hT
      refine lv_if_ne (tgt := 16) hx hb dX9_readNumber_11 (by decide) (fun _ => ?_) (fun cc => absurd cc (by decide +kernel))
      refine lv_aload_n hx hb dX9_readNumber_16 rfl (lv_at hl 1 rfl) ?_
      refine tz_get (ci := 6) (v := .ref h1) (C := RX9) (F := TX9) (N := 5) hx hb hU iX9 hown hK hT 1 rfl rfl 0 (by decide) w120 (fun _ h9 => h9) rfl dX9_readNumber_17 ?_
      refine lv_aload_n hx hb dX9_readNumber_20 rfl (lv_at hl 1 rfl) ?_
      refine tz_get (ci := 6) (v := .int v4) (C := RX9) (F := TX9) (N := 5) hx hb hU iX9 hown hK hT 1 rfl rfl 2 (by decide) w123 (fun _ h9 => h9) rfl dX9_readNumber_21 ?_
      refine tz_bald hx hb hK hT 2 rfl (by omega) dX9_readNumber_24 (fun v37 e_v37 => ?_)
      clear e_v37
      refine lv_bipush (v := 48) hx hb dX9_readNumber_25 (by decide) ?_
      refine lv_isub hx hb dX9_readNumber_27 (lv_topi (fun v38 e_v38 => ?_))
      refine lv_istore_n (lv' := [(3, .int v38), (2, .int 1), (0, .ref h0), (1, .int x1)]) hx hb dX9_readNumber_28 rfl hl (by decide) rfl (fun ls hl => ?_)
      refine lv_aload_n hx hb dX9_readNumber_29 rfl (lv_at hl 2 rfl) ?_
      refine lv_dup hx hb dX9_readNumber_30 rfl ?_
      refine tz_get (ci := 6) (v := .int v4) (C := RX9) (F := TX9) (N := 5) hx hb hU iX9 hown hK hT 1 rfl rfl 2 (by decide) w123 (fun _ h9 => h9) rfl dX9_readNumber_31 ?_
      refine lv_iconst (v := 1) hx hb dX9_readNumber_34 (by decide) ?_
      refine lv_iadd hx hb dX9_readNumber_35 (lv_topi (fun v39 e_v39 => ?_))
      have e_v39 := ai_add e_v39 rfl li_1 (by omega)
      refine tz_put (ci := 6) (v := .int v39) (ty := .int) (C := RX9) (F := TX9) (N := 5) hx hb hU iX9 tyX9 tyX9_ok nmX9 hown hK hT hS 1 rfl rfl 2 (by decide) w123 (fun _ h9 => h9) rfl (by decide +kernel) rfl rfl (Nat.le_of_ble_eq_true rfl) dX9_readNumber_36 (fun H locs hT hS => ?_)
      have hT : TP D A [(h2, aJ (k 1) 36 anJ), (h0, ob 6 [.ref h1, .int h0f1, .int v39, .int h0f3, .ref h2]), (h1, aI (k 2) 120 anI)] _ := hT
      refine lv_aload_n hx hb dX9_readNumber_39 rfl (lv_at hl 2 rfl) ?_
      refine tcI (Tc := [(h0, ob 6 [.ref h1, .int h0f1, .int v39, .int h0f3, .ref h2]), (h1, aI (k 2) 120 anI)]) (Tr := [(h2, aJ (k 1) 36 anJ)]) (as := [h0, h1]) (zcV (q0 := 1) (ci := 6) (As := []) (rest := []) (Tc := [(h0, ob 6 [.ref h1, .int h0f1, .int v39, .int h0f3, .ref h2]), (h1, aI (k 2) 120 anI)]) hx hb hml hown hU hK hT rfl rfl [1, 2] rfl (by decide) (cX9_isDigit_872e6 l D k _ h0 h1 h2 h0f1 v39 h0f3 (by omega) (by omega) (by omega)) w480 w477 w479 w9 w65 hdX9_isDigit ⟨rfl, rfl⟩ ⟨Nat.le_of_ble_eq_true rfl, Nat.le_of_ble_eq_true rfl⟩ rfl hl.1 (Nat.le_of_ble_eq_true rfl) dX9_readNumber_40 ⟨Nat.le_of_ble_eq_true rfl, Nat.le_of_ble_eq_true rfl⟩) hT hS hA [1, 2] [0] rfl rfl rfl (by decide) (by decide) (fun r40 H locs hB J hS => ?_)
      rcases hB with ⟨rfl, hT1⟩ | ⟨v41, v42, b_v41, b_v42, c_43, c_44, c_45, rfl, hT1⟩
      · skip
        have hT := J _ hT1
        have hT : TP D A [(h2, aJ (k 1) 36 anJ), (h0, ob 6 [.ref h1, .int h0f1, .int v39, .int h0f3, .ref h2]), (h1, aI (k 2) 120 anI)] _ := hT
        refine lv_if_eq (tgt := 74) hx hb dX9_readNumber_43 (by decide) (fun _ => ?_) (fun cc => absurd (by decide +kernel) cc)
        refine lv_aload_n hx hb dX9_readNumber_74 rfl (lv_at hl 2 rfl) ?_
        refine tz_get (ci := 6) (v := .ref h2) (C := RX9) (F := TX9) (N := 5) hx hb hU iX9 hown hK hT 1 rfl rfl 4 (by decide) w127 (fun _ h9 => h9) rfl dX9_readNumber_75 ?_
        refine lv_iload_n hx hb dX9_readNumber_78 rfl (lv_at hl 3 rfl) ?_
        refine lv_iload_n hx hb dX9_readNumber_79 rfl (lv_at hl 1 rfl) ?_
        refine lv_if_eq (tgt := 89) hx hb dX9_readNumber_80 (by decide) (fun cc => absurd cc (by decide +kernel)) (fun _ => ?_)
        refine lv_iload_n hx hb dX9_readNumber_83 rfl (lv_at hl 0 rfl) ?_
        refine lv_ineg hx hb dX9_readNumber_84 (lv_topi (fun v46 e_v46 => ?_))
        have tb_v46 := i32b v46
        obtain ⟨v47, e_v47⟩ : ∃ x : Int64, v46.toInt64 = x := ⟨_, rfl⟩
        refine lv_i2l (v := v47) hx hb dX9_readNumber_85 e_v47 ?_
        have e_v47 := ai_i2l e_v47 rfl
        refine lv_goto (tgt := 91) hx hb dX9_readNumber_86 (by decide) ?_
        refine tz_last hx hb hK hT hS 0 rfl (by omega) (fun _ _ => trivial) dX9_readNumber_91 (fun H locs hT hS => ?_)
        refine lv_iconst (v := 1) hx hb dX9_readNumber_92 (by decide) ?_
        exact tz_retZ (B := B_cX9_readNumber_23bb0 D k h0 h1 h2 x1 h0f1 h0f2 h0f3) (v := 1) hQ hx hb hr hlocks hS (Nat.le_of_ble_eq_true rfl) (Nat.le_of_ble_eq_true rfl) dX9_readNumber_93 (by have := li_1; omega) (⟨v39, (by have := li_1; omega), (by have := li_1; omega), (hT.sub [1, 2, 0] (by decide) rfl)⟩)
      · skip
        have hT := J _ hT1
        have hT : TP D A [(h2, aJ (k 1) 36 anJ), (h0, ob 6 [.ref h1, .int h0f1, .int v39, .int h0f3, .ref h2]), (h1, aI (k 2) 120 anI)] _ := hT
        refine lv_if_eq (tgt := 74) hx hb dX9_readNumber_43 (by decide) (fun cc => absurd cc (by decide +kernel)) (fun _ => ?_)
        refine lv_iload_n hx hb dX9_readNumber_46 rfl (lv_at hl 0 rfl) ?_
        refine lv_bipush (v := 10) hx hb dX9_readNumber_47 (by decide) ?_
        refine lv_imul hx hb dX9_readNumber_49 (lv_topi (fun v48 e_v48 => ?_))
        refine lv_aload_n hx hb dX9_readNumber_50 rfl (lv_at hl 2 rfl) ?_
        refine tz_get (ci := 6) (v := .ref h1) (C := RX9) (F := TX9) (N := 5) hx hb hU iX9 hown hK hT 1 rfl rfl 0 (by decide) w120 (fun _ h9 => h9) rfl dX9_readNumber_51 ?_
        refine lv_aload_n hx hb dX9_readNumber_54 rfl (lv_at hl 2 rfl) ?_
        refine tz_get (ci := 6) (v := .int v39) (C := RX9) (F := TX9) (N := 5) hx hb hU iX9 hown hK hT 1 rfl rfl 2 (by decide) w123 (fun _ h9 => h9) rfl dX9_readNumber_55 ?_
        refine tz_bald hx hb hK hT 2 rfl (by omega) dX9_readNumber_58 (fun v49 e_v49 => ?_)
        clear e_v49
        refine lv_iadd hx hb dX9_readNumber_59 (lv_topi (fun v50 e_v50 => ?_))
        refine lv_bipush (v := 48) hx hb dX9_readNumber_60 (by decide) ?_
        refine lv_isub hx hb dX9_readNumber_62 (lv_topi (fun v51 e_v51 => ?_))
        refine lv_istore_n (lv' := [(3, .int v51), (2, .int 1), (0, .ref h0), (1, .int x1)]) hx hb dX9_readNumber_63 rfl hl (by decide) rfl (fun ls hl => ?_)
        refine lv_aload_n hx hb dX9_readNumber_64 rfl (lv_at hl 2 rfl) ?_
        refine lv_dup hx hb dX9_readNumber_65 rfl ?_
        refine tz_get (ci := 6) (v := .int v39) (C := RX9) (F := TX9) (N := 5) hx hb hU iX9 hown hK hT 1 rfl rfl 2 (by decide) w123 (fun _ h9 => h9) rfl dX9_readNumber_66 ?_
        refine lv_iconst (v := 1) hx hb dX9_readNumber_69 (by decide) ?_
        refine lv_iadd hx hb dX9_readNumber_70 (lv_topi (fun v52 e_v52 => ?_))
        have e_v52 := ai_add e_v52 rfl li_1 (by omega)
        refine tz_put (ci := 6) (v := .int v52) (ty := .int) (C := RX9) (F := TX9) (N := 5) hx hb hU iX9 tyX9 tyX9_ok nmX9 hown hK hT hS 1 rfl rfl 2 (by decide) w123 (fun _ h9 => h9) rfl (by decide +kernel) rfl rfl (Nat.le_of_ble_eq_true rfl) dX9_readNumber_71 (fun H locs hT hS => ?_)
        have hT : TP D A [(h2, aJ (k 1) 36 anJ), (h0, ob 6 [.ref h1, .int h0f1, .int v52, .int h0f3, .ref h2]), (h1, aI (k 2) 120 anI)] _ := hT
        refine lv_aload_n hx hb dX9_readNumber_74 rfl (lv_at hl 2 rfl) ?_
        refine tz_get (ci := 6) (v := .ref h2) (C := RX9) (F := TX9) (N := 5) hx hb hU iX9 hown hK hT 1 rfl rfl 4 (by decide) w127 (fun _ h9 => h9) rfl dX9_readNumber_75 ?_
        refine lv_iload_n hx hb dX9_readNumber_78 rfl (lv_at hl 3 rfl) ?_
        refine lv_iload_n hx hb dX9_readNumber_79 rfl (lv_at hl 1 rfl) ?_
        refine lv_if_eq (tgt := 89) hx hb dX9_readNumber_80 (by decide) (fun cc => absurd cc (by decide +kernel)) (fun _ => ?_)
        refine lv_iload_n hx hb dX9_readNumber_83 rfl (lv_at hl 0 rfl) ?_
        refine lv_ineg hx hb dX9_readNumber_84 (lv_topi (fun v53 e_v53 => ?_))
        have tb_v53 := i32b v53
        obtain ⟨v54, e_v54⟩ : ∃ x : Int64, v53.toInt64 = x := ⟨_, rfl⟩
        refine lv_i2l (v := v54) hx hb dX9_readNumber_85 e_v54 ?_
        have e_v54 := ai_i2l e_v54 rfl
        refine lv_goto (tgt := 91) hx hb dX9_readNumber_86 (by decide) ?_
        refine tz_last hx hb hK hT hS 0 rfl (by omega) (fun _ _ => trivial) dX9_readNumber_91 (fun H locs hT hS => ?_)
        refine lv_iconst (v := 1) hx hb dX9_readNumber_92 (by decide) ?_
        exact tz_retZ (B := B_cX9_readNumber_23bb0 D k h0 h1 h2 x1 h0f1 h0f2 h0f3) (v := 1) hQ hx hb hr hlocks hS (Nat.le_of_ble_eq_true rfl) (Nat.le_of_ble_eq_true rfl) dX9_readNumber_93 (by have := li_1; omega) (⟨v52, (by have := li_1; omega), (by have := li_1; omega), (hT.sub [1, 2, 0] (by decide) rfl)⟩)
abbrev Rm_cX7_hasWholeInverse_e20f0 : Room := { frames := 2, cells := 0, slots := 0, locals := 54 }
abbrev B_cX7_hasWholeInverse_e20f0 (D : va_G) (k : Nat → ClassId) (h0 : Nat) (x1 : Int32) (x2 : Int32) (A : Nat → Prop) (r : Int32) (H : Heap) : Prop := (0 ≤ r.toInt ∧ r.toInt ≤ 1) ∧ TP D A [(h0, aJ (k 1) 36 anJ)] H
set_option maxHeartbeats 4000000 in
set_option maxRecDepth 100000 in
theorem cX7_hasWholeInverse_e20f0 (l : Launch) (D : va_G) (k : Nat → ClassId) (sz : Nat) (h0 : Nat) (x1 : Int32) (x2 : Int32) (b_x1 : 0 ≤ x1.toInt ∧ x1.toInt ≤ 27) (b_x2 : 1 ≤ x2.toInt ∧ x2.toInt ≤ 3) : Met l yX7_hasWholeInverse (Cond.code yX7_hasWholeInverse cX7_hasWholeInverse 5 (some .boolean) :: uw) Rm_cX7_hasWholeInverse_e20f0 (pT D k sz [.ref h0, .int x1, .int x2] [(h0, aJ (k 1) 36 anJ)]) (qI (B_cX7_hasWholeInverse_e20f0 D k h0 x1 x2 (zA [h0] sz)) (zA [h0] sz)) 0 0 (zA [h0] sz) := by
  refine tz_begin (as := [h0]) (Qc := fun A => qI (B_cX7_hasWholeInverse_e20f0 D k h0 x1 x2 A) A) (by decide +kernel) rfl (Nat.le_of_ble_eq_true rfl) ?_
  intro p e s m args below meth c ls A Q hx hb hr hml hown hlocks hin hU hK hT hS hA hl hQ
  have hl : lv_has ls 5 [(0, .ref h0), (1, .int x1), (2, .int x2)] := hl
  have hT : TP D A [(h0, aJ (k 1) 36 anJ)] s.heap := hT
  refine lv_aload_n hx hb dX7_hasWholeInverse_0 rfl (lv_at hl 0 rfl) ?_
  refine lv_iload_n hx hb dX7_hasWholeInverse_1 rfl (lv_at hl 1 rfl) ?_
  refine lv_iload_n hx hb dX7_hasWholeInverse_2 rfl (lv_at hl 2 rfl) ?_
  refine lv_iload_n hx hb dX7_hasWholeInverse_3 rfl (lv_at hl 2 rfl) ?_
  refine tcL (Tc := [(h0, aJ (k 1) 36 anJ)]) (Tr := []) (as := [h0]) (zcS (As := [.ref h0, .int x1, .int x2, .int x2]) (rest := []) (Tc := [(h0, aJ (k 1) 36 anJ)]) hx hb hml hown hU hK hT [0] rfl (by decide) (cX7_determinant_05929 l D k _ h0 x1 x2 x2 (by omega) (by omega) (by omega)) w372 w370 w371 w74 hdX7_determinant ⟨rfl, rfl⟩ ⟨Nat.le_of_ble_eq_true rfl, Nat.le_of_ble_eq_true rfl⟩ rfl hl.1 (Nat.le_of_ble_eq_true rfl) dX7_hasWholeInverse_4 ⟨Nat.le_of_ble_eq_true rfl, Nat.le_of_ble_eq_true rfl⟩) hT hS hA [0] [] rfl rfl rfl (by decide) (by decide) (fun r1 H locs hB J hS => ?_)
  have hT1 := hB
  have hT := J _ hT1
  have hT : TP D A [(h0, aJ (k 1) 36 anJ)] _ := hT
  refine lv_lstore_n (lv' := [(3, .long r1), (0, .ref h0), (1, .int x1), (2, .int x2)]) hx hb dX7_hasWholeInverse_7 rfl hl (by decide) rfl (fun ls hl => ?_)
  refine lv_lload_n hx hb dX7_hasWholeInverse_8 rfl (lv_at hl 0 rfl) ?_
  refine lv_lconst (v := 1) hx hb dX7_hasWholeInverse_9 (by decide) ?_
  refine W.lcmp hx hb dX7_hasWholeInverse_10 ?_
  refine lv_if_eq (tgt := 22) hx hb dX7_hasWholeInverse_11 (by decide) (fun c_2 => ?_) (fun c_2 => ?_)
  · skip
    have c_2 := nl_eq c_2 rfl ll_1
    refine lv_iconst (v := 1) hx hb dX7_hasWholeInverse_22 (by decide) ?_
    refine lv_goto (tgt := 27) hx hb dX7_hasWholeInverse_23 (by decide) ?_
    exact tz_retZ (B := B_cX7_hasWholeInverse_e20f0 D k h0 x1 x2) (v := 1) hQ hx hb hr hlocks hS (Nat.le_of_ble_eq_true rfl) (Nat.le_of_ble_eq_true rfl) dX7_hasWholeInverse_27 (by have := li_1; omega) (⟨(by have := li_1; omega), hT⟩)
  · skip
    have c_2 := nl_ne c_2 rfl ll_1
    refine lv_lload_n hx hb dX7_hasWholeInverse_14 rfl (lv_at hl 0 rfl) ?_
    refine lv_ldc2 hx hb hown (hU _ w484) dX7_hasWholeInverse_15 ?_
    refine W.lcmp hx hb dX7_hasWholeInverse_18 ?_
    refine lv_if_ne (tgt := 26) hx hb dX7_hasWholeInverse_19 (by decide) (fun c_3 => ?_) (fun c_3 => ?_)
    · skip
      have c_3 := nl_ne c_3 rfl ll_m1
      refine lv_iconst (v := 0) hx hb dX7_hasWholeInverse_26 (by decide) ?_
      exact tz_retZ (B := B_cX7_hasWholeInverse_e20f0 D k h0 x1 x2) (v := 0) hQ hx hb hr hlocks hS (Nat.le_of_ble_eq_true rfl) (Nat.le_of_ble_eq_true rfl) dX7_hasWholeInverse_27 (by have := li_0; omega) (⟨(by have := li_0; omega), hT⟩)
    · skip
      have c_3 := nl_eq c_3 rfl ll_m1
      refine lv_iconst (v := 1) hx hb dX7_hasWholeInverse_22 (by decide) ?_
      refine lv_goto (tgt := 27) hx hb dX7_hasWholeInverse_23 (by decide) ?_
      exact tz_retZ (B := B_cX7_hasWholeInverse_e20f0 D k h0 x1 x2) (v := 1) hQ hx hb hr hlocks hS (Nat.le_of_ble_eq_true rfl) (Nat.le_of_ble_eq_true rfl) dX7_hasWholeInverse_27 (by have := li_1; omega) (⟨(by have := li_1; omega), hT⟩)
abbrev Rm_cX9_readMatrix_f7444 : Room := { frames := 3, cells := 0, slots := 0, locals := 78 }
abbrev B_cX9_readMatrix_f7444 (D : va_G) (k : Nat → ClassId) (h0 h1 h2 : Nat) (x1 : Int32) (h0f1 : Int32) (h0f2 : Int32) (h0f3 : Int32) (A : Nat → Prop) (r : Int32) (H : Heap) : Prop := ∃ o0 : Int32, (0 ≤ o0.toInt ∧ o0.toInt ≤ 120) ∧ (0 ≤ r.toInt ∧ r.toInt ≤ 1) ∧ TP D A [(h0, ob 6 [.ref h1, .int h0f1, .int o0, .int h0f3, .ref h2]), (h1, aI (k 2) 120 anI), (h2, aJ (k 1) 36 anJ)] H
set_option maxHeartbeats 4000000 in
set_option maxRecDepth 100000 in
theorem cX9_readMatrix_f7444 (l : Launch) (D : va_G) (k : Nat → ClassId) (sz : Nat) (h0 h1 h2 : Nat) (x1 : Int32) (h0f1 : Int32) (h0f2 : Int32) (h0f3 : Int32) (b_x1 : 1 ≤ x1.toInt ∧ x1.toInt ≤ 3) (b_h0f1 : 1 ≤ h0f1.toInt ∧ h0f1.toInt ≤ 120) (b_h0f2 : 0 ≤ h0f2.toInt ∧ h0f2.toInt ≤ 119) (b_h0f3 : 0 ≤ h0f3.toInt ∧ h0f3.toInt ≤ 3) : Met l yX9_readMatrix (Cond.code yX9_readMatrix cX9_readMatrix 4 (some .boolean) :: uw) Rm_cX9_readMatrix_f7444 (pT D k sz [.ref h0, .int x1] [(h0, ob 6 [.ref h1, .int h0f1, .int h0f2, .int h0f3, .ref h2]), (h1, aI (k 2) 120 anI), (h2, aJ (k 1) 36 anJ)]) (qI (B_cX9_readMatrix_f7444 D k h0 h1 h2 x1 h0f1 h0f2 h0f3 (zA [h0, h1, h2] sz)) (zA [h0, h1, h2] sz)) 0 0 (zA [h0, h1, h2] sz) := by
  refine tz_begin (as := [h0, h1, h2]) (Qc := fun A => qI (B_cX9_readMatrix_f7444 D k h0 h1 h2 x1 h0f1 h0f2 h0f3 A) A) (by decide +kernel) rfl (Nat.le_of_ble_eq_true rfl) ?_
  intro p e s m args below meth c ls A Q hx hb hr hml hown hlocks hin hU hK hT hS hA hl hQ
  have hl : lv_has ls 4 [(0, .ref h0), (1, .int x1)] := hl
  have hT : TP D A [(h0, ob 6 [.ref h1, .int h0f1, .int h0f2, .int h0f3, .ref h2]), (h1, aI (k 2) 120 anI), (h2, aJ (k 1) 36 anJ)] s.heap := hT
  refine lv_iconst (v := 0) hx hb dX9_readMatrix_0 (by decide) ?_
  refine lv_istore_n (lv' := [(2, .int 0), (0, .ref h0), (1, .int x1)]) hx hb dX9_readMatrix_1 rfl hl (by decide) rfl (fun ls hl => ?_)
  have lp2_7 : ∀ (n : Nat) (y5 : Int32) (y6 : Int32) (H : Heap) (locs : List Loc) (ls : Array Slot), (0 ≤ y5.toInt ∧ y5.toInt ≤ 3) → (0 ≤ y6.toInt ∧ y6.toInt ≤ 120) → (3 - y5.toInt).toNat < n → TP D A [(h0, ob 6 [.ref h1, .int h0f1, .int y6, .int h0f3, .ref h2]), (h1, aI (k 2) 120 anI), (h2, aJ (k 1) 36 anJ)] H → va_S A s.heap H locs → lv_has ls 4 [(0, .ref h0), (1, .int x1), (2, .int y5)] → W p l e Rm_cX9_readMatrix_f7444 s m args below meth c H locs 0 0 Q (F0 m 2 ls []) := by
    intro n
    induction n with
    | zero => intro y5 y6 H locs ls b_y5 b_y6 hm hT hS hl; exact absurd hm (Nat.not_lt_zero _)
    | succ n ih =>
      intro y5 y6 H locs ls b_y5 b_y6 hm hT hS hl
      have ih2_7 := ih
      clear ih
      have lp24_15 : ∀ (n : Nat) (y13 : Int32) (y14 : Int32) (H : Heap) (locs : List Loc) (ls : Array Slot), (0 ≤ y13.toInt ∧ y13.toInt ≤ 3) → (0 ≤ y14.toInt ∧ y14.toInt ≤ 120) → (0 ≤ y5.toInt ∧ y5.toInt ≤ 2) → (x1.toInt + (-1) * y13.toInt + 1).toNat < n → TP D A [(h0, ob 6 [.ref h1, .int h0f1, .int y14, .int h0f3, .ref h2]), (h1, aI (k 2) 120 anI), (h2, aJ (k 1) 36 anJ)] H → va_S A s.heap H locs → lv_has ls 4 [(0, .ref h0), (1, .int x1), (2, .int y5), (3, .int y13)] → W p l e Rm_cX9_readMatrix_f7444 s m args below meth c H locs 0 0 Q (F0 m 24 ls []) := by
        intro n
        induction n with
        | zero => intro y13 y14 H locs ls b_y13 b_y14 b_y5 hm hT hS hl; exact absurd hm (Nat.not_lt_zero _)
        | succ n ih =>
          intro y13 y14 H locs ls b_y13 b_y14 b_y5 hm hT hS hl
          have ih24_15 := ih
          clear ih
          refine lv_iload_n hx hb dX9_readMatrix_24 rfl (lv_at hl 3 rfl) ?_
          refine lv_iload_n hx hb dX9_readMatrix_25 rfl (lv_at hl 1 rfl) ?_
          refine lv_icmp_ge (tgt := 57) hx hb dX9_readMatrix_26 (by decide) (fun c_16 => ?_) (fun c_16 => ?_)
          · skip
            have c_16 := ni_le c_16 rfl rfl
            obtain ⟨v17, e_v17⟩ : ∃ x : Int32, x = y5 + Int32.ofInt 1 := ⟨_, rfl⟩
            have f_v17 := e_v17.symm
            have e_v17 : v17.toInt = y5.toInt + 1 := ai_add e_v17 rfl (show (Int32.ofInt 1).toInt = 1 from (by decide +kernel)) (by omega)
            refine lv_iinc (v := v17) (lv' := [(2, .int v17), (0, .ref h0), (1, .int x1), (3, .int y13)]) hx hb dX9_readMatrix_57 hl (k := 2) rfl f_v17 (by decide) rfl (fun ls hl => ?_)
            refine lv_goto (tgt := 2) hx hb dX9_readMatrix_60 (by decide) ?_
            exact ih2_7 v17 y14 _ _ _ (by omega) (by omega)  (by omega) hT hS (lv_sub hl [1, 2, 0] rfl)
          · skip
            have c_16 := ni_nle c_16 rfl rfl
            refine lv_aload_n hx hb dX9_readMatrix_29 rfl (lv_at hl 0 rfl) ?_
            refine lv_aload_n hx hb dX9_readMatrix_30 rfl (lv_at hl 0 rfl) ?_
            refine tz_get (ci := 6) (v := .int h0f3) (C := RX9) (F := TX9) (N := 5) hx hb hU iX9 hown hK hT 0 rfl rfl 3 (by decide) w125 (fun _ h9 => h9) rfl dX9_readMatrix_31 ?_
            refine lv_bipush (v := 9) hx hb dX9_readMatrix_34 (by decide) ?_
            refine lv_imul hx hb dX9_readMatrix_36 (lv_topi (fun v18 e_v18 => ?_))
            have e_v18 := ai_mul e_v18 rfl li_9 (by omega)
            refine lv_iload_n hx hb dX9_readMatrix_37 rfl (lv_at hl 2 rfl) ?_
            refine lv_iload_n hx hb dX9_readMatrix_38 rfl (lv_at hl 1 rfl) ?_
            refine lv_imul hx hb dX9_readMatrix_39 (lv_topi (fun v19 e_v19 => ?_))
            have e_v19 := ai_mm (la := 0) (ua := 2) (lb := 1) (ub := 3) e_v19 rfl rfl (by omega) (by decide)
            refine lv_iadd hx hb dX9_readMatrix_40 (lv_topi (fun v20 e_v20 => ?_))
            have e_v20 := ai_add e_v20 rfl rfl (by omega)
            refine lv_iload_n hx hb dX9_readMatrix_41 rfl (lv_at hl 3 rfl) ?_
            refine lv_iadd hx hb dX9_readMatrix_42 (lv_topi (fun v21 e_v21 => ?_))
            have e_v21 := ai_add e_v21 rfl rfl (by omega)
            refine tcI (Tc := [(h0, ob 6 [.ref h1, .int h0f1, .int y14, .int h0f3, .ref h2]), (h1, aI (k 2) 120 anI), (h2, aJ (k 1) 36 anJ)]) (Tr := []) (as := [h0, h1, h2]) (zcV (q0 := 0) (ci := 6) (As := [.int v21]) (rest := []) (Tc := [(h0, ob 6 [.ref h1, .int h0f1, .int y14, .int h0f3, .ref h2]), (h1, aI (k 2) 120 anI), (h2, aJ (k 1) 36 anJ)]) hx hb hml hown hU hK hT rfl rfl [0, 1, 2] rfl (by decide) (cX9_readNumber_23bb0 l D k _ h0 h1 h2 v21 h0f1 y14 h0f3 (by omega) (by omega) (by omega) (by omega)) w476 w473 w475 w8 w65 hdX9_readNumber ⟨rfl, rfl⟩ ⟨Nat.le_of_ble_eq_true rfl, Nat.le_of_ble_eq_true rfl⟩ rfl hl.1 (Nat.le_of_ble_eq_true rfl) dX9_readMatrix_43 ⟨Nat.le_of_ble_eq_true rfl, Nat.le_of_ble_eq_true rfl⟩) hT hS hA [0, 1, 2] [] rfl rfl rfl (by decide) (by decide) (fun r22 H locs hB J hS => ?_)
            obtain ⟨v23, b_v23, b_r22, hT1⟩ := hB
            have hT := J _ hT1
            have hT : TP D A [(h0, ob 6 [.ref h1, .int h0f1, .int v23, .int h0f3, .ref h2]), (h1, aI (k 2) 120 anI), (h2, aJ (k 1) 36 anJ)] _ := hT
            refine lv_if_ne (tgt := 51) hx hb dX9_readMatrix_46 (by decide) (fun c_24 => ?_) (fun c_24 => ?_)
            · skip
              have c_24 := ni_ne c_24 rfl li_0
              obtain ⟨v25, e_v25⟩ : ∃ x : Int32, x = y13 + Int32.ofInt 1 := ⟨_, rfl⟩
              have f_v25 := e_v25.symm
              have e_v25 : v25.toInt = y13.toInt + 1 := ai_add e_v25 rfl (show (Int32.ofInt 1).toInt = 1 from (by decide +kernel)) (by omega)
              refine lv_iinc (v := v25) (lv' := [(3, .int v25), (0, .ref h0), (1, .int x1), (2, .int y5)]) hx hb dX9_readMatrix_51 hl (k := 3) rfl f_v25 (by decide) rfl (fun ls hl => ?_)
              refine lv_goto (tgt := 24) hx hb dX9_readMatrix_54 (by decide) ?_
              exact ih24_15 v25 v23 _ _ _ (by omega) (by omega) (by omega)  (by omega) hT hS (lv_sub hl [1, 2, 3, 0] rfl)
            · skip
              have c_24 := ni_eq c_24 rfl li_0
              refine lv_iconst (v := 0) hx hb dX9_readMatrix_49 (by decide) ?_
              exact tz_retZ (B := B_cX9_readMatrix_f7444 D k h0 h1 h2 x1 h0f1 h0f2 h0f3) (v := 0) hQ hx hb hr hlocks hS (Nat.le_of_ble_eq_true rfl) (Nat.le_of_ble_eq_true rfl) dX9_readMatrix_50 (by have := li_0; omega) (⟨v23, (by have := li_0; omega), (by have := li_0; omega), hT⟩)
      refine lv_iload_n hx hb dX9_readMatrix_2 rfl (lv_at hl 2 rfl) ?_
      refine lv_iload_n hx hb dX9_readMatrix_3 rfl (lv_at hl 1 rfl) ?_
      refine lv_icmp_ge (tgt := 63) hx hb dX9_readMatrix_4 (by decide) (fun c_26 => ?_) (fun c_26 => ?_)
      · skip
        have c_26 := ni_le c_26 rfl rfl
        refine lv_aload_n hx hb dX9_readMatrix_63 rfl (lv_at hl 0 rfl) ?_
        refine tcV (Tc := [(h0, ob 6 [.ref h1, .int h0f1, .int y6, .int h0f3, .ref h2]), (h1, aI (k 2) 120 anI)]) (Tr := [(h2, aJ (k 1) 36 anJ)]) (as := [h0, h1]) (zcV (q0 := 0) (ci := 6) (As := []) (rest := []) (Tc := [(h0, ob 6 [.ref h1, .int h0f1, .int y6, .int h0f3, .ref h2]), (h1, aI (k 2) 120 anI)]) hx hb hml hown hU hK hT rfl rfl [0, 1] rfl (by decide) (cX9_skipBlanks_4b650 l D k _ h0 h1 h2 h0f1 y6 h0f3 (by omega) (by omega) (by omega)) w464 w461 w463 w5 w65 hdX9_skipBlanks ⟨rfl, rfl⟩ ⟨Nat.le_of_ble_eq_true rfl, Nat.le_of_ble_eq_true rfl⟩ rfl hl.1 (Nat.le_of_ble_eq_true rfl) dX9_readMatrix_64 ⟨Nat.le_of_ble_eq_true rfl, Nat.le_of_ble_eq_true rfl⟩) hT hS hA [0, 1] [2] rfl rfl rfl (by decide) (by decide) (fun H locs hB J hS => ?_)
        obtain ⟨v28, b_v28, hT1⟩ := hB
        have hT := J _ hT1
        have hT : TP D A [(h2, aJ (k 1) 36 anJ), (h0, ob 6 [.ref h1, .int h0f1, .int v28, .int h0f3, .ref h2]), (h1, aI (k 2) 120 anI)] _ := hT
        refine lv_aload_n hx hb dX9_readMatrix_67 rfl (lv_at hl 0 rfl) ?_
        refine tz_get (ci := 6) (v := .ref h2) (C := RX9) (F := TX9) (N := 5) hx hb hU iX9 hown hK hT 1 rfl rfl 4 (by decide) w127 (fun _ h9 => h9) rfl dX9_readMatrix_68 ?_
        refine lv_aload_n hx hb dX9_readMatrix_71 rfl (lv_at hl 0 rfl) ?_
        refine tz_get (ci := 6) (v := .int h0f3) (C := RX9) (F := TX9) (N := 5) hx hb hU iX9 hown hK hT 1 rfl rfl 3 (by decide) w125 (fun _ h9 => h9) rfl dX9_readMatrix_72 ?_
        refine lv_bipush (v := 9) hx hb dX9_readMatrix_75 (by decide) ?_
        refine lv_imul hx hb dX9_readMatrix_77 (lv_topi (fun v29 e_v29 => ?_))
        have e_v29 := ai_mul e_v29 rfl li_9 (by omega)
        refine lv_iload_n hx hb dX9_readMatrix_78 rfl (lv_at hl 1 rfl) ?_
        refine tcI (Tc := [(h2, aJ (k 1) 36 anJ)]) (Tr := [(h0, ob 6 [.ref h1, .int h0f1, .int v28, .int h0f3, .ref h2]), (h1, aI (k 2) 120 anI)]) (as := [h2]) (zcS (As := [.ref h2, .int v29, .int x1]) (rest := []) (Tc := [(h2, aJ (k 1) 36 anJ)]) hx hb hml hown hU hK hT [0] rfl (by decide) (cX7_hasWholeInverse_e20f0 l D k _ h2 v29 x1 (by omega) (by omega)) w483 w481 w482 w74 hdX7_hasWholeInverse ⟨rfl, rfl⟩ ⟨Nat.le_of_ble_eq_true rfl, Nat.le_of_ble_eq_true rfl⟩ rfl hl.1 (Nat.le_of_ble_eq_true rfl) dX9_readMatrix_79 ⟨Nat.le_of_ble_eq_true rfl, Nat.le_of_ble_eq_true rfl⟩) hT hS hA [0] [1, 2] rfl rfl rfl (by decide) (by decide) (fun r30 H locs hB J hS => ?_)
        obtain ⟨b_r30, hT1⟩ := hB
        have hT := J _ hT1
        have hT : TP D A [(h0, ob 6 [.ref h1, .int h0f1, .int v28, .int h0f3, .ref h2]), (h1, aI (k 2) 120 anI), (h2, aJ (k 1) 36 anJ)] _ := hT
        refine lv_if_eq (tgt := 98) hx hb dX9_readMatrix_82 (by decide) (fun c_31 => ?_) (fun c_31 => ?_)
        · skip
          have c_31 := ni_eq c_31 rfl li_0
          refine lv_iconst (v := 0) hx hb dX9_readMatrix_98 (by decide) ?_
          exact tz_retZ (B := B_cX9_readMatrix_f7444 D k h0 h1 h2 x1 h0f1 h0f2 h0f3) (v := 0) hQ hx hb hr hlocks hS (Nat.le_of_ble_eq_true rfl) (Nat.le_of_ble_eq_true rfl) dX9_readMatrix_99 (by have := li_0; omega) (⟨v28, (by have := li_0; omega), (by have := li_0; omega), hT⟩)
        · skip
          have c_31 := ni_ne c_31 rfl li_0
          refine lv_aload_n hx hb dX9_readMatrix_85 rfl (lv_at hl 0 rfl) ?_
          refine lv_bipush (v := 59) hx hb dX9_readMatrix_86 (by decide) ?_
          have q_q33 := li_59
          refine tcI (Tc := [(h0, ob 6 [.ref h1, .int h0f1, .int v28, .int h0f3, .ref h2]), (h1, aI (k 2) 120 anI)]) (Tr := [(h2, aJ (k 1) 36 anJ)]) (as := [h0, h1]) (zcV (q0 := 0) (ci := 6) (As := [.int 59]) (rest := []) (Tc := [(h0, ob 6 [.ref h1, .int h0f1, .int v28, .int h0f3, .ref h2]), (h1, aI (k 2) 120 anI)]) hx hb hml hown hU hK hT rfl rfl [0, 1] rfl (by decide) (cX9_pass_8ea59 l D k _ h0 h1 h2 (59) h0f1 v28 h0f3 (by have := li_59; omega) (by omega) (by omega) (by omega)) w472 w469 w471 w7 w65 hdX9_pass ⟨rfl, rfl⟩ ⟨Nat.le_of_ble_eq_true rfl, Nat.le_of_ble_eq_true rfl⟩ rfl hl.1 (Nat.le_of_ble_eq_true rfl) dX9_readMatrix_88 ⟨Nat.le_of_ble_eq_true rfl, Nat.le_of_ble_eq_true rfl⟩) hT hS hA [0, 1] [2] rfl rfl rfl (by decide) (by decide) (fun r32 H locs hB J hS => ?_)
          rcases hB with ⟨v34, b_v34, rfl, hT1⟩ | ⟨v35, v36, v37, b_v35, b_v36, b_v37, c_38, c_39, rfl, hT1⟩
          · skip
            have hT := J _ hT1
            have hT : TP D A [(h2, aJ (k 1) 36 anJ), (h0, ob 6 [.ref h1, .int h0f1, .int v34, .int h0f3, .ref h2]), (h1, aI (k 2) 120 anI)] _ := hT
            refine lv_if_eq (tgt := 98) hx hb dX9_readMatrix_91 (by decide) (fun _ => ?_) (fun cc => absurd (by decide +kernel) cc)
            refine lv_iconst (v := 0) hx hb dX9_readMatrix_98 (by decide) ?_
            exact tz_retZ (B := B_cX9_readMatrix_f7444 D k h0 h1 h2 x1 h0f1 h0f2 h0f3) (v := 0) hQ hx hb hr hlocks hS (Nat.le_of_ble_eq_true rfl) (Nat.le_of_ble_eq_true rfl) dX9_readMatrix_99 (by have := li_0; omega) (⟨v34, (by have := li_0; omega), (by have := li_0; omega), (hT.sub [1, 2, 0] (by decide) rfl)⟩)
          · skip
            have hT := J _ hT1
            have hT : TP D A [(h2, aJ (k 1) 36 anJ), (h0, ob 6 [.ref h1, .int h0f1, .int v35, .int h0f3, .ref h2]), (h1, aI (k 2) 120 anI)] _ := hT
            refine lv_if_eq (tgt := 98) hx hb dX9_readMatrix_91 (by decide) (fun cc => absurd cc (by decide +kernel)) (fun _ => ?_)
            refine lv_iconst (v := 1) hx hb dX9_readMatrix_94 (by decide) ?_
            refine lv_goto (tgt := 99) hx hb dX9_readMatrix_95 (by decide) ?_
            exact tz_retZ (B := B_cX9_readMatrix_f7444 D k h0 h1 h2 x1 h0f1 h0f2 h0f3) (v := 1) hQ hx hb hr hlocks hS (Nat.le_of_ble_eq_true rfl) (Nat.le_of_ble_eq_true rfl) dX9_readMatrix_99 (by have := li_1; omega) (⟨v35, (by have := li_1; omega), (by have := li_1; omega), (hT.sub [1, 2, 0] (by decide) rfl)⟩)
      · skip
        have c_26 := ni_nle c_26 rfl rfl
        refine lv_iload_n hx hb dX9_readMatrix_7 rfl (lv_at hl 2 rfl) ?_
        refine lv_if_le (tgt := 22) hx hb dX9_readMatrix_8 (by decide) (fun c_40 => ?_) (fun c_40 => ?_)
        · skip
          have c_40 := ni_le c_40 rfl li_0
          refine lv_iconst (v := 0) hx hb dX9_readMatrix_22 (by decide) ?_
          refine lv_istore_n (lv' := [(3, .int 0), (0, .ref h0), (1, .int x1), (2, .int y5)]) hx hb dX9_readMatrix_23 rfl hl (by decide) rfl (fun ls hl => ?_)
          exact lp24_15 ((x1.toInt + (-1) * (0 : Int32).toInt + 1).toNat + 1) (0) y6 _ _ _ (by have := li_0; omega) (by have := li_0; omega) (by have := li_0; omega)  (Nat.lt_succ_self _) hT hS (lv_sub hl [1, 2, 3, 0] rfl)
        · skip
          have c_40 := ni_nle c_40 rfl li_0
          refine lv_aload_n hx hb dX9_readMatrix_11 rfl (lv_at hl 0 rfl) ?_
          refine lv_bipush (v := 47) hx hb dX9_readMatrix_12 (by decide) ?_
          have q_q42 := li_47
          refine tcI (Tc := [(h0, ob 6 [.ref h1, .int h0f1, .int y6, .int h0f3, .ref h2]), (h1, aI (k 2) 120 anI)]) (Tr := [(h2, aJ (k 1) 36 anJ)]) (as := [h0, h1]) (zcV (q0 := 0) (ci := 6) (As := [.int 47]) (rest := []) (Tc := [(h0, ob 6 [.ref h1, .int h0f1, .int y6, .int h0f3, .ref h2]), (h1, aI (k 2) 120 anI)]) hx hb hml hown hU hK hT rfl rfl [0, 1] rfl (by decide) (cX9_pass_8ea59 l D k _ h0 h1 h2 (47) h0f1 y6 h0f3 (by have := li_47; omega) (by omega) (by omega) (by omega)) w472 w469 w471 w7 w65 hdX9_pass ⟨rfl, rfl⟩ ⟨Nat.le_of_ble_eq_true rfl, Nat.le_of_ble_eq_true rfl⟩ rfl hl.1 (Nat.le_of_ble_eq_true rfl) dX9_readMatrix_14 ⟨Nat.le_of_ble_eq_true rfl, Nat.le_of_ble_eq_true rfl⟩) hT hS hA [0, 1] [2] rfl rfl rfl (by decide) (by decide) (fun r41 H locs hB J hS => ?_)
          rcases hB with ⟨v43, b_v43, rfl, hT1⟩ | ⟨v44, v45, v46, b_v44, b_v45, b_v46, c_47, c_48, rfl, hT1⟩
          · skip
            have hT := J _ hT1
            have hT : TP D A [(h2, aJ (k 1) 36 anJ), (h0, ob 6 [.ref h1, .int h0f1, .int v43, .int h0f3, .ref h2]), (h1, aI (k 2) 120 anI)] _ := hT
            refine lv_if_ne (tgt := 22) hx hb dX9_readMatrix_17 (by decide) (fun cc => absurd (by decide +kernel) cc) (fun _ => ?_)
            refine lv_iconst (v := 0) hx hb dX9_readMatrix_20 (by decide) ?_
            exact tz_retZ (B := B_cX9_readMatrix_f7444 D k h0 h1 h2 x1 h0f1 h0f2 h0f3) (v := 0) hQ hx hb hr hlocks hS (Nat.le_of_ble_eq_true rfl) (Nat.le_of_ble_eq_true rfl) dX9_readMatrix_21 (by have := li_0; omega) (⟨v43, (by have := li_0; omega), (by have := li_0; omega), (hT.sub [1, 2, 0] (by decide) rfl)⟩)
          · skip
            have hT := J _ hT1
            have hT : TP D A [(h2, aJ (k 1) 36 anJ), (h0, ob 6 [.ref h1, .int h0f1, .int v44, .int h0f3, .ref h2]), (h1, aI (k 2) 120 anI)] _ := hT
            refine lv_if_ne (tgt := 22) hx hb dX9_readMatrix_17 (by decide) (fun _ => ?_) (fun cc => absurd cc (by decide +kernel))
            refine lv_iconst (v := 0) hx hb dX9_readMatrix_22 (by decide) ?_
            refine lv_istore_n (lv' := [(3, .int 0), (0, .ref h0), (1, .int x1), (2, .int y5)]) hx hb dX9_readMatrix_23 rfl hl (by decide) rfl (fun ls hl => ?_)
            exact lp24_15 ((x1.toInt + (-1) * (0 : Int32).toInt + 1).toNat + 1) (0) v44 _ _ _ (by have := li_0; omega) (by have := li_0; omega) (by have := li_0; omega)  (Nat.lt_succ_self _) (hT.sub [1, 2, 0] (by decide) rfl) hS (lv_sub hl [1, 2, 3, 0] rfl)
  exact lp2_7 ((3 - (0 : Int32).toInt).toNat + 1) (0) h0f2 _ _ _ (by have := li_0; omega) (by have := li_0; omega)  (Nat.lt_succ_self _) hT hS (lv_sub hl [1, 2, 0] rfl)
abbrev Rm_cX9_read_9e3bd : Room := { frames := 4, cells := 0, slots := 0, locals := 101 }
abbrev B_cX9_read_9e3bd (D : va_G) (k : Nat → ClassId) (h0 h1 h2 : Nat) (x1 : Int32) (h0f1 : Int32) (h0f2 : Int32) (h0f3 : Int32) (A : Nat → Prop) (r : Int32) (H : Heap) : Prop := ∃ o0 : Int32, ∃ o1 : Int32, (0 ≤ o0.toInt ∧ o0.toInt ≤ 120) ∧ (0 ≤ o1.toInt ∧ o1.toInt ≤ 4) ∧ (0 ≤ r.toInt ∧ r.toInt ≤ 1) ∧ TP D A [(h0, ob 6 [.ref h1, .int h0f1, .int o0, .int o1, .ref h2]), (h1, aI (k 2) 120 anI), (h2, aJ (k 1) 36 anJ)] H
set_option maxHeartbeats 4000000 in
set_option maxRecDepth 100000 in
theorem cX9_read_9e3bd (l : Launch) (D : va_G) (k : Nat → ClassId) (sz : Nat) (h0 h1 h2 : Nat) (x1 : Int32) (h0f1 : Int32) (h0f2 : Int32) (h0f3 : Int32) (b_x1 : 1 ≤ x1.toInt ∧ x1.toInt ≤ 3) (b_h0f1 : 0 ≤ h0f1.toInt ∧ h0f1.toInt ≤ 120) (b_h0f2 : 0 ≤ h0f2.toInt ∧ h0f2.toInt ≤ 120) (b_h0f3 : 0 ≤ h0f3.toInt ∧ h0f3.toInt ≤ 4) : Met l yX9_read (Cond.code yX9_read cX9_read 2 (some .boolean) :: uw) Rm_cX9_read_9e3bd (pT D k sz [.ref h0, .int x1] [(h0, ob 6 [.ref h1, .int h0f1, .int h0f2, .int h0f3, .ref h2]), (h1, aI (k 2) 120 anI), (h2, aJ (k 1) 36 anJ)]) (qI (B_cX9_read_9e3bd D k h0 h1 h2 x1 h0f1 h0f2 h0f3 (zA [h0, h1, h2] sz)) (zA [h0, h1, h2] sz)) 0 0 (zA [h0, h1, h2] sz) := by
  refine tz_begin (as := [h0, h1, h2]) (Qc := fun A => qI (B_cX9_read_9e3bd D k h0 h1 h2 x1 h0f1 h0f2 h0f3 A) A) (by decide +kernel) rfl (Nat.le_of_ble_eq_true rfl) ?_
  intro p e s m args below meth c ls A Q hx hb hr hml hown hlocks hin hU hK hT hS hA hl hQ
  have hl : lv_has ls 2 [(0, .ref h0), (1, .int x1)] := hl
  have hT : TP D A [(h0, ob 6 [.ref h1, .int h0f1, .int h0f2, .int h0f3, .ref h2]), (h1, aI (k 2) 120 anI), (h2, aJ (k 1) 36 anJ)] s.heap := hT
  refine lv_aload_n hx hb dX9_read_0 rfl (lv_at hl 0 rfl) ?_
  refine lv_iconst (v := 0) hx hb dX9_read_1 (by decide) ?_
  refine tz_put (ci := 6) (v := .int 0) (ty := .int) (C := RX9) (F := TX9) (N := 5) hx hb hU iX9 tyX9 tyX9_ok nmX9 hown hK hT hS 0 rfl rfl 2 (by decide) w123 (fun _ h9 => h9) rfl (by decide +kernel) rfl rfl (Nat.le_of_ble_eq_true rfl) dX9_read_2 (fun H locs hT hS => ?_)
  have hT : TP D A [(h0, ob 6 [.ref h1, .int h0f1, .int 0, .int h0f3, .ref h2]), (h1, aI (k 2) 120 anI), (h2, aJ (k 1) 36 anJ)] _ := hT
  refine lv_aload_n hx hb dX9_read_5 rfl (lv_at hl 0 rfl) ?_
  refine lv_iconst (v := 0) hx hb dX9_read_6 (by decide) ?_
  refine tz_put (ci := 6) (v := .int 0) (ty := .int) (C := RX9) (F := TX9) (N := 5) hx hb hU iX9 tyX9 tyX9_ok nmX9 hown hK hT hS 0 rfl rfl 3 (by decide) w125 (fun _ h9 => h9) rfl (by decide +kernel) rfl rfl (Nat.le_of_ble_eq_true rfl) dX9_read_7 (fun H locs hT hS => ?_)
  have hT : TP D A [(h0, ob 6 [.ref h1, .int h0f1, .int 0, .int 0, .ref h2]), (h1, aI (k 2) 120 anI), (h2, aJ (k 1) 36 anJ)] _ := hT
  refine lv_aload_n hx hb dX9_read_10 rfl (lv_at hl 0 rfl) ?_
  have q_q2 := li_0
  have q_q3 := li_0
  refine tcV (Tc := [(h0, ob 6 [.ref h1, .int h0f1, .int 0, .int 0, .ref h2]), (h1, aI (k 2) 120 anI)]) (Tr := [(h2, aJ (k 1) 36 anJ)]) (as := [h0, h1]) (zcV (q0 := 0) (ci := 6) (As := []) (rest := []) (Tc := [(h0, ob 6 [.ref h1, .int h0f1, .int 0, .int 0, .ref h2]), (h1, aI (k 2) 120 anI)]) hx hb hml hown hU hK hT rfl rfl [0, 1] rfl (by decide) (cX9_skipBlanks_4b650 l D k _ h0 h1 h2 h0f1 (0) (0) (by omega) (by have := li_0; omega) (by have := li_0; omega)) w464 w461 w463 w5 w65 hdX9_skipBlanks ⟨rfl, rfl⟩ ⟨Nat.le_of_ble_eq_true rfl, Nat.le_of_ble_eq_true rfl⟩ rfl hl.1 (Nat.le_of_ble_eq_true rfl) dX9_read_11 ⟨Nat.le_of_ble_eq_true rfl, Nat.le_of_ble_eq_true rfl⟩) hT hS hA [0, 1] [2] rfl rfl rfl (by decide) (by decide) (fun H locs hB J hS => ?_)
  obtain ⟨v4, b_v4, hT1⟩ := hB
  have hT := J _ hT1
  have hT : TP D A [(h2, aJ (k 1) 36 anJ), (h0, ob 6 [.ref h1, .int h0f1, .int v4, .int 0, .ref h2]), (h1, aI (k 2) 120 anI)] _ := hT
  have lp14_13 : ∀ (n : Nat) (y11 : Int32) (y12 : Int32) (H : Heap) (locs : List Loc) (ls : Array Slot), (0 ≤ y11.toInt ∧ y11.toInt ≤ 120) → (0 ≤ y12.toInt ∧ y12.toInt ≤ 4) → ((-1) * y12.toInt + 4 + 1).toNat < n → TP D A [(h2, aJ (k 1) 36 anJ), (h0, ob 6 [.ref h1, .int h0f1, .int y11, .int y12, .ref h2]), (h1, aI (k 2) 120 anI)] H → va_S A s.heap H locs → lv_has ls 2 [(0, .ref h0), (1, .int x1)] → W p l e Rm_cX9_read_9e3bd s m args below meth c H locs 0 0 Q (F0 m 14 ls []) := by
    intro n
    induction n with
    | zero => intro y11 y12 H locs ls b_y11 b_y12 hm hT hS hl; exact absurd hm (Nat.not_lt_zero _)
    | succ n ih =>
      intro y11 y12 H locs ls b_y11 b_y12 hm hT hS hl
      have ih14_13 := ih
      clear ih
      refine lv_aload_n hx hb dX9_read_14 rfl (lv_at hl 0 rfl) ?_
      refine tz_get (ci := 6) (v := .int y11) (C := RX9) (F := TX9) (N := 5) hx hb hU iX9 hown hK hT 1 rfl rfl 2 (by decide) w123 (fun _ h9 => h9) rfl dX9_read_15 ?_
      refine lv_aload_n hx hb dX9_read_18 rfl (lv_at hl 0 rfl) ?_
      refine tz_get (ci := 6) (v := .int h0f1) (C := RX9) (F := TX9) (N := 5) hx hb hU iX9 hown hK hT 1 rfl rfl 1 (by decide) w121 (fun _ h9 => h9) rfl dX9_read_19 ?_
      refine lv_icmp_ge (tgt := 60) hx hb dX9_read_22 (by decide) (fun c_14 => ?_) (fun c_14 => ?_)
      · skip
        have c_14 := ni_le c_14 rfl rfl
        refine lv_iconst (v := 1) hx hb dX9_read_60 (by decide) ?_
        exact tz_retZ (B := B_cX9_read_9e3bd D k h0 h1 h2 x1 h0f1 h0f2 h0f3) (v := 1) hQ hx hb hr hlocks hS (Nat.le_of_ble_eq_true rfl) (Nat.le_of_ble_eq_true rfl) dX9_read_61 (by have := li_1; omega) (⟨y11, y12, (by have := li_1; omega), (by have := li_1; omega), (by have := li_1; omega), (hT.sub [1, 2, 0] (by decide) rfl)⟩)
      · skip
        have c_14 := ni_nle c_14 rfl rfl
        refine lv_aload_n hx hb dX9_read_25 rfl (lv_at hl 0 rfl) ?_
        refine tz_get (ci := 6) (v := .int y12) (C := RX9) (F := TX9) (N := 5) hx hb hU iX9 hown hK hT 1 rfl rfl 3 (by decide) w125 (fun _ h9 => h9) rfl dX9_read_26 ?_
        refine lv_iconst (v := 4) hx hb dX9_read_29 (by decide) ?_
        refine lv_icmp_eq (tgt := 41) hx hb dX9_read_30 (by decide) (fun c_15 => ?_) (fun c_15 => ?_)
        · skip
          have c_15 := ni_eq c_15 rfl li_4
          refine lv_iconst (v := 0) hx hb dX9_read_41 (by decide) ?_
          exact tz_retZ (B := B_cX9_read_9e3bd D k h0 h1 h2 x1 h0f1 h0f2 h0f3) (v := 0) hQ hx hb hr hlocks hS (Nat.le_of_ble_eq_true rfl) (Nat.le_of_ble_eq_true rfl) dX9_read_42 (by have := li_0; omega) (⟨y11, y12, (by have := li_0; omega), (by have := li_0; omega), (by have := li_0; omega), (hT.sub [1, 2, 0] (by decide) rfl)⟩)
        · skip
          have c_15 := ni_ne c_15 rfl li_4
          refine lv_aload_n hx hb dX9_read_33 rfl (lv_at hl 0 rfl) ?_
          refine lv_iload_n hx hb dX9_read_34 rfl (lv_at hl 1 rfl) ?_
          refine tcI (Tc := [(h0, ob 6 [.ref h1, .int h0f1, .int y11, .int y12, .ref h2]), (h1, aI (k 2) 120 anI), (h2, aJ (k 1) 36 anJ)]) (Tr := []) (as := [h0, h1, h2]) (zcV (q0 := 1) (ci := 6) (As := [.int x1]) (rest := []) (Tc := [(h0, ob 6 [.ref h1, .int h0f1, .int y11, .int y12, .ref h2]), (h1, aI (k 2) 120 anI), (h2, aJ (k 1) 36 anJ)]) hx hb hml hown hU hK hT rfl rfl [1, 2, 0] rfl (by decide) (cX9_readMatrix_f7444 l D k _ h0 h1 h2 x1 h0f1 y11 y12 (by omega) (by omega) (by omega) (by omega)) w468 w465 w467 w6 w65 hdX9_readMatrix ⟨rfl, rfl⟩ ⟨Nat.le_of_ble_eq_true rfl, Nat.le_of_ble_eq_true rfl⟩ rfl hl.1 (Nat.le_of_ble_eq_true rfl) dX9_read_35 ⟨Nat.le_of_ble_eq_true rfl, Nat.le_of_ble_eq_true rfl⟩) hT hS hA [1, 2, 0] [] rfl rfl rfl (by decide) (by decide) (fun r16 H locs hB J hS => ?_)
          obtain ⟨v17, b_v17, b_r16, hT1⟩ := hB
          have hT := J _ hT1
          have hT : TP D A [(h0, ob 6 [.ref h1, .int h0f1, .int v17, .int y12, .ref h2]), (h1, aI (k 2) 120 anI), (h2, aJ (k 1) 36 anJ)] _ := hT
          refine lv_if_ne (tgt := 43) hx hb dX9_read_38 (by decide) (fun c_18 => ?_) (fun c_18 => ?_)
          · skip
            have c_18 := ni_ne c_18 rfl li_0
            refine lv_aload_n hx hb dX9_read_43 rfl (lv_at hl 0 rfl) ?_
            refine lv_dup hx hb dX9_read_44 rfl ?_
            refine tz_get (ci := 6) (v := .int y12) (C := RX9) (F := TX9) (N := 5) hx hb hU iX9 hown hK hT 0 rfl rfl 3 (by decide) w125 (fun _ h9 => h9) rfl dX9_read_45 ?_
            refine lv_iconst (v := 1) hx hb dX9_read_48 (by decide) ?_
            refine lv_iadd hx hb dX9_read_49 (lv_topi (fun v19 e_v19 => ?_))
            have e_v19 := ai_add e_v19 rfl li_1 (by omega)
            refine tz_put (ci := 6) (v := .int v19) (ty := .int) (C := RX9) (F := TX9) (N := 5) hx hb hU iX9 tyX9 tyX9_ok nmX9 hown hK hT hS 0 rfl rfl 3 (by decide) w125 (fun _ h9 => h9) rfl (by decide +kernel) rfl rfl (Nat.le_of_ble_eq_true rfl) dX9_read_50 (fun H locs hT hS => ?_)
            have hT : TP D A [(h0, ob 6 [.ref h1, .int h0f1, .int v17, .int v19, .ref h2]), (h1, aI (k 2) 120 anI), (h2, aJ (k 1) 36 anJ)] _ := hT
            refine lv_aload_n hx hb dX9_read_53 rfl (lv_at hl 0 rfl) ?_
            refine tcV (Tc := [(h0, ob 6 [.ref h1, .int h0f1, .int v17, .int v19, .ref h2]), (h1, aI (k 2) 120 anI)]) (Tr := [(h2, aJ (k 1) 36 anJ)]) (as := [h0, h1]) (zcV (q0 := 0) (ci := 6) (As := []) (rest := []) (Tc := [(h0, ob 6 [.ref h1, .int h0f1, .int v17, .int v19, .ref h2]), (h1, aI (k 2) 120 anI)]) hx hb hml hown hU hK hT rfl rfl [0, 1] rfl (by decide) (cX9_skipBlanks_4b650 l D k _ h0 h1 h2 h0f1 v17 v19 (by omega) (by omega) (by omega)) w464 w461 w463 w5 w65 hdX9_skipBlanks ⟨rfl, rfl⟩ ⟨Nat.le_of_ble_eq_true rfl, Nat.le_of_ble_eq_true rfl⟩ rfl hl.1 (Nat.le_of_ble_eq_true rfl) dX9_read_54 ⟨Nat.le_of_ble_eq_true rfl, Nat.le_of_ble_eq_true rfl⟩) hT hS hA [0, 1] [2] rfl rfl rfl (by decide) (by decide) (fun H locs hB J hS => ?_)
            obtain ⟨v21, b_v21, hT1⟩ := hB
            have hT := J _ hT1
            have hT : TP D A [(h2, aJ (k 1) 36 anJ), (h0, ob 6 [.ref h1, .int h0f1, .int v21, .int v19, .ref h2]), (h1, aI (k 2) 120 anI)] _ := hT
            refine lv_goto (tgt := 14) hx hb dX9_read_57 (by decide) ?_
            exact ih14_13 v21 v19 _ _ _ (by omega) (by omega)  (by omega) hT hS hl
          · skip
            have c_18 := ni_eq c_18 rfl li_0
            refine lv_iconst (v := 0) hx hb dX9_read_41 (by decide) ?_
            exact tz_retZ (B := B_cX9_read_9e3bd D k h0 h1 h2 x1 h0f1 h0f2 h0f3) (v := 0) hQ hx hb hr hlocks hS (Nat.le_of_ble_eq_true rfl) (Nat.le_of_ble_eq_true rfl) dX9_read_42 (by have := li_0; omega) (⟨v17, y12, (by have := li_0; omega), (by have := li_0; omega), (by have := li_0; omega), hT⟩)
  exact lp14_13 (((-1) * (0 : Int32).toInt + 4 + 1).toNat + 1) v4 (0) _ _ _ (by have := li_0; omega) (by have := li_0; omega)  (Nat.lt_succ_self _) hT hS hl
abbrev Rm_cX10_text_00c90 : Room := { frames := 5, cells := 0, slots := 0, locals := 122 }
abbrev B_cX10_text_00c90 (D : va_G) (k : Nat → ClassId) (h0 h1 h3 h7 h13 h15 h16 h2 h4 h5 h6 h8 h9 h10 h11 h12 : Nat) (h0f2 : Int32) (h0f6 : Int32) (h0f8 : Int32) (h0f11 : Int32) (h1f0 : Int32) (h1f1 : Int32) (h1f2 : Int32) (h3f1 : Int32) (h3f2 : Int32) (h3f3 : Int32) (A : Nat → Prop) (r : Int32) (H : Heap) : Prop := ∃ o0 : Int32, ∃ o1 : Int32, ∃ o2 : Int32, ∃ o3 : Int32, ∃ o4 : Int32, (0 ≤ o0.toInt ∧ o0.toInt ≤ 1) ∧ (0 ≤ o1.toInt ∧ o1.toInt ≤ 1) ∧ (0 ≤ o2.toInt ∧ o2.toInt ≤ 4) ∧ (0 ≤ o3.toInt ∧ o3.toInt ≤ 120) ∧ (0 ≤ o4.toInt ∧ o4.toInt ≤ 4) ∧ ((-220) ≤ r.toInt ∧ r.toInt ≤ 4) ∧ TP D A [(h0, ob 7 [.ref h1, .ref h2, .int h0f2, .ref h3, .ref h4, .ref h5, .int o0, .ref h6, .int o1, .null, .ref h7, .int h0f11, .ref h8, .ref h9, .ref h10, .ref h11, .ref h12]), (h1, ob 4 [.int h1f0, .int o2, .int h1f2, .ref h13]), (h3, ob 6 [.ref h15, .int 0, .int o3, .int o4, .ref h16]), (h7, aI (k 0) 8 anI), (h13, aJ (k 1) 36 anJ), (h15, aI (k 2) 120 anI), (h16, aJ (k 1) 36 anJ)] H
set_option maxHeartbeats 4000000 in
set_option maxRecDepth 100000 in
theorem cX10_text_00c90 (l : Launch) (D : va_G) (k : Nat → ClassId) (sz : Nat) (h0 h1 h3 h7 h13 h15 h16 h2 h4 h5 h6 h8 h9 h10 h11 h12 : Nat) (h0f2 : Int32) (h0f6 : Int32) (h0f8 : Int32) (h0f11 : Int32) (h1f0 : Int32) (h1f1 : Int32) (h1f2 : Int32) (h3f1 : Int32) (h3f2 : Int32) (h3f3 : Int32) (b_h0f2 : 0 ≤ h0f2.toInt ∧ h0f2.toInt ≤ 1) (b_h0f6 : 0 ≤ h0f6.toInt ∧ h0f6.toInt ≤ 1) (b_h0f8 : 0 ≤ h0f8.toInt ∧ h0f8.toInt ≤ 1) (b_h0f11 : 0 ≤ h0f11.toInt ∧ h0f11.toInt ≤ 200) (b_h1f0 : 1 ≤ h1f0.toInt ∧ h1f0.toInt ≤ 3) (b_h1f1 : 0 ≤ h1f1.toInt ∧ h1f1.toInt ≤ 4) (b_h3f1 : 0 ≤ h3f1.toInt ∧ h3f1.toInt ≤ 120) (b_h3f2 : 0 ≤ h3f2.toInt ∧ h3f2.toInt ≤ 120) (b_h3f3 : 0 ≤ h3f3.toInt ∧ h3f3.toInt ≤ 4) : Met l yX10_text (Cond.code yX10_text cX10_text 2 (some .int) :: uw) Rm_cX10_text_00c90 (pT D k sz [.ref h0] [(h0, ob 7 [.ref h1, .ref h2, .int h0f2, .ref h3, .ref h4, .ref h5, .int h0f6, .ref h6, .int h0f8, .null, .ref h7, .int h0f11, .ref h8, .ref h9, .ref h10, .ref h11, .ref h12]), (h1, ob 4 [.int h1f0, .int h1f1, .int h1f2, .ref h13]), (h3, ob 6 [.ref h15, .int h3f1, .int h3f2, .int h3f3, .ref h16]), (h7, aI (k 0) 8 anI), (h13, aJ (k 1) 36 anJ), (h15, aI (k 2) 120 anI), (h16, aJ (k 1) 36 anJ)]) (qI (B_cX10_text_00c90 D k h0 h1 h3 h7 h13 h15 h16 h2 h4 h5 h6 h8 h9 h10 h11 h12 h0f2 h0f6 h0f8 h0f11 h1f0 h1f1 h1f2 h3f1 h3f2 h3f3 (zA [h0, h1, h3, h7, h13, h15, h16] sz)) (zA [h0, h1, h3, h7, h13, h15, h16] sz)) 0 0 (zA [h0, h1, h3, h7, h13, h15, h16] sz) := by
  refine tz_begin (as := [h0, h1, h3, h7, h13, h15, h16]) (Qc := fun A => qI (B_cX10_text_00c90 D k h0 h1 h3 h7 h13 h15 h16 h2 h4 h5 h6 h8 h9 h10 h11 h12 h0f2 h0f6 h0f8 h0f11 h1f0 h1f1 h1f2 h3f1 h3f2 h3f3 A) A) (by decide +kernel) rfl (Nat.le_of_ble_eq_true rfl) ?_
  intro p e s m args below meth c ls A Q hx hb hr hml hown hlocks hin hU hK hT hS hA hl hQ
  have hl : lv_has ls 2 [(0, .ref h0)] := hl
  have hT : TP D A [(h0, ob 7 [.ref h1, .ref h2, .int h0f2, .ref h3, .ref h4, .ref h5, .int h0f6, .ref h6, .int h0f8, .null, .ref h7, .int h0f11, .ref h8, .ref h9, .ref h10, .ref h11, .ref h12]), (h1, ob 4 [.int h1f0, .int h1f1, .int h1f2, .ref h13]), (h3, ob 6 [.ref h15, .int h3f1, .int h3f2, .int h3f3, .ref h16]), (h7, aI (k 0) 8 anI), (h13, aJ (k 1) 36 anJ), (h15, aI (k 2) 120 anI), (h16, aJ (k 1) 36 anJ)] s.heap := hT
  refine lv_aload_n hx hb dX10_text_0 rfl (lv_at hl 0 rfl) ?_
  refine tz_get (ci := 7) (v := .ref h3) (C := RX10) (F := TX10) (N := 17) hx hb hU iX10 hown hK hT 0 rfl rfl 3 (by decide) w252 (fun _ h9 => h9) rfl dX10_text_1 ?_
  refine lv_aload_n hx hb dX10_text_4 rfl (lv_at hl 0 rfl) ?_
  refine tz_get (ci := 7) (v := .ref h1) (C := RX10) (F := TX10) (N := 17) hx hb hU iX10 hown hK hT 0 rfl rfl 0 (by decide) w249 (fun _ h9 => h9) rfl dX10_text_5 ?_
  refine tz_get (ci := 4) (v := .int h1f0) (C := RX5) (F := TX5) (N := 4) hx hb hU iX5 hown hK hT 1 rfl rfl 0 (by decide) w93 (fun _ h9 => h9) rfl dX10_text_8 ?_
  refine tcI (Tc := [(h3, ob 6 [.ref h15, .int h3f1, .int h3f2, .int h3f3, .ref h16]), (h15, aI (k 2) 120 anI), (h16, aJ (k 1) 36 anJ)]) (Tr := [(h0, ob 7 [.ref h1, .ref h2, .int h0f2, .ref h3, .ref h4, .ref h5, .int h0f6, .ref h6, .int h0f8, .null, .ref h7, .int h0f11, .ref h8, .ref h9, .ref h10, .ref h11, .ref h12]), (h1, ob 4 [.int h1f0, .int h1f1, .int h1f2, .ref h13]), (h7, aI (k 0) 8 anI), (h13, aJ (k 1) 36 anJ)]) (as := [h3, h15, h16]) (zcV (q0 := 2) (ci := 6) (As := [.int h1f0]) (rest := []) (Tc := [(h3, ob 6 [.ref h15, .int h3f1, .int h3f2, .int h3f3, .ref h16]), (h15, aI (k 2) 120 anI), (h16, aJ (k 1) 36 anJ)]) hx hb hml hown hU hK hT rfl rfl [2, 5, 6] rfl (by decide) (cX9_read_9e3bd l D k _ h3 h15 h16 h1f0 h3f1 h3f2 h3f3 (by omega) (by omega) (by omega) (by omega)) w460 w457 w458 w459 w65 hdX9_read ⟨rfl, rfl⟩ ⟨Nat.le_of_ble_eq_true rfl, Nat.le_of_ble_eq_true rfl⟩ rfl hl.1 (Nat.le_of_ble_eq_true rfl) dX10_text_11 ⟨Nat.le_of_ble_eq_true rfl, Nat.le_of_ble_eq_true rfl⟩) hT hS hA [2, 5, 6] [0, 1, 3, 4] rfl rfl rfl (by decide) (by decide) (fun r1 H locs hB J hS => ?_)
  obtain ⟨v2, v3, b_v2, b_v3, b_r1, hT1⟩ := hB
  have hT := J _ hT1
  have hT : TP D A [(h0, ob 7 [.ref h1, .ref h2, .int h0f2, .ref h3, .ref h4, .ref h5, .int h0f6, .ref h6, .int h0f8, .null, .ref h7, .int h0f11, .ref h8, .ref h9, .ref h10, .ref h11, .ref h12]), (h1, ob 4 [.int h1f0, .int h1f1, .int h1f2, .ref h13]), (h7, aI (k 0) 8 anI), (h13, aJ (k 1) 36 anJ), (h3, ob 6 [.ref h15, .int h3f1, .int v2, .int v3, .ref h16]), (h15, aI (k 2) 120 anI), (h16, aJ (k 1) 36 anJ)] _ := hT
  refine lv_istore_n (lv' := [(1, .int r1), (0, .ref h0)]) hx hb dX10_text_14 rfl hl (by decide) rfl (fun ls hl => ?_)
  refine lv_aload_n hx hb dX10_text_15 rfl (lv_at hl 1 rfl) ?_
  refine tz_get (ci := 7) (v := .ref h3) (C := RX10) (F := TX10) (N := 17) hx hb hU iX10 hown hK hT 0 rfl rfl 3 (by decide) w252 (fun _ h9 => h9) rfl dX10_text_16 ?_
  refine lv_iconst (v := 0) hx hb dX10_text_19 (by decide) ?_
  refine tz_put (ci := 6) (v := .int 0) (ty := .int) (C := RX9) (F := TX9) (N := 5) hx hb hU iX9 tyX9 tyX9_ok nmX9 hown hK hT hS 4 rfl rfl 1 (by decide) w122 (fun _ h9 => h9) rfl (by decide +kernel) rfl rfl (Nat.le_of_ble_eq_true rfl) dX10_text_20 (fun H locs hT hS => ?_)
  have hT : TP D A [(h0, ob 7 [.ref h1, .ref h2, .int h0f2, .ref h3, .ref h4, .ref h5, .int h0f6, .ref h6, .int h0f8, .null, .ref h7, .int h0f11, .ref h8, .ref h9, .ref h10, .ref h11, .ref h12]), (h1, ob 4 [.int h1f0, .int h1f1, .int h1f2, .ref h13]), (h7, aI (k 0) 8 anI), (h13, aJ (k 1) 36 anJ), (h3, ob 6 [.ref h15, .int 0, .int v2, .int v3, .ref h16]), (h15, aI (k 2) 120 anI), (h16, aJ (k 1) 36 anJ)] _ := hT
  refine lv_iload_n hx hb dX10_text_23 rfl (lv_at hl 0 rfl) ?_
  refine lv_if_ne (tgt := 38) hx hb dX10_text_24 (by decide) (fun c_4 => ?_) (fun c_4 => ?_)
  · skip
    have c_4 := ni_ne c_4 rfl li_0
    refine lv_aload_n hx hb dX10_text_38 rfl (lv_at hl 1 rfl) ?_
    refine tz_get (ci := 7) (v := .ref h1) (C := RX10) (F := TX10) (N := 17) hx hb hU iX10 hown hK hT 0 rfl rfl 0 (by decide) w249 (fun _ h9 => h9) rfl dX10_text_39 ?_
    refine lv_aload_n hx hb dX10_text_42 rfl (lv_at hl 1 rfl) ?_
    refine tz_get (ci := 7) (v := .ref h3) (C := RX10) (F := TX10) (N := 17) hx hb hU iX10 hown hK hT 0 rfl rfl 3 (by decide) w252 (fun _ h9 => h9) rfl dX10_text_43 ?_
    refine tz_get (ci := 6) (v := .int v3) (C := RX9) (F := TX9) (N := 5) hx hb hU iX9 hown hK hT 4 rfl rfl 3 (by decide) w126 (fun _ h9 => h9) rfl dX10_text_46 ?_
    refine tz_put (ci := 4) (v := .int v3) (ty := .int) (C := RX5) (F := TX5) (N := 4) hx hb hU iX5 tyX5 tyX5_ok nmX5 hown hK hT hS 1 rfl rfl 1 (by decide) w97 (fun _ h9 => h9) rfl (by decide +kernel) rfl rfl (Nat.le_of_ble_eq_true rfl) dX10_text_49 (fun H locs hT hS => ?_)
    have hT : TP D A [(h0, ob 7 [.ref h1, .ref h2, .int h0f2, .ref h3, .ref h4, .ref h5, .int h0f6, .ref h6, .int h0f8, .null, .ref h7, .int h0f11, .ref h8, .ref h9, .ref h10, .ref h11, .ref h12]), (h1, ob 4 [.int h1f0, .int v3, .int h1f2, .ref h13]), (h7, aI (k 0) 8 anI), (h13, aJ (k 1) 36 anJ), (h3, ob 6 [.ref h15, .int 0, .int v2, .int v3, .ref h16]), (h15, aI (k 2) 120 anI), (h16, aJ (k 1) 36 anJ)] _ := hT
    refine lv_aload_n hx hb dX10_text_52 rfl (lv_at hl 1 rfl) ?_
    refine tz_get (ci := 7) (v := .ref h3) (C := RX10) (F := TX10) (N := 17) hx hb hU iX10 hown hK hT 0 rfl rfl 3 (by decide) w252 (fun _ h9 => h9) rfl dX10_text_53 ?_
    refine tz_get (ci := 6) (v := .ref h16) (C := RX9) (F := TX9) (N := 5) hx hb hU iX9 hown hK hT 4 rfl rfl 4 (by decide) w128 (fun _ h9 => h9) rfl dX10_text_56 ?_
    refine lv_iconst (v := 0) hx hb dX10_text_59 (by decide) ?_
    refine lv_aload_n hx hb dX10_text_60 rfl (lv_at hl 1 rfl) ?_
    refine tz_get (ci := 7) (v := .ref h1) (C := RX10) (F := TX10) (N := 17) hx hb hU iX10 hown hK hT 0 rfl rfl 0 (by decide) w249 (fun _ h9 => h9) rfl dX10_text_61 ?_
    refine tz_get (ci := 4) (v := .ref h13) (C := RX5) (F := TX5) (N := 4) hx hb hU iX5 hown hK hT 1 rfl rfl 3 (by decide) w103 (fun _ h9 => h9) rfl dX10_text_64 ?_
    refine lv_iconst (v := 0) hx hb dX10_text_67 (by decide) ?_
    refine lv_aload_n hx hb dX10_text_68 rfl (lv_at hl 1 rfl) ?_
    refine tz_get (ci := 7) (v := .ref h3) (C := RX10) (F := TX10) (N := 17) hx hb hU iX10 hown hK hT 0 rfl rfl 3 (by decide) w252 (fun _ h9 => h9) rfl dX10_text_69 ?_
    refine tz_get (ci := 6) (v := .int v3) (C := RX9) (F := TX9) (N := 5) hx hb hU iX9 hown hK hT 4 rfl rfl 3 (by decide) w126 (fun _ h9 => h9) rfl dX10_text_72 ?_
    refine lv_bipush (v := 9) hx hb dX10_text_75 (by decide) ?_
    refine lv_imul hx hb dX10_text_77 (lv_topi (fun v5 e_v5 => ?_))
    have e_v5 := ai_mul e_v5 rfl li_9 (by omega)
    refine tz_copyl hx hb (by rw [hml]; exact hl.1.symm) hown hU w410 w348 w347 w75 hK hT hS 6 3 rfl rfl (by have := li_0; omega) (fun _ _ _ _ => trivial) (Nat.le_of_ble_eq_true rfl) (Nat.le_of_ble_eq_true rfl) dX10_text_78 (fun H locs hT hS => ?_)
    refine lv_aload_n hx hb dX10_text_81 rfl (lv_at hl 1 rfl) ?_
    refine tcV (Tc := [(h0, ob 7 [.ref h1, .ref h2, .int h0f2, .ref h3, .ref h4, .ref h5, .int h0f6, .ref h6, .int h0f8, .null, .ref h7, .int h0f11, .ref h8, .ref h9, .ref h10, .ref h11, .ref h12]), (h7, aI (k 0) 8 anI)]) (Tr := [(h1, ob 4 [.int h1f0, .int v3, .int h1f2, .ref h13]), (h13, aJ (k 1) 36 anJ), (h3, ob 6 [.ref h15, .int 0, .int v2, .int v3, .ref h16]), (h15, aI (k 2) 120 anI), (h16, aJ (k 1) 36 anJ)]) (as := [h0, h7]) (zcV (q0 := 0) (ci := 7) (As := []) (rest := []) (Tc := [(h0, ob 7 [.ref h1, .ref h2, .int h0f2, .ref h3, .ref h4, .ref h5, .int h0f6, .ref h6, .int h0f8, .null, .ref h7, .int h0f11, .ref h8, .ref h9, .ref h10, .ref h11, .ref h12]), (h7, aI (k 0) 8 anI)]) hx hb hml hown hU hK hT rfl rfl [0, 2] rfl (by decide) (cX10_forgetWhatCame_0fe65 l D k _ h0 h7 h1 h2 h3 h4 h5 h6 h8 h9 h10 h11 h12 h0f2 h0f6 h0f8 h0f11 (by omega) (by omega) (by omega) (by omega)) w308 w305 w307 w0 w63 hdX10_forgetWhatCame ⟨rfl, rfl⟩ ⟨Nat.le_of_ble_eq_true rfl, Nat.le_of_ble_eq_true rfl⟩ rfl hl.1 (Nat.le_of_ble_eq_true rfl) dX10_text_82 ⟨Nat.le_of_ble_eq_true rfl, Nat.le_of_ble_eq_true rfl⟩) hT hS hA [0, 2] [1, 3, 4, 5, 6] rfl rfl rfl (by decide) (by decide) (fun H locs hB J hS => ?_)
    have hT1 := hB
    have hT := J _ hT1
    have hT : TP D A [(h1, ob 4 [.int h1f0, .int v3, .int h1f2, .ref h13]), (h13, aJ (k 1) 36 anJ), (h3, ob 6 [.ref h15, .int 0, .int v2, .int v3, .ref h16]), (h15, aI (k 2) 120 anI), (h16, aJ (k 1) 36 anJ), (h0, ob 7 [.ref h1, .ref h2, .int h0f2, .ref h3, .ref h4, .ref h5, .int 0, .ref h6, .int 0, .null, .ref h7, .int h0f11, .ref h8, .ref h9, .ref h10, .ref h11, .ref h12]), (h7, aI (k 0) 8 anI)] _ := hT
    refine lv_aload_n hx hb dX10_text_85 rfl (lv_at hl 1 rfl) ?_
    refine tz_get (ci := 7) (v := .ref h1) (C := RX10) (F := TX10) (N := 17) hx hb hU iX10 hown hK hT 5 rfl rfl 0 (by decide) w249 (fun _ h9 => h9) rfl dX10_text_86 ?_
    refine tz_get (ci := 4) (v := .int v3) (C := RX5) (F := TX5) (N := 4) hx hb hU iX5 hown hK hT 0 rfl rfl 1 (by decide) w97 (fun _ h9 => h9) rfl dX10_text_89 ?_
    exact tz_retI (B := B_cX10_text_00c90 D k h0 h1 h3 h7 h13 h15 h16 h2 h4 h5 h6 h8 h9 h10 h11 h12 h0f2 h0f6 h0f8 h0f11 h1f0 h1f1 h1f2 h3f1 h3f2 h3f3) (v := v3) hQ hx hb hr hlocks hS (Nat.le_of_ble_eq_true rfl) (Nat.le_of_ble_eq_true rfl) dX10_text_92 (⟨0, 0, v3, v2, v3, (by have := li_0; omega), (by have := li_0; omega), (by have := li_0; omega), (by have := li_0; omega), (by have := li_0; omega), (by have := li_0; omega), (hT.sub [5, 0, 2, 6, 1, 3, 4] (by decide) rfl)⟩)
  · skip
    have c_4 := ni_eq c_4 rfl li_0
    refine lv_bipush (v := (-100)) hx hb dX10_text_27 (by decide) ?_
    refine lv_aload_n hx hb dX10_text_29 rfl (lv_at hl 1 rfl) ?_
    refine tz_get (ci := 7) (v := .ref h3) (C := RX10) (F := TX10) (N := 17) hx hb hU iX10 hown hK hT 0 rfl rfl 3 (by decide) w252 (fun _ h9 => h9) rfl dX10_text_30 ?_
    refine tz_get (ci := 6) (v := .int v2) (C := RX9) (F := TX9) (N := 5) hx hb hU iX9 hown hK hT 4 rfl rfl 2 (by decide) w124 (fun _ h9 => h9) rfl dX10_text_33 ?_
    refine lv_isub hx hb dX10_text_36 (lv_topi (fun v7 e_v7 => ?_))
    have e_v7 := ai_sub e_v7 li_m100 rfl (by omega)
    exact tz_retI (B := B_cX10_text_00c90 D k h0 h1 h3 h7 h13 h15 h16 h2 h4 h5 h6 h8 h9 h10 h11 h12 h0f2 h0f6 h0f8 h0f11 h1f0 h1f1 h1f2 h3f1 h3f2 h3f3) (v := v7) hQ hx hb hr hlocks hS (Nat.le_of_ble_eq_true rfl) (Nat.le_of_ble_eq_true rfl) dX10_text_37 (⟨h0f6, h0f8, h1f1, v2, v3, (by omega), (by omega), (by omega), (by omega), (by omega), (by omega), (hT.sub [0, 1, 4, 2, 3, 5, 6] (by decide) rfl)⟩)
abbrev Rm_cX10_text_d03f2 : Room := { frames := 5, cells := 0, slots := 0, locals := 122 }
abbrev B_cX10_text_d03f2 (D : va_G) (k : Nat → ClassId) (h0 h1 h3 h8 h14 h16 h17 h2 h4 h5 h6 h7 h9 h10 h11 h12 h13 : Nat) (h0f2 : Int32) (h0f6 : Int32) (h0f8 : Int32) (h0f11 : Int32) (h1f0 : Int32) (h1f1 : Int32) (h1f2 : Int32) (h3f1 : Int32) (h3f2 : Int32) (h3f3 : Int32) (A : Nat → Prop) (r : Int32) (H : Heap) : Prop := ∃ o0 : Int32, ∃ o1 : Int32, ∃ o2 : Int32, ∃ o3 : Int32, ∃ o4 : Int32, (0 ≤ o0.toInt ∧ o0.toInt ≤ 1) ∧ (0 ≤ o1.toInt ∧ o1.toInt ≤ 1) ∧ (0 ≤ o2.toInt ∧ o2.toInt ≤ 4) ∧ (0 ≤ o3.toInt ∧ o3.toInt ≤ 120) ∧ (0 ≤ o4.toInt ∧ o4.toInt ≤ 4) ∧ ((-220) ≤ r.toInt ∧ r.toInt ≤ 4) ∧ TP D A [(h0, ob 7 [.ref h1, .ref h2, .int h0f2, .ref h3, .ref h4, .ref h5, .int o0, .ref h6, .int o1, .ref h7, .ref h8, .int h0f11, .ref h9, .ref h10, .ref h11, .ref h12, .ref h13]), (h1, ob 4 [.int h1f0, .int o2, .int h1f2, .ref h14]), (h3, ob 6 [.ref h16, .int 0, .int o3, .int o4, .ref h17]), (h8, aI (k 0) 8 anI), (h14, aJ (k 1) 36 anJ), (h16, aI (k 2) 120 anI), (h17, aJ (k 1) 36 anJ)] H
set_option maxHeartbeats 4000000 in
set_option maxRecDepth 100000 in
theorem cX10_text_d03f2 (l : Launch) (D : va_G) (k : Nat → ClassId) (sz : Nat) (h0 h1 h3 h8 h14 h16 h17 h2 h4 h5 h6 h7 h9 h10 h11 h12 h13 : Nat) (h0f2 : Int32) (h0f6 : Int32) (h0f8 : Int32) (h0f11 : Int32) (h1f0 : Int32) (h1f1 : Int32) (h1f2 : Int32) (h3f1 : Int32) (h3f2 : Int32) (h3f3 : Int32) (b_h0f2 : 0 ≤ h0f2.toInt ∧ h0f2.toInt ≤ 1) (b_h0f6 : 0 ≤ h0f6.toInt ∧ h0f6.toInt ≤ 1) (b_h0f8 : 0 ≤ h0f8.toInt ∧ h0f8.toInt ≤ 1) (b_h0f11 : 0 ≤ h0f11.toInt ∧ h0f11.toInt ≤ 200) (b_h1f0 : 1 ≤ h1f0.toInt ∧ h1f0.toInt ≤ 3) (b_h1f1 : 0 ≤ h1f1.toInt ∧ h1f1.toInt ≤ 4) (b_h3f1 : 0 ≤ h3f1.toInt ∧ h3f1.toInt ≤ 120) (b_h3f2 : 0 ≤ h3f2.toInt ∧ h3f2.toInt ≤ 120) (b_h3f3 : 0 ≤ h3f3.toInt ∧ h3f3.toInt ≤ 4) : Met l yX10_text (Cond.code yX10_text cX10_text 2 (some .int) :: uw) Rm_cX10_text_d03f2 (pT D k sz [.ref h0] [(h0, ob 7 [.ref h1, .ref h2, .int h0f2, .ref h3, .ref h4, .ref h5, .int h0f6, .ref h6, .int h0f8, .ref h7, .ref h8, .int h0f11, .ref h9, .ref h10, .ref h11, .ref h12, .ref h13]), (h1, ob 4 [.int h1f0, .int h1f1, .int h1f2, .ref h14]), (h3, ob 6 [.ref h16, .int h3f1, .int h3f2, .int h3f3, .ref h17]), (h8, aI (k 0) 8 anI), (h14, aJ (k 1) 36 anJ), (h16, aI (k 2) 120 anI), (h17, aJ (k 1) 36 anJ)]) (qI (B_cX10_text_d03f2 D k h0 h1 h3 h8 h14 h16 h17 h2 h4 h5 h6 h7 h9 h10 h11 h12 h13 h0f2 h0f6 h0f8 h0f11 h1f0 h1f1 h1f2 h3f1 h3f2 h3f3 (zA [h0, h1, h3, h8, h14, h16, h17] sz)) (zA [h0, h1, h3, h8, h14, h16, h17] sz)) 0 0 (zA [h0, h1, h3, h8, h14, h16, h17] sz) := by
  refine tz_begin (as := [h0, h1, h3, h8, h14, h16, h17]) (Qc := fun A => qI (B_cX10_text_d03f2 D k h0 h1 h3 h8 h14 h16 h17 h2 h4 h5 h6 h7 h9 h10 h11 h12 h13 h0f2 h0f6 h0f8 h0f11 h1f0 h1f1 h1f2 h3f1 h3f2 h3f3 A) A) (by decide +kernel) rfl (Nat.le_of_ble_eq_true rfl) ?_
  intro p e s m args below meth c ls A Q hx hb hr hml hown hlocks hin hU hK hT hS hA hl hQ
  have hl : lv_has ls 2 [(0, .ref h0)] := hl
  have hT : TP D A [(h0, ob 7 [.ref h1, .ref h2, .int h0f2, .ref h3, .ref h4, .ref h5, .int h0f6, .ref h6, .int h0f8, .ref h7, .ref h8, .int h0f11, .ref h9, .ref h10, .ref h11, .ref h12, .ref h13]), (h1, ob 4 [.int h1f0, .int h1f1, .int h1f2, .ref h14]), (h3, ob 6 [.ref h16, .int h3f1, .int h3f2, .int h3f3, .ref h17]), (h8, aI (k 0) 8 anI), (h14, aJ (k 1) 36 anJ), (h16, aI (k 2) 120 anI), (h17, aJ (k 1) 36 anJ)] s.heap := hT
  refine lv_aload_n hx hb dX10_text_0 rfl (lv_at hl 0 rfl) ?_
  refine tz_get (ci := 7) (v := .ref h3) (C := RX10) (F := TX10) (N := 17) hx hb hU iX10 hown hK hT 0 rfl rfl 3 (by decide) w252 (fun _ h9 => h9) rfl dX10_text_1 ?_
  refine lv_aload_n hx hb dX10_text_4 rfl (lv_at hl 0 rfl) ?_
  refine tz_get (ci := 7) (v := .ref h1) (C := RX10) (F := TX10) (N := 17) hx hb hU iX10 hown hK hT 0 rfl rfl 0 (by decide) w249 (fun _ h9 => h9) rfl dX10_text_5 ?_
  refine tz_get (ci := 4) (v := .int h1f0) (C := RX5) (F := TX5) (N := 4) hx hb hU iX5 hown hK hT 1 rfl rfl 0 (by decide) w93 (fun _ h9 => h9) rfl dX10_text_8 ?_
  refine tcI (Tc := [(h3, ob 6 [.ref h16, .int h3f1, .int h3f2, .int h3f3, .ref h17]), (h16, aI (k 2) 120 anI), (h17, aJ (k 1) 36 anJ)]) (Tr := [(h0, ob 7 [.ref h1, .ref h2, .int h0f2, .ref h3, .ref h4, .ref h5, .int h0f6, .ref h6, .int h0f8, .ref h7, .ref h8, .int h0f11, .ref h9, .ref h10, .ref h11, .ref h12, .ref h13]), (h1, ob 4 [.int h1f0, .int h1f1, .int h1f2, .ref h14]), (h8, aI (k 0) 8 anI), (h14, aJ (k 1) 36 anJ)]) (as := [h3, h16, h17]) (zcV (q0 := 2) (ci := 6) (As := [.int h1f0]) (rest := []) (Tc := [(h3, ob 6 [.ref h16, .int h3f1, .int h3f2, .int h3f3, .ref h17]), (h16, aI (k 2) 120 anI), (h17, aJ (k 1) 36 anJ)]) hx hb hml hown hU hK hT rfl rfl [2, 5, 6] rfl (by decide) (cX9_read_9e3bd l D k _ h3 h16 h17 h1f0 h3f1 h3f2 h3f3 (by omega) (by omega) (by omega) (by omega)) w460 w457 w458 w459 w65 hdX9_read ⟨rfl, rfl⟩ ⟨Nat.le_of_ble_eq_true rfl, Nat.le_of_ble_eq_true rfl⟩ rfl hl.1 (Nat.le_of_ble_eq_true rfl) dX10_text_11 ⟨Nat.le_of_ble_eq_true rfl, Nat.le_of_ble_eq_true rfl⟩) hT hS hA [2, 5, 6] [0, 1, 3, 4] rfl rfl rfl (by decide) (by decide) (fun r1 H locs hB J hS => ?_)
  obtain ⟨v2, v3, b_v2, b_v3, b_r1, hT1⟩ := hB
  have hT := J _ hT1
  have hT : TP D A [(h0, ob 7 [.ref h1, .ref h2, .int h0f2, .ref h3, .ref h4, .ref h5, .int h0f6, .ref h6, .int h0f8, .ref h7, .ref h8, .int h0f11, .ref h9, .ref h10, .ref h11, .ref h12, .ref h13]), (h1, ob 4 [.int h1f0, .int h1f1, .int h1f2, .ref h14]), (h8, aI (k 0) 8 anI), (h14, aJ (k 1) 36 anJ), (h3, ob 6 [.ref h16, .int h3f1, .int v2, .int v3, .ref h17]), (h16, aI (k 2) 120 anI), (h17, aJ (k 1) 36 anJ)] _ := hT
  refine lv_istore_n (lv' := [(1, .int r1), (0, .ref h0)]) hx hb dX10_text_14 rfl hl (by decide) rfl (fun ls hl => ?_)
  refine lv_aload_n hx hb dX10_text_15 rfl (lv_at hl 1 rfl) ?_
  refine tz_get (ci := 7) (v := .ref h3) (C := RX10) (F := TX10) (N := 17) hx hb hU iX10 hown hK hT 0 rfl rfl 3 (by decide) w252 (fun _ h9 => h9) rfl dX10_text_16 ?_
  refine lv_iconst (v := 0) hx hb dX10_text_19 (by decide) ?_
  refine tz_put (ci := 6) (v := .int 0) (ty := .int) (C := RX9) (F := TX9) (N := 5) hx hb hU iX9 tyX9 tyX9_ok nmX9 hown hK hT hS 4 rfl rfl 1 (by decide) w122 (fun _ h9 => h9) rfl (by decide +kernel) rfl rfl (Nat.le_of_ble_eq_true rfl) dX10_text_20 (fun H locs hT hS => ?_)
  have hT : TP D A [(h0, ob 7 [.ref h1, .ref h2, .int h0f2, .ref h3, .ref h4, .ref h5, .int h0f6, .ref h6, .int h0f8, .ref h7, .ref h8, .int h0f11, .ref h9, .ref h10, .ref h11, .ref h12, .ref h13]), (h1, ob 4 [.int h1f0, .int h1f1, .int h1f2, .ref h14]), (h8, aI (k 0) 8 anI), (h14, aJ (k 1) 36 anJ), (h3, ob 6 [.ref h16, .int 0, .int v2, .int v3, .ref h17]), (h16, aI (k 2) 120 anI), (h17, aJ (k 1) 36 anJ)] _ := hT
  refine lv_iload_n hx hb dX10_text_23 rfl (lv_at hl 0 rfl) ?_
  refine lv_if_ne (tgt := 38) hx hb dX10_text_24 (by decide) (fun c_4 => ?_) (fun c_4 => ?_)
  · skip
    have c_4 := ni_ne c_4 rfl li_0
    refine lv_aload_n hx hb dX10_text_38 rfl (lv_at hl 1 rfl) ?_
    refine tz_get (ci := 7) (v := .ref h1) (C := RX10) (F := TX10) (N := 17) hx hb hU iX10 hown hK hT 0 rfl rfl 0 (by decide) w249 (fun _ h9 => h9) rfl dX10_text_39 ?_
    refine lv_aload_n hx hb dX10_text_42 rfl (lv_at hl 1 rfl) ?_
    refine tz_get (ci := 7) (v := .ref h3) (C := RX10) (F := TX10) (N := 17) hx hb hU iX10 hown hK hT 0 rfl rfl 3 (by decide) w252 (fun _ h9 => h9) rfl dX10_text_43 ?_
    refine tz_get (ci := 6) (v := .int v3) (C := RX9) (F := TX9) (N := 5) hx hb hU iX9 hown hK hT 4 rfl rfl 3 (by decide) w126 (fun _ h9 => h9) rfl dX10_text_46 ?_
    refine tz_put (ci := 4) (v := .int v3) (ty := .int) (C := RX5) (F := TX5) (N := 4) hx hb hU iX5 tyX5 tyX5_ok nmX5 hown hK hT hS 1 rfl rfl 1 (by decide) w97 (fun _ h9 => h9) rfl (by decide +kernel) rfl rfl (Nat.le_of_ble_eq_true rfl) dX10_text_49 (fun H locs hT hS => ?_)
    have hT : TP D A [(h0, ob 7 [.ref h1, .ref h2, .int h0f2, .ref h3, .ref h4, .ref h5, .int h0f6, .ref h6, .int h0f8, .ref h7, .ref h8, .int h0f11, .ref h9, .ref h10, .ref h11, .ref h12, .ref h13]), (h1, ob 4 [.int h1f0, .int v3, .int h1f2, .ref h14]), (h8, aI (k 0) 8 anI), (h14, aJ (k 1) 36 anJ), (h3, ob 6 [.ref h16, .int 0, .int v2, .int v3, .ref h17]), (h16, aI (k 2) 120 anI), (h17, aJ (k 1) 36 anJ)] _ := hT
    refine lv_aload_n hx hb dX10_text_52 rfl (lv_at hl 1 rfl) ?_
    refine tz_get (ci := 7) (v := .ref h3) (C := RX10) (F := TX10) (N := 17) hx hb hU iX10 hown hK hT 0 rfl rfl 3 (by decide) w252 (fun _ h9 => h9) rfl dX10_text_53 ?_
    refine tz_get (ci := 6) (v := .ref h17) (C := RX9) (F := TX9) (N := 5) hx hb hU iX9 hown hK hT 4 rfl rfl 4 (by decide) w128 (fun _ h9 => h9) rfl dX10_text_56 ?_
    refine lv_iconst (v := 0) hx hb dX10_text_59 (by decide) ?_
    refine lv_aload_n hx hb dX10_text_60 rfl (lv_at hl 1 rfl) ?_
    refine tz_get (ci := 7) (v := .ref h1) (C := RX10) (F := TX10) (N := 17) hx hb hU iX10 hown hK hT 0 rfl rfl 0 (by decide) w249 (fun _ h9 => h9) rfl dX10_text_61 ?_
    refine tz_get (ci := 4) (v := .ref h14) (C := RX5) (F := TX5) (N := 4) hx hb hU iX5 hown hK hT 1 rfl rfl 3 (by decide) w103 (fun _ h9 => h9) rfl dX10_text_64 ?_
    refine lv_iconst (v := 0) hx hb dX10_text_67 (by decide) ?_
    refine lv_aload_n hx hb dX10_text_68 rfl (lv_at hl 1 rfl) ?_
    refine tz_get (ci := 7) (v := .ref h3) (C := RX10) (F := TX10) (N := 17) hx hb hU iX10 hown hK hT 0 rfl rfl 3 (by decide) w252 (fun _ h9 => h9) rfl dX10_text_69 ?_
    refine tz_get (ci := 6) (v := .int v3) (C := RX9) (F := TX9) (N := 5) hx hb hU iX9 hown hK hT 4 rfl rfl 3 (by decide) w126 (fun _ h9 => h9) rfl dX10_text_72 ?_
    refine lv_bipush (v := 9) hx hb dX10_text_75 (by decide) ?_
    refine lv_imul hx hb dX10_text_77 (lv_topi (fun v5 e_v5 => ?_))
    have e_v5 := ai_mul e_v5 rfl li_9 (by omega)
    refine tz_copyl hx hb (by rw [hml]; exact hl.1.symm) hown hU w410 w348 w347 w75 hK hT hS 6 3 rfl rfl (by have := li_0; omega) (fun _ _ _ _ => trivial) (Nat.le_of_ble_eq_true rfl) (Nat.le_of_ble_eq_true rfl) dX10_text_78 (fun H locs hT hS => ?_)
    refine lv_aload_n hx hb dX10_text_81 rfl (lv_at hl 1 rfl) ?_
    refine tcV (Tc := [(h0, ob 7 [.ref h1, .ref h2, .int h0f2, .ref h3, .ref h4, .ref h5, .int h0f6, .ref h6, .int h0f8, .ref h7, .ref h8, .int h0f11, .ref h9, .ref h10, .ref h11, .ref h12, .ref h13]), (h8, aI (k 0) 8 anI)]) (Tr := [(h1, ob 4 [.int h1f0, .int v3, .int h1f2, .ref h14]), (h14, aJ (k 1) 36 anJ), (h3, ob 6 [.ref h16, .int 0, .int v2, .int v3, .ref h17]), (h16, aI (k 2) 120 anI), (h17, aJ (k 1) 36 anJ)]) (as := [h0, h8]) (zcV (q0 := 0) (ci := 7) (As := []) (rest := []) (Tc := [(h0, ob 7 [.ref h1, .ref h2, .int h0f2, .ref h3, .ref h4, .ref h5, .int h0f6, .ref h6, .int h0f8, .ref h7, .ref h8, .int h0f11, .ref h9, .ref h10, .ref h11, .ref h12, .ref h13]), (h8, aI (k 0) 8 anI)]) hx hb hml hown hU hK hT rfl rfl [0, 2] rfl (by decide) (cX10_forgetWhatCame_69e3b l D k _ h0 h8 h1 h2 h3 h4 h5 h6 h7 h9 h10 h11 h12 h13 h0f2 h0f6 h0f8 h0f11 (by omega) (by omega) (by omega) (by omega)) w308 w305 w307 w0 w63 hdX10_forgetWhatCame ⟨rfl, rfl⟩ ⟨Nat.le_of_ble_eq_true rfl, Nat.le_of_ble_eq_true rfl⟩ rfl hl.1 (Nat.le_of_ble_eq_true rfl) dX10_text_82 ⟨Nat.le_of_ble_eq_true rfl, Nat.le_of_ble_eq_true rfl⟩) hT hS hA [0, 2] [1, 3, 4, 5, 6] rfl rfl rfl (by decide) (by decide) (fun H locs hB J hS => ?_)
    have hT1 := hB
    have hT := J _ hT1
    have hT : TP D A [(h1, ob 4 [.int h1f0, .int v3, .int h1f2, .ref h14]), (h14, aJ (k 1) 36 anJ), (h3, ob 6 [.ref h16, .int 0, .int v2, .int v3, .ref h17]), (h16, aI (k 2) 120 anI), (h17, aJ (k 1) 36 anJ), (h0, ob 7 [.ref h1, .ref h2, .int h0f2, .ref h3, .ref h4, .ref h5, .int 0, .ref h6, .int 0, .ref h7, .ref h8, .int h0f11, .ref h9, .ref h10, .ref h11, .ref h12, .ref h13]), (h8, aI (k 0) 8 anI)] _ := hT
    refine lv_aload_n hx hb dX10_text_85 rfl (lv_at hl 1 rfl) ?_
    refine tz_get (ci := 7) (v := .ref h1) (C := RX10) (F := TX10) (N := 17) hx hb hU iX10 hown hK hT 5 rfl rfl 0 (by decide) w249 (fun _ h9 => h9) rfl dX10_text_86 ?_
    refine tz_get (ci := 4) (v := .int v3) (C := RX5) (F := TX5) (N := 4) hx hb hU iX5 hown hK hT 0 rfl rfl 1 (by decide) w97 (fun _ h9 => h9) rfl dX10_text_89 ?_
    exact tz_retI (B := B_cX10_text_d03f2 D k h0 h1 h3 h8 h14 h16 h17 h2 h4 h5 h6 h7 h9 h10 h11 h12 h13 h0f2 h0f6 h0f8 h0f11 h1f0 h1f1 h1f2 h3f1 h3f2 h3f3) (v := v3) hQ hx hb hr hlocks hS (Nat.le_of_ble_eq_true rfl) (Nat.le_of_ble_eq_true rfl) dX10_text_92 (⟨0, 0, v3, v2, v3, (by have := li_0; omega), (by have := li_0; omega), (by have := li_0; omega), (by have := li_0; omega), (by have := li_0; omega), (by have := li_0; omega), (hT.sub [5, 0, 2, 6, 1, 3, 4] (by decide) rfl)⟩)
  · skip
    have c_4 := ni_eq c_4 rfl li_0
    refine lv_bipush (v := (-100)) hx hb dX10_text_27 (by decide) ?_
    refine lv_aload_n hx hb dX10_text_29 rfl (lv_at hl 1 rfl) ?_
    refine tz_get (ci := 7) (v := .ref h3) (C := RX10) (F := TX10) (N := 17) hx hb hU iX10 hown hK hT 0 rfl rfl 3 (by decide) w252 (fun _ h9 => h9) rfl dX10_text_30 ?_
    refine tz_get (ci := 6) (v := .int v2) (C := RX9) (F := TX9) (N := 5) hx hb hU iX9 hown hK hT 4 rfl rfl 2 (by decide) w124 (fun _ h9 => h9) rfl dX10_text_33 ?_
    refine lv_isub hx hb dX10_text_36 (lv_topi (fun v7 e_v7 => ?_))
    have e_v7 := ai_sub e_v7 li_m100 rfl (by omega)
    exact tz_retI (B := B_cX10_text_d03f2 D k h0 h1 h3 h8 h14 h16 h17 h2 h4 h5 h6 h7 h9 h10 h11 h12 h13 h0f2 h0f6 h0f8 h0f11 h1f0 h1f1 h1f2 h3f1 h3f2 h3f3) (v := v7) hQ hx hb hr hlocks hS (Nat.le_of_ble_eq_true rfl) (Nat.le_of_ble_eq_true rfl) dX10_text_37 (⟨h0f6, h0f8, h1f1, v2, v3, (by omega), (by omega), (by omega), (by omega), (by omega), (by omega), (hT.sub [0, 1, 4, 2, 3, 5, 6] (by decide) rfl)⟩)
abbrev Rm_cX11_here_78e70 : Room := { frames := 0, cells := 0, slots := 0, locals := 0 }
abbrev B_cX11_here_78e70 (D : va_G) (k : Nat → ClassId) (h0 h8 h1 h2 h3 h4 h5 h6 h7 h9 h10 h11 h12 h13 h14 h15 h16 h17 h18 h19 h20 h21 : Nat) (h0f0 : Int32) (h0f1 : Int32) (h0f2 : Int32) (h0f3 : Int32) (h0f4 : Int32) (h0f5 : Int32) (h0f8 : Int32) (h0f9 : Int32) (h0f17 : Int32) (h0f18 : Int32) (h0f19 : Int32) (h0f24 : Int32) (h0f25 : Int32) (h0f30 : Int32) (h0f31 : Int32) (A : Nat → Prop) (r : Int32) (H : Heap) : Prop := (∃ o0 : Int32, (0 ≤ o0.toInt ∧ o0.toInt ≤ 120) ∧ h0f8.toInt ≤ h0f3.toInt ∧ h0f9.toInt ≤ h0f24.toInt ∧ h0f17.toInt ≤ o0.toInt ∧ (-1) = r ∧ TP D A [(h0, ob 8 [.int h0f0, .int h0f1, .int h0f2, .int h0f3, .int h0f4, .int h0f5, .ref h1, .ref h2, .int h0f8, .int h0f9, .ref h3, .ref h4, .ref h5, .ref h6, .ref h7, .ref h8, .ref h9, .int h0f17, .int o0, .int h0f19, .ref h10, .ref h11, .ref h12, .ref h13, .int h0f24, .int h0f25, .ref h14, .ref h15, .ref h16, .ref h17, .int h0f30, .int h0f31, .ref h18, .ref h19, .ref h20, .ref h21]), (h8, aI (k 0) 120 anI)] H) ∨ (∃ o0 : Int32, ∃ o1 : Int32, (1 ≤ o0.toInt ∧ o0.toInt ≤ 118) ∧ h0f8.toInt ≤ h0f3.toInt ∧ h0f9.toInt ≤ h0f24.toInt ∧ h0f17.toInt ≤ o0.toInt ∧ o0.toInt < h0f17.toInt ∧ o1 = r ∧ TP D A [(h0, ob 8 [.int h0f0, .int h0f1, .int h0f2, .int h0f3, .int h0f4, .int h0f5, .ref h1, .ref h2, .int h0f8, .int h0f9, .ref h3, .ref h4, .ref h5, .ref h6, .ref h7, .ref h8, .ref h9, .int h0f17, .int o0, .int h0f19, .ref h10, .ref h11, .ref h12, .ref h13, .int h0f24, .int h0f25, .ref h14, .ref h15, .ref h16, .ref h17, .int h0f30, .int h0f31, .ref h18, .ref h19, .ref h20, .ref h21]), (h8, aI (k 0) 120 anI)] H) ∨ (∃ o0 : Int32, ∃ o1 : Int32, (2 ≤ o0.toInt ∧ o0.toInt ≤ 118) ∧ h0f8.toInt ≤ h0f3.toInt ∧ h0f9.toInt ≤ h0f24.toInt ∧ o0.toInt < h0f17.toInt ∧ o1.toInt ≠ 32 ∧ h0f17.toInt ≤ o0.toInt ∧ (-1) = r ∧ TP D A [(h0, ob 8 [.int h0f0, .int h0f1, .int h0f2, .int h0f3, .int h0f4, .int h0f5, .ref h1, .ref h2, .int h0f8, .int h0f9, .ref h3, .ref h4, .ref h5, .ref h6, .ref h7, .ref h8, .ref h9, .int h0f17, .int o0, .int h0f19, .ref h10, .ref h11, .ref h12, .ref h13, .int h0f24, .int h0f25, .ref h14, .ref h15, .ref h16, .ref h17, .int h0f30, .int h0f31, .ref h18, .ref h19, .ref h20, .ref h21]), (h8, aI (k 0) 120 anI)] H) ∨ (∃ o0 : Int32, ∃ o1 : Int32, ∃ o2 : Int32, (0 ≤ o0.toInt ∧ o0.toInt ≤ 119) ∧ h0f8.toInt ≤ h0f3.toInt ∧ h0f9.toInt ≤ h0f24.toInt ∧ o0.toInt < h0f17.toInt ∧ o2.toInt ≠ 32 ∧ o1 = r ∧ TP D A [(h0, ob 8 [.int h0f0, .int h0f1, .int h0f2, .int h0f3, .int h0f4, .int h0f5, .ref h1, .ref h2, .int h0f8, .int h0f9, .ref h3, .ref h4, .ref h5, .ref h6, .ref h7, .ref h8, .ref h9, .int h0f17, .int o0, .int h0f19, .ref h10, .ref h11, .ref h12, .ref h13, .int h0f24, .int h0f25, .ref h14, .ref h15, .ref h16, .ref h17, .int h0f30, .int h0f31, .ref h18, .ref h19, .ref h20, .ref h21]), (h8, aI (k 0) 120 anI)] H)
set_option maxHeartbeats 4000000 in
set_option maxRecDepth 100000 in
theorem cX11_here_78e70 (l : Launch) (D : va_G) (k : Nat → ClassId) (sz : Nat) (h0 h8 h1 h2 h3 h4 h5 h6 h7 h9 h10 h11 h12 h13 h14 h15 h16 h17 h18 h19 h20 h21 : Nat) (h0f0 : Int32) (h0f1 : Int32) (h0f2 : Int32) (h0f3 : Int32) (h0f4 : Int32) (h0f5 : Int32) (h0f8 : Int32) (h0f9 : Int32) (h0f17 : Int32) (h0f18 : Int32) (h0f19 : Int32) (h0f24 : Int32) (h0f25 : Int32) (h0f30 : Int32) (h0f31 : Int32) (b_h0f0 : 1 ≤ h0f0.toInt ∧ h0f0.toInt ≤ 3) (b_h0f1 : 0 ≤ h0f1.toInt ∧ h0f1.toInt ≤ 4) (b_h0f3 : 0 ≤ h0f3.toInt ∧ h0f3.toInt ≤ 3) (b_h0f4 : 0 ≤ h0f4.toInt ∧ h0f4.toInt ≤ 4) (b_h0f8 : 0 ≤ h0f8.toInt ∧ h0f8.toInt ≤ 1) (b_h0f9 : 0 ≤ h0f9.toInt ∧ h0f9.toInt ≤ 1) (b_h0f17 : 0 ≤ h0f17.toInt ∧ h0f17.toInt ≤ 120) (b_h0f18 : 0 ≤ h0f18.toInt ∧ h0f18.toInt ≤ 120) (b_h0f19 : 0 ≤ h0f19.toInt ∧ h0f19.toInt ≤ 4) (b_h0f24 : 0 ≤ h0f24.toInt ∧ h0f24.toInt ≤ 100) (b_h0f25 : 0 ≤ h0f25.toInt ∧ h0f25.toInt ≤ 1) (b_h0f30 : 0 ≤ h0f30.toInt ∧ h0f30.toInt ≤ 60) (b_h0f31 : 0 ≤ h0f31.toInt ∧ h0f31.toInt ≤ 1) (i_0 : h0f8.toInt ≤ h0f3.toInt) (i_1 : h0f9.toInt ≤ h0f24.toInt) : Met l yX11_here (Cond.code yX11_here cX11_here 1 (some .int) :: uw) Rm_cX11_here_78e70 (pT D k sz [.ref h0] [(h0, ob 8 [.int h0f0, .int h0f1, .int h0f2, .int h0f3, .int h0f4, .int h0f5, .ref h1, .ref h2, .int h0f8, .int h0f9, .ref h3, .ref h4, .ref h5, .ref h6, .ref h7, .ref h8, .ref h9, .int h0f17, .int h0f18, .int h0f19, .ref h10, .ref h11, .ref h12, .ref h13, .int h0f24, .int h0f25, .ref h14, .ref h15, .ref h16, .ref h17, .int h0f30, .int h0f31, .ref h18, .ref h19, .ref h20, .ref h21]), (h8, aI (k 0) 120 anI)]) (qI (B_cX11_here_78e70 D k h0 h8 h1 h2 h3 h4 h5 h6 h7 h9 h10 h11 h12 h13 h14 h15 h16 h17 h18 h19 h20 h21 h0f0 h0f1 h0f2 h0f3 h0f4 h0f5 h0f8 h0f9 h0f17 h0f18 h0f19 h0f24 h0f25 h0f30 h0f31 (zA [h0, h8] sz)) (zA [h0, h8] sz)) 0 0 (zA [h0, h8] sz) := by
  refine tz_begin (as := [h0, h8]) (Qc := fun A => qI (B_cX11_here_78e70 D k h0 h8 h1 h2 h3 h4 h5 h6 h7 h9 h10 h11 h12 h13 h14 h15 h16 h17 h18 h19 h20 h21 h0f0 h0f1 h0f2 h0f3 h0f4 h0f5 h0f8 h0f9 h0f17 h0f18 h0f19 h0f24 h0f25 h0f30 h0f31 A) A) (by decide +kernel) rfl (Nat.le_of_ble_eq_true rfl) ?_
  intro p e s m args below meth c ls A Q hx hb hr hml hown hlocks hin hU hK hT hS hA hl hQ
  have hl : lv_has ls 1 [(0, .ref h0)] := hl
  have hT : TP D A [(h0, ob 8 [.int h0f0, .int h0f1, .int h0f2, .int h0f3, .int h0f4, .int h0f5, .ref h1, .ref h2, .int h0f8, .int h0f9, .ref h3, .ref h4, .ref h5, .ref h6, .ref h7, .ref h8, .ref h9, .int h0f17, .int h0f18, .int h0f19, .ref h10, .ref h11, .ref h12, .ref h13, .int h0f24, .int h0f25, .ref h14, .ref h15, .ref h16, .ref h17, .int h0f30, .int h0f31, .ref h18, .ref h19, .ref h20, .ref h21]), (h8, aI (k 0) 120 anI)] s.heap := hT
  have lp0_2 : ∀ (n : Nat) (y1 : Int32) (H : Heap) (locs : List Loc) (ls : Array Slot), (0 ≤ y1.toInt ∧ y1.toInt ≤ 120) → (h0f17.toInt + (-1) * y1.toInt + 1).toNat < n → TP D A [(h0, ob 8 [.int h0f0, .int h0f1, .int h0f2, .int h0f3, .int h0f4, .int h0f5, .ref h1, .ref h2, .int h0f8, .int h0f9, .ref h3, .ref h4, .ref h5, .ref h6, .ref h7, .ref h8, .ref h9, .int h0f17, .int y1, .int h0f19, .ref h10, .ref h11, .ref h12, .ref h13, .int h0f24, .int h0f25, .ref h14, .ref h15, .ref h16, .ref h17, .int h0f30, .int h0f31, .ref h18, .ref h19, .ref h20, .ref h21]), (h8, aI (k 0) 120 anI)] H → va_S A s.heap H locs → lv_has ls 1 [(0, .ref h0)] → W p l e Rm_cX11_here_78e70 s m args below meth c H locs 0 0 Q (F0 m 0 ls []) := by
    intro n
    induction n with
    | zero => intro y1 H locs ls b_y1 hm hT hS hl; exact absurd hm (Nat.not_lt_zero _)
    | succ n ih =>
      intro y1 H locs ls b_y1 hm hT hS hl
      have ih0_2 := ih
      clear ih
      refine lv_aload_n hx hb dX11_here_0 rfl (lv_at hl 0 rfl) ?_
      refine tz_get (ci := 8) (v := .int y1) (C := RX11) (F := TX11) (N := 36) hx hb hU iX11 hown hK hT 0 rfl rfl 18 (by decide) w803 (fun _ h9 => h9) rfl dX11_here_1 ?_
      refine lv_aload_n hx hb dX11_here_4 rfl (lv_at hl 0 rfl) ?_
      refine tz_get (ci := 8) (v := .int h0f17) (C := RX11) (F := TX11) (N := 36) hx hb hU iX11 hown hK hT 0 rfl rfl 17 (by decide) w802 (fun _ h9 => h9) rfl dX11_here_5 ?_
      refine lv_icmp_ge (tgt := 38) hx hb dX11_here_8 (by decide) (fun c_3 => ?_) (fun c_3 => ?_)
      · skip
        have c_3 := ni_le c_3 rfl rfl
        refine lv_aload_n hx hb dX11_here_38 rfl (lv_at hl 0 rfl) ?_
        refine tz_get (ci := 8) (v := .int y1) (C := RX11) (F := TX11) (N := 36) hx hb hU iX11 hown hK hT 0 rfl rfl 18 (by decide) w803 (fun _ h9 => h9) rfl dX11_here_39 ?_
        refine lv_aload_n hx hb dX11_here_42 rfl (lv_at hl 0 rfl) ?_
        refine tz_get (ci := 8) (v := .int h0f17) (C := RX11) (F := TX11) (N := 36) hx hb hU iX11 hown hK hT 0 rfl rfl 17 (by decide) w802 (fun _ h9 => h9) rfl dX11_here_43 ?_
        refine lv_icmp_ge (tgt := 61) hx hb dX11_here_46 (by decide) (fun c_4 => ?_) (fun c_4 => ?_)
        · skip
          have c_4 := ni_le c_4 rfl rfl
          refine lv_iconst (v := (-1)) hx hb dX11_here_61 (by decide) ?_
          exact tz_retI (B := B_cX11_here_78e70 D k h0 h8 h1 h2 h3 h4 h5 h6 h7 h9 h10 h11 h12 h13 h14 h15 h16 h17 h18 h19 h20 h21 h0f0 h0f1 h0f2 h0f3 h0f4 h0f5 h0f8 h0f9 h0f17 h0f18 h0f19 h0f24 h0f25 h0f30 h0f31) (v := (-1)) hQ hx hb hr hlocks hS (Nat.le_of_ble_eq_true rfl) (Nat.le_of_ble_eq_true rfl) dX11_here_62 (Or.inl ⟨y1, (by have := li_m1; omega), (by have := li_m1; omega), (by have := li_m1; omega), (by have := li_m1; omega), rfl, hT⟩)
        · skip
          have c_4 := ni_nle c_4 rfl rfl
          refine lv_aload_n hx hb dX11_here_49 rfl (lv_at hl 0 rfl) ?_
          refine tz_get (ci := 8) (v := .ref h8) (C := RX11) (F := TX11) (N := 36) hx hb hU iX11 hown hK hT 0 rfl rfl 15 (by decide) w800 (fun _ h9 => h9) rfl dX11_here_50 ?_
          refine lv_aload_n hx hb dX11_here_53 rfl (lv_at hl 0 rfl) ?_
          refine tz_get (ci := 8) (v := .int y1) (C := RX11) (F := TX11) (N := 36) hx hb hU iX11 hown hK hT 0 rfl rfl 18 (by decide) w803 (fun _ h9 => h9) rfl dX11_here_54 ?_
          refine tz_iald hx hb hK hT 1 rfl (by omega) dX11_here_57 (fun v5 e_v5 => ?_)
          clear e_v5
          refine lv_goto (tgt := 62) hx hb dX11_here_58 (by decide) ?_
          exact tz_retI (B := B_cX11_here_78e70 D k h0 h8 h1 h2 h3 h4 h5 h6 h7 h9 h10 h11 h12 h13 h14 h15 h16 h17 h18 h19 h20 h21 h0f0 h0f1 h0f2 h0f3 h0f4 h0f5 h0f8 h0f9 h0f17 h0f18 h0f19 h0f24 h0f25 h0f30 h0f31) (v := v5) hQ hx hb hr hlocks hS (Nat.le_of_ble_eq_true rfl) (Nat.le_of_ble_eq_true rfl) dX11_here_62 (Or.inr (Or.inl ⟨y1, v5, (by omega), (by omega), (by omega), (by omega), (by omega), rfl, hT⟩))
      · skip
        have c_3 := ni_nle c_3 rfl rfl
        refine lv_aload_n hx hb dX11_here_11 rfl (lv_at hl 0 rfl) ?_
        refine tz_get (ci := 8) (v := .ref h8) (C := RX11) (F := TX11) (N := 36) hx hb hU iX11 hown hK hT 0 rfl rfl 15 (by decide) w800 (fun _ h9 => h9) rfl dX11_here_12 ?_
        refine lv_aload_n hx hb dX11_here_15 rfl (lv_at hl 0 rfl) ?_
        refine tz_get (ci := 8) (v := .int y1) (C := RX11) (F := TX11) (N := 36) hx hb hU iX11 hown hK hT 0 rfl rfl 18 (by decide) w803 (fun _ h9 => h9) rfl dX11_here_16 ?_
        refine tz_iald hx hb hK hT 1 rfl (by omega) dX11_here_19 (fun v6 e_v6 => ?_)
        clear e_v6
        refine lv_bipush (v := 32) hx hb dX11_here_20 (by decide) ?_
        refine lv_icmp_ne (tgt := 38) hx hb dX11_here_22 (by decide) (fun c_7 => ?_) (fun c_7 => ?_)
        · skip
          have c_7 := ni_ne c_7 rfl li_32
          refine lv_aload_n hx hb dX11_here_38 rfl (lv_at hl 0 rfl) ?_
          refine tz_get (ci := 8) (v := .int y1) (C := RX11) (F := TX11) (N := 36) hx hb hU iX11 hown hK hT 0 rfl rfl 18 (by decide) w803 (fun _ h9 => h9) rfl dX11_here_39 ?_
          refine lv_aload_n hx hb dX11_here_42 rfl (lv_at hl 0 rfl) ?_
          refine tz_get (ci := 8) (v := .int h0f17) (C := RX11) (F := TX11) (N := 36) hx hb hU iX11 hown hK hT 0 rfl rfl 17 (by decide) w802 (fun _ h9 => h9) rfl dX11_here_43 ?_
          refine lv_icmp_ge (tgt := 61) hx hb dX11_here_46 (by decide) (fun c_8 => ?_) (fun c_8 => ?_)
          · skip
            have c_8 := ni_le c_8 rfl rfl
            refine lv_iconst (v := (-1)) hx hb dX11_here_61 (by decide) ?_
            exact tz_retI (B := B_cX11_here_78e70 D k h0 h8 h1 h2 h3 h4 h5 h6 h7 h9 h10 h11 h12 h13 h14 h15 h16 h17 h18 h19 h20 h21 h0f0 h0f1 h0f2 h0f3 h0f4 h0f5 h0f8 h0f9 h0f17 h0f18 h0f19 h0f24 h0f25 h0f30 h0f31) (v := (-1)) hQ hx hb hr hlocks hS (Nat.le_of_ble_eq_true rfl) (Nat.le_of_ble_eq_true rfl) dX11_here_62 (Or.inr (Or.inr (Or.inl ⟨y1, v6, (by have := li_m1; omega), (by have := li_m1; omega), (by have := li_m1; omega), (by have := li_m1; omega), (by have := li_m1; omega), (by have := li_m1; omega), rfl, hT⟩)))
          · skip
            have c_8 := ni_nle c_8 rfl rfl
            refine lv_aload_n hx hb dX11_here_49 rfl (lv_at hl 0 rfl) ?_
            refine tz_get (ci := 8) (v := .ref h8) (C := RX11) (F := TX11) (N := 36) hx hb hU iX11 hown hK hT 0 rfl rfl 15 (by decide) w800 (fun _ h9 => h9) rfl dX11_here_50 ?_
            refine lv_aload_n hx hb dX11_here_53 rfl (lv_at hl 0 rfl) ?_
            refine tz_get (ci := 8) (v := .int y1) (C := RX11) (F := TX11) (N := 36) hx hb hU iX11 hown hK hT 0 rfl rfl 18 (by decide) w803 (fun _ h9 => h9) rfl dX11_here_54 ?_
            refine tz_iald hx hb hK hT 1 rfl (by omega) dX11_here_57 (fun v9 e_v9 => ?_)
            clear e_v9
            refine lv_goto (tgt := 62) hx hb dX11_here_58 (by decide) ?_
            exact tz_retI (B := B_cX11_here_78e70 D k h0 h8 h1 h2 h3 h4 h5 h6 h7 h9 h10 h11 h12 h13 h14 h15 h16 h17 h18 h19 h20 h21 h0f0 h0f1 h0f2 h0f3 h0f4 h0f5 h0f8 h0f9 h0f17 h0f18 h0f19 h0f24 h0f25 h0f30 h0f31) (v := v9) hQ hx hb hr hlocks hS (Nat.le_of_ble_eq_true rfl) (Nat.le_of_ble_eq_true rfl) dX11_here_62 (Or.inr (Or.inr (Or.inr (⟨y1, v9, v6, (by omega), (by omega), (by omega), (by omega), (by omega), rfl, hT⟩))))
        · skip
          have c_7 := ni_eq c_7 rfl li_32
          refine lv_aload_n hx hb dX11_here_25 rfl (lv_at hl 0 rfl) ?_
          refine lv_dup hx hb dX11_here_26 rfl ?_
          refine tz_get (ci := 8) (v := .int y1) (C := RX11) (F := TX11) (N := 36) hx hb hU iX11 hown hK hT 0 rfl rfl 18 (by decide) w803 (fun _ h9 => h9) rfl dX11_here_27 ?_
          refine lv_iconst (v := 1) hx hb dX11_here_30 (by decide) ?_
          refine lv_iadd hx hb dX11_here_31 (lv_topi (fun v10 e_v10 => ?_))
          have e_v10 := ai_add e_v10 rfl li_1 (by omega)
          refine tz_put (ci := 8) (v := .int v10) (ty := .int) (C := RX11) (F := TX11) (N := 36) hx hb hU iX11 tyX11 tyX11_ok nmX11 hown hK hT hS 0 rfl rfl 18 (by decide) w803 (fun _ h9 => h9) rfl (by decide +kernel) rfl rfl (Nat.le_of_ble_eq_true rfl) dX11_here_32 (fun H locs hT hS => ?_)
          have hT : TP D A [(h0, ob 8 [.int h0f0, .int h0f1, .int h0f2, .int h0f3, .int h0f4, .int h0f5, .ref h1, .ref h2, .int h0f8, .int h0f9, .ref h3, .ref h4, .ref h5, .ref h6, .ref h7, .ref h8, .ref h9, .int h0f17, .int v10, .int h0f19, .ref h10, .ref h11, .ref h12, .ref h13, .int h0f24, .int h0f25, .ref h14, .ref h15, .ref h16, .ref h17, .int h0f30, .int h0f31, .ref h18, .ref h19, .ref h20, .ref h21]), (h8, aI (k 0) 120 anI)] _ := hT
          refine lv_goto (tgt := 0) hx hb dX11_here_35 (by decide) ?_
          exact ih0_2 v10 _ _ _ (by omega)  (by omega) hT hS hl
  exact lp0_2 ((h0f17.toInt + (-1) * h0f18.toInt + 1).toNat + 1) h0f18 _ _ _ (by omega)  (Nat.lt_succ_self _) hT hS hl
abbrev Rm_cX11_isDigit_7744d : Room := { frames := 1, cells := 0, slots := 0, locals := 25 }
abbrev B_cX11_isDigit_7744d (D : va_G) (k : Nat → ClassId) (h0 h8 h1 h2 h3 h4 h5 h6 h7 h9 h10 h11 h12 h13 h14 h15 h16 h17 h18 h19 h20 h21 : Nat) (h0f0 : Int32) (h0f1 : Int32) (h0f2 : Int32) (h0f3 : Int32) (h0f4 : Int32) (h0f5 : Int32) (h0f8 : Int32) (h0f9 : Int32) (h0f17 : Int32) (h0f18 : Int32) (h0f19 : Int32) (h0f24 : Int32) (h0f25 : Int32) (h0f30 : Int32) (h0f31 : Int32) (A : Nat → Prop) (r : Int32) (H : Heap) : Prop := (0 = r ∧ TP D A [(h0, ob 8 [.int h0f0, .int h0f1, .int h0f2, .int h0f3, .int h0f4, .int h0f5, .ref h1, .ref h2, .int h0f8, .int h0f9, .ref h3, .ref h4, .ref h5, .ref h6, .ref h7, .ref h8, .ref h9, .int h0f17, .int h0f18, .int h0f19, .ref h10, .ref h11, .ref h12, .ref h13, .int h0f24, .int h0f25, .ref h14, .ref h15, .ref h16, .ref h17, .int h0f30, .int h0f31, .ref h18, .ref h19, .ref h20, .ref h21]), (h8, aI (k 0) 120 anI)] H) ∨ (∃ o0 : Int32, (48 ≤ o0.toInt ∧ o0.toInt ≤ 57) ∧ h0f8.toInt ≤ h0f3.toInt ∧ h0f9.toInt ≤ h0f24.toInt ∧ h0f18.toInt < h0f17.toInt ∧ 48 ≤ o0.toInt ∧ o0.toInt ≤ 57 ∧ 1 = r ∧ TP D A [(h0, ob 8 [.int h0f0, .int h0f1, .int h0f2, .int h0f3, .int h0f4, .int h0f5, .ref h1, .ref h2, .int h0f8, .int h0f9, .ref h3, .ref h4, .ref h5, .ref h6, .ref h7, .ref h8, .ref h9, .int h0f17, .int h0f18, .int h0f19, .ref h10, .ref h11, .ref h12, .ref h13, .int h0f24, .int h0f25, .ref h14, .ref h15, .ref h16, .ref h17, .int h0f30, .int h0f31, .ref h18, .ref h19, .ref h20, .ref h21]), (h8, aI (k 0) 120 anI)] H)
set_option maxHeartbeats 4000000 in
set_option maxRecDepth 100000 in
theorem cX11_isDigit_7744d (l : Launch) (D : va_G) (k : Nat → ClassId) (sz : Nat) (h0 h8 h1 h2 h3 h4 h5 h6 h7 h9 h10 h11 h12 h13 h14 h15 h16 h17 h18 h19 h20 h21 : Nat) (h0f0 : Int32) (h0f1 : Int32) (h0f2 : Int32) (h0f3 : Int32) (h0f4 : Int32) (h0f5 : Int32) (h0f8 : Int32) (h0f9 : Int32) (h0f17 : Int32) (h0f18 : Int32) (h0f19 : Int32) (h0f24 : Int32) (h0f25 : Int32) (h0f30 : Int32) (h0f31 : Int32) (b_h0f0 : 1 ≤ h0f0.toInt ∧ h0f0.toInt ≤ 3) (b_h0f1 : 0 ≤ h0f1.toInt ∧ h0f1.toInt ≤ 4) (b_h0f3 : 0 ≤ h0f3.toInt ∧ h0f3.toInt ≤ 3) (b_h0f4 : 0 ≤ h0f4.toInt ∧ h0f4.toInt ≤ 4) (b_h0f8 : 0 ≤ h0f8.toInt ∧ h0f8.toInt ≤ 1) (b_h0f9 : 0 ≤ h0f9.toInt ∧ h0f9.toInt ≤ 1) (b_h0f17 : 1 ≤ h0f17.toInt ∧ h0f17.toInt ≤ 120) (b_h0f18 : 0 ≤ h0f18.toInt ∧ h0f18.toInt ≤ 120) (b_h0f19 : 0 ≤ h0f19.toInt ∧ h0f19.toInt ≤ 3) (b_h0f24 : 0 ≤ h0f24.toInt ∧ h0f24.toInt ≤ 100) (b_h0f25 : 0 ≤ h0f25.toInt ∧ h0f25.toInt ≤ 1) (b_h0f30 : 0 ≤ h0f30.toInt ∧ h0f30.toInt ≤ 60) (b_h0f31 : 0 ≤ h0f31.toInt ∧ h0f31.toInt ≤ 1) (i_0 : h0f8.toInt ≤ h0f3.toInt) (i_1 : h0f9.toInt ≤ h0f24.toInt) : Met l yX11_isDigit (Cond.code yX11_isDigit cX11_isDigit 1 (some .boolean) :: uw) Rm_cX11_isDigit_7744d (pT D k sz [.ref h0] [(h0, ob 8 [.int h0f0, .int h0f1, .int h0f2, .int h0f3, .int h0f4, .int h0f5, .ref h1, .ref h2, .int h0f8, .int h0f9, .ref h3, .ref h4, .ref h5, .ref h6, .ref h7, .ref h8, .ref h9, .int h0f17, .int h0f18, .int h0f19, .ref h10, .ref h11, .ref h12, .ref h13, .int h0f24, .int h0f25, .ref h14, .ref h15, .ref h16, .ref h17, .int h0f30, .int h0f31, .ref h18, .ref h19, .ref h20, .ref h21]), (h8, aI (k 0) 120 anI)]) (qI (B_cX11_isDigit_7744d D k h0 h8 h1 h2 h3 h4 h5 h6 h7 h9 h10 h11 h12 h13 h14 h15 h16 h17 h18 h19 h20 h21 h0f0 h0f1 h0f2 h0f3 h0f4 h0f5 h0f8 h0f9 h0f17 h0f18 h0f19 h0f24 h0f25 h0f30 h0f31 (zA [h0, h8] sz)) (zA [h0, h8] sz)) 0 0 (zA [h0, h8] sz) := by
  refine tz_begin (as := [h0, h8]) (Qc := fun A => qI (B_cX11_isDigit_7744d D k h0 h8 h1 h2 h3 h4 h5 h6 h7 h9 h10 h11 h12 h13 h14 h15 h16 h17 h18 h19 h20 h21 h0f0 h0f1 h0f2 h0f3 h0f4 h0f5 h0f8 h0f9 h0f17 h0f18 h0f19 h0f24 h0f25 h0f30 h0f31 A) A) (by decide +kernel) rfl (Nat.le_of_ble_eq_true rfl) ?_
  intro p e s m args below meth c ls A Q hx hb hr hml hown hlocks hin hU hK hT hS hA hl hQ
  have hl : lv_has ls 1 [(0, .ref h0)] := hl
  have hT : TP D A [(h0, ob 8 [.int h0f0, .int h0f1, .int h0f2, .int h0f3, .int h0f4, .int h0f5, .ref h1, .ref h2, .int h0f8, .int h0f9, .ref h3, .ref h4, .ref h5, .ref h6, .ref h7, .ref h8, .ref h9, .int h0f17, .int h0f18, .int h0f19, .ref h10, .ref h11, .ref h12, .ref h13, .int h0f24, .int h0f25, .ref h14, .ref h15, .ref h16, .ref h17, .int h0f30, .int h0f31, .ref h18, .ref h19, .ref h20, .ref h21]), (h8, aI (k 0) 120 anI)] s.heap := hT
  refine lv_aload_n hx hb dX11_isDigit_0 rfl (lv_at hl 0 rfl) ?_
  refine tz_get (ci := 8) (v := .int h0f18) (C := RX11) (F := TX11) (N := 36) hx hb hU iX11 hown hK hT 0 rfl rfl 18 (by decide) w803 (fun _ h9 => h9) rfl dX11_isDigit_1 ?_
  refine lv_aload_n hx hb dX11_isDigit_4 rfl (lv_at hl 0 rfl) ?_
  refine tz_get (ci := 8) (v := .int h0f17) (C := RX11) (F := TX11) (N := 36) hx hb hU iX11 hown hK hT 0 rfl rfl 17 (by decide) w802 (fun _ h9 => h9) rfl dX11_isDigit_5 ?_
  refine lv_icmp_ge (tgt := 37) hx hb dX11_isDigit_8 (by decide) (fun c_1 => ?_) (fun c_1 => ?_)
  · skip
    have c_1 := ni_le c_1 rfl rfl
    refine lv_iconst (v := 0) hx hb dX11_isDigit_37 (by decide) ?_
    exact tz_retZ (B := B_cX11_isDigit_7744d D k h0 h8 h1 h2 h3 h4 h5 h6 h7 h9 h10 h11 h12 h13 h14 h15 h16 h17 h18 h19 h20 h21 h0f0 h0f1 h0f2 h0f3 h0f4 h0f5 h0f8 h0f9 h0f17 h0f18 h0f19 h0f24 h0f25 h0f30 h0f31) (v := 0) hQ hx hb hr hlocks hS (Nat.le_of_ble_eq_true rfl) (Nat.le_of_ble_eq_true rfl) dX11_isDigit_38 (by have := li_0; omega) (Or.inl ⟨rfl, hT⟩)
  · skip
    have c_1 := ni_nle c_1 rfl rfl
    refine lv_aload_n hx hb dX11_isDigit_11 rfl (lv_at hl 0 rfl) ?_
    refine tz_get (ci := 8) (v := .ref h8) (C := RX11) (F := TX11) (N := 36) hx hb hU iX11 hown hK hT 0 rfl rfl 15 (by decide) w800 (fun _ h9 => h9) rfl dX11_isDigit_12 ?_
    refine lv_aload_n hx hb dX11_isDigit_15 rfl (lv_at hl 0 rfl) ?_
    refine tz_get (ci := 8) (v := .int h0f18) (C := RX11) (F := TX11) (N := 36) hx hb hU iX11 hown hK hT 0 rfl rfl 18 (by decide) w803 (fun _ h9 => h9) rfl dX11_isDigit_16 ?_
    refine tz_iald hx hb hK hT 1 rfl (by omega) dX11_isDigit_19 (fun v2 e_v2 => ?_)
    clear e_v2
    have tb_v2 := i32b v2
    obtain ⟨v3, e_v3⟩ : ∃ x : Int64, v2.toInt64 = x := ⟨_, rfl⟩
    refine lv_i2l (v := v3) hx hb dX11_isDigit_20 e_v3 ?_
    have e_v3 := ai_i2l e_v3 rfl
    refine lv_ldc2 hx hb hown (hU _ w1030) dX11_isDigit_21 ?_
    refine lv_ldc2 hx hb hown (hU _ w1031) dX11_isDigit_24 ?_
    have q_q5 := ll_48
    have q_q6 := ll_57
    refine tcI (Tc := []) (Tr := [(h0, ob 8 [.int h0f0, .int h0f1, .int h0f2, .int h0f3, .int h0f4, .int h0f5, .ref h1, .ref h2, .int h0f8, .int h0f9, .ref h3, .ref h4, .ref h5, .ref h6, .ref h7, .ref h8, .ref h9, .int h0f17, .int h0f18, .int h0f19, .ref h10, .ref h11, .ref h12, .ref h13, .int h0f24, .int h0f25, .ref h14, .ref h15, .ref h16, .ref h17, .int h0f30, .int h0f31, .ref h18, .ref h19, .ref h20, .ref h21]), (h8, aI (k 0) 120 anI)]) (as := []) (zcS (As := [.long v3, .long 48, .long 57]) (rest := []) (Tc := []) hx hb hml hown hU hK hT [] rfl (by decide) (cX11_in_ca3b9 l D k _ v3 (48) (57) (by have := ll_48; omega) (by have := ll_57; omega)) w901 w899 w900 w72 hdX11_in ⟨rfl, rfl⟩ ⟨Nat.le_of_ble_eq_true rfl, Nat.le_of_ble_eq_true rfl⟩ rfl hl.1 (Nat.le_of_ble_eq_true rfl) dX11_isDigit_27 ⟨Nat.le_of_ble_eq_true rfl, Nat.le_of_ble_eq_true rfl⟩) hT hS hA [] [0, 1] rfl rfl rfl (by decide) (by decide) (fun r4 H locs hB J hS => ?_)
    rcases hB with ⟨rfl, hT1⟩ | ⟨c_7, c_8, rfl, hT1⟩
    · skip
      have hT := J _ hT1
      have hT : TP D A [(h0, ob 8 [.int h0f0, .int h0f1, .int h0f2, .int h0f3, .int h0f4, .int h0f5, .ref h1, .ref h2, .int h0f8, .int h0f9, .ref h3, .ref h4, .ref h5, .ref h6, .ref h7, .ref h8, .ref h9, .int h0f17, .int h0f18, .int h0f19, .ref h10, .ref h11, .ref h12, .ref h13, .int h0f24, .int h0f25, .ref h14, .ref h15, .ref h16, .ref h17, .int h0f30, .int h0f31, .ref h18, .ref h19, .ref h20, .ref h21]), (h8, aI (k 0) 120 anI)] _ := hT
      refine lv_if_eq (tgt := 37) hx hb dX11_isDigit_30 (by decide) (fun _ => ?_) (fun cc => absurd (by decide +kernel) cc)
      refine lv_iconst (v := 0) hx hb dX11_isDigit_37 (by decide) ?_
      exact tz_retZ (B := B_cX11_isDigit_7744d D k h0 h8 h1 h2 h3 h4 h5 h6 h7 h9 h10 h11 h12 h13 h14 h15 h16 h17 h18 h19 h20 h21 h0f0 h0f1 h0f2 h0f3 h0f4 h0f5 h0f8 h0f9 h0f17 h0f18 h0f19 h0f24 h0f25 h0f30 h0f31) (v := 0) hQ hx hb hr hlocks hS (Nat.le_of_ble_eq_true rfl) (Nat.le_of_ble_eq_true rfl) dX11_isDigit_38 (by have := li_0; omega) (Or.inl ⟨rfl, hT⟩)
    · skip
      have hT := J _ hT1
      have hT : TP D A [(h0, ob 8 [.int h0f0, .int h0f1, .int h0f2, .int h0f3, .int h0f4, .int h0f5, .ref h1, .ref h2, .int h0f8, .int h0f9, .ref h3, .ref h4, .ref h5, .ref h6, .ref h7, .ref h8, .ref h9, .int h0f17, .int h0f18, .int h0f19, .ref h10, .ref h11, .ref h12, .ref h13, .int h0f24, .int h0f25, .ref h14, .ref h15, .ref h16, .ref h17, .int h0f30, .int h0f31, .ref h18, .ref h19, .ref h20, .ref h21]), (h8, aI (k 0) 120 anI)] _ := hT
      refine lv_if_eq (tgt := 37) hx hb dX11_isDigit_30 (by decide) (fun cc => absurd cc (by decide +kernel)) (fun _ => ?_)
      refine lv_iconst (v := 1) hx hb dX11_isDigit_33 (by decide) ?_
      refine lv_goto (tgt := 38) hx hb dX11_isDigit_34 (by decide) ?_
      exact tz_retZ (B := B_cX11_isDigit_7744d D k h0 h8 h1 h2 h3 h4 h5 h6 h7 h9 h10 h11 h12 h13 h14 h15 h16 h17 h18 h19 h20 h21 h0f0 h0f1 h0f2 h0f3 h0f4 h0f5 h0f8 h0f9 h0f17 h0f18 h0f19 h0f24 h0f25 h0f30 h0f31) (v := 1) hQ hx hb hr hlocks hS (Nat.le_of_ble_eq_true rfl) (Nat.le_of_ble_eq_true rfl) dX11_isDigit_38 (by have := li_1; omega) (Or.inr (⟨v2, (by have := li_1; omega), (by have := li_1; omega), (by have := li_1; omega), (by have := li_1; omega), (by have := li_1; omega), (by have := li_1; omega), rfl, hT⟩))
abbrev Rm_cX11_readsNumber_1520e : Room := { frames := 2, cells := 0, slots := 0, locals := 45 }
abbrev B_cX11_readsNumber_1520e (D : va_G) (k : Nat → ClassId) (h0 h3 h8 h1 h2 h4 h5 h6 h7 h9 h10 h11 h12 h13 h14 h15 h16 h17 h18 h19 h20 h21 : Nat) (x1 : Int32) (h0f0 : Int32) (h0f1 : Int32) (h0f2 : Int32) (h0f3 : Int32) (h0f4 : Int32) (h0f5 : Int32) (h0f8 : Int32) (h0f9 : Int32) (h0f17 : Int32) (h0f18 : Int32) (h0f19 : Int32) (h0f24 : Int32) (h0f25 : Int32) (h0f30 : Int32) (h0f31 : Int32) (A : Nat → Prop) (r : Int32) (H : Heap) : Prop := ∃ o0 : Int32, (0 ≤ o0.toInt ∧ o0.toInt ≤ 120) ∧ (0 ≤ r.toInt ∧ r.toInt ≤ 1) ∧ TP D A [(h0, ob 8 [.int h0f0, .int h0f1, .int h0f2, .int h0f3, .int h0f4, .int h0f5, .ref h1, .ref h2, .int h0f8, .int h0f9, .ref h3, .ref h4, .ref h5, .ref h6, .ref h7, .ref h8, .ref h9, .int h0f17, .int o0, .int h0f19, .ref h10, .ref h11, .ref h12, .ref h13, .int h0f24, .int h0f25, .ref h14, .ref h15, .ref h16, .ref h17, .int h0f30, .int h0f31, .ref h18, .ref h19, .ref h20, .ref h21]), (h3, aJ (k 1) 9 anJ), (h8, aI (k 0) 120 anI)] H
set_option maxHeartbeats 4000000 in
set_option maxRecDepth 100000 in
theorem cX11_readsNumber_1520e (l : Launch) (D : va_G) (k : Nat → ClassId) (sz : Nat) (h0 h3 h8 h1 h2 h4 h5 h6 h7 h9 h10 h11 h12 h13 h14 h15 h16 h17 h18 h19 h20 h21 : Nat) (x1 : Int32) (h0f0 : Int32) (h0f1 : Int32) (h0f2 : Int32) (h0f3 : Int32) (h0f4 : Int32) (h0f5 : Int32) (h0f8 : Int32) (h0f9 : Int32) (h0f17 : Int32) (h0f18 : Int32) (h0f19 : Int32) (h0f24 : Int32) (h0f25 : Int32) (h0f30 : Int32) (h0f31 : Int32) (b_x1 : 0 ≤ x1.toInt ∧ x1.toInt ≤ 8) (b_h0f0 : 1 ≤ h0f0.toInt ∧ h0f0.toInt ≤ 3) (b_h0f1 : 0 ≤ h0f1.toInt ∧ h0f1.toInt ≤ 4) (b_h0f3 : 0 ≤ h0f3.toInt ∧ h0f3.toInt ≤ 3) (b_h0f4 : 0 ≤ h0f4.toInt ∧ h0f4.toInt ≤ 4) (b_h0f8 : 0 ≤ h0f8.toInt ∧ h0f8.toInt ≤ 1) (b_h0f9 : 0 ≤ h0f9.toInt ∧ h0f9.toInt ≤ 1) (b_h0f17 : 1 ≤ h0f17.toInt ∧ h0f17.toInt ≤ 120) (b_h0f18 : 0 ≤ h0f18.toInt ∧ h0f18.toInt ≤ 120) (b_h0f19 : 0 ≤ h0f19.toInt ∧ h0f19.toInt ≤ 3) (b_h0f24 : 0 ≤ h0f24.toInt ∧ h0f24.toInt ≤ 100) (b_h0f25 : 0 ≤ h0f25.toInt ∧ h0f25.toInt ≤ 1) (b_h0f30 : 0 ≤ h0f30.toInt ∧ h0f30.toInt ≤ 60) (b_h0f31 : 0 ≤ h0f31.toInt ∧ h0f31.toInt ≤ 1) (i_0 : h0f8.toInt ≤ h0f3.toInt) (i_1 : h0f9.toInt ≤ h0f24.toInt) : Met l yX11_readsNumber (Cond.code yX11_readsNumber cX11_readsNumber 5 (some .boolean) :: uw) Rm_cX11_readsNumber_1520e (pT D k sz [.ref h0, .int x1] [(h0, ob 8 [.int h0f0, .int h0f1, .int h0f2, .int h0f3, .int h0f4, .int h0f5, .ref h1, .ref h2, .int h0f8, .int h0f9, .ref h3, .ref h4, .ref h5, .ref h6, .ref h7, .ref h8, .ref h9, .int h0f17, .int h0f18, .int h0f19, .ref h10, .ref h11, .ref h12, .ref h13, .int h0f24, .int h0f25, .ref h14, .ref h15, .ref h16, .ref h17, .int h0f30, .int h0f31, .ref h18, .ref h19, .ref h20, .ref h21]), (h3, aJ (k 1) 9 anJ), (h8, aI (k 0) 120 anI)]) (qI (B_cX11_readsNumber_1520e D k h0 h3 h8 h1 h2 h4 h5 h6 h7 h9 h10 h11 h12 h13 h14 h15 h16 h17 h18 h19 h20 h21 x1 h0f0 h0f1 h0f2 h0f3 h0f4 h0f5 h0f8 h0f9 h0f17 h0f18 h0f19 h0f24 h0f25 h0f30 h0f31 (zA [h0, h3, h8] sz)) (zA [h0, h3, h8] sz)) 0 0 (zA [h0, h3, h8] sz) := by
  refine tz_begin (as := [h0, h3, h8]) (Qc := fun A => qI (B_cX11_readsNumber_1520e D k h0 h3 h8 h1 h2 h4 h5 h6 h7 h9 h10 h11 h12 h13 h14 h15 h16 h17 h18 h19 h20 h21 x1 h0f0 h0f1 h0f2 h0f3 h0f4 h0f5 h0f8 h0f9 h0f17 h0f18 h0f19 h0f24 h0f25 h0f30 h0f31 A) A) (by decide +kernel) rfl (Nat.le_of_ble_eq_true rfl) ?_
  intro p e s m args below meth c ls A Q hx hb hr hml hown hlocks hin hU hK hT hS hA hl hQ
  have hl : lv_has ls 5 [(0, .ref h0), (1, .int x1)] := hl
  have hT : TP D A [(h0, ob 8 [.int h0f0, .int h0f1, .int h0f2, .int h0f3, .int h0f4, .int h0f5, .ref h1, .ref h2, .int h0f8, .int h0f9, .ref h3, .ref h4, .ref h5, .ref h6, .ref h7, .ref h8, .ref h9, .int h0f17, .int h0f18, .int h0f19, .ref h10, .ref h11, .ref h12, .ref h13, .int h0f24, .int h0f25, .ref h14, .ref h15, .ref h16, .ref h17, .int h0f30, .int h0f31, .ref h18, .ref h19, .ref h20, .ref h21]), (h3, aJ (k 1) 9 anJ), (h8, aI (k 0) 120 anI)] s.heap := hT
  have lp38_11 : ∀ (n : Nat) (y7 : Int32) (y8 : Int32) (y9 : Int32) (y10 : Int32) (H : Heap) (locs : List Loc) (ls : Array Slot), (0 ≤ y7.toInt ∧ y7.toInt ≤ 2) → (0 ≤ y9.toInt ∧ y9.toInt ≤ 1) → (0 ≤ y10.toInt ∧ y10.toInt ≤ 120) → (h0f17.toInt + (-1) * y10.toInt + 1).toNat < n → TP D A [(h3, aJ (k 1) 9 anJ), (h0, ob 8 [.int h0f0, .int h0f1, .int h0f2, .int h0f3, .int h0f4, .int h0f5, .ref h1, .ref h2, .int h0f8, .int h0f9, .ref h3, .ref h4, .ref h5, .ref h6, .ref h7, .ref h8, .ref h9, .int h0f17, .int y10, .int h0f19, .ref h10, .ref h11, .ref h12, .ref h13, .int h0f24, .int h0f25, .ref h14, .ref h15, .ref h16, .ref h17, .int h0f30, .int h0f31, .ref h18, .ref h19, .ref h20, .ref h21]), (h8, aI (k 0) 120 anI)] H → va_S A s.heap H locs → lv_has ls 5 [(0, .ref h0), (1, .int x1), (2, .int y9), (3, .int y8), (4, .int y7)] → W p l e Rm_cX11_readsNumber_1520e s m args below meth c H locs 0 0 Q (F0 m 38 ls []) := by
    intro n
    induction n with
    | zero => intro y7 y8 y9 y10 H locs ls b_y7 b_y9 b_y10 hm hT hS hl; exact absurd hm (Nat.not_lt_zero _)
    | succ n ih =>
      intro y7 y8 y9 y10 H locs ls b_y7 b_y9 b_y10 hm hT hS hl
      have ih38_11 := ih
      clear ih
      refine lv_aload_n hx hb dX11_readsNumber_38 rfl (lv_at hl 0 rfl) ?_
      refine tcI (Tc := [(h0, ob 8 [.int h0f0, .int h0f1, .int h0f2, .int h0f3, .int h0f4, .int h0f5, .ref h1, .ref h2, .int h0f8, .int h0f9, .ref h3, .ref h4, .ref h5, .ref h6, .ref h7, .ref h8, .ref h9, .int h0f17, .int y10, .int h0f19, .ref h10, .ref h11, .ref h12, .ref h13, .int h0f24, .int h0f25, .ref h14, .ref h15, .ref h16, .ref h17, .int h0f30, .int h0f31, .ref h18, .ref h19, .ref h20, .ref h21]), (h8, aI (k 0) 120 anI)]) (Tr := [(h3, aJ (k 1) 9 anJ)]) (as := [h0, h8]) (zcV (q0 := 1) (ci := 8) (As := []) (rest := []) (Tc := [(h0, ob 8 [.int h0f0, .int h0f1, .int h0f2, .int h0f3, .int h0f4, .int h0f5, .ref h1, .ref h2, .int h0f8, .int h0f9, .ref h3, .ref h4, .ref h5, .ref h6, .ref h7, .ref h8, .ref h9, .int h0f17, .int y10, .int h0f19, .ref h10, .ref h11, .ref h12, .ref h13, .int h0f24, .int h0f25, .ref h14, .ref h15, .ref h16, .ref h17, .int h0f30, .int h0f31, .ref h18, .ref h19, .ref h20, .ref h21]), (h8, aI (k 0) 120 anI)]) hx hb hml hown hU hK hT rfl rfl [1, 2] rfl (by decide) (cX11_isDigit_7744d l D k _ h0 h8 h1 h2 h3 h4 h5 h6 h7 h9 h10 h11 h12 h13 h14 h15 h16 h17 h18 h19 h20 h21 h0f0 h0f1 h0f2 h0f3 h0f4 h0f5 h0f8 h0f9 h0f17 y10 h0f19 h0f24 h0f25 h0f30 h0f31 (by omega) (by omega) (by omega) (by omega) (by omega) (by omega) (by omega) (by omega) (by omega) (by omega) (by omega) (by omega) (by omega) (by omega) (by omega)) w1029 w1026 w1028 w46 w72 hdX11_isDigit ⟨rfl, rfl⟩ ⟨Nat.le_of_ble_eq_true rfl, Nat.le_of_ble_eq_true rfl⟩ rfl hl.1 (Nat.le_of_ble_eq_true rfl) dX11_readsNumber_39 ⟨Nat.le_of_ble_eq_true rfl, Nat.le_of_ble_eq_true rfl⟩) hT hS hA [1, 2] [0] rfl rfl rfl (by decide) (by decide) (fun r12 H locs hB J hS => ?_)
      rcases hB with ⟨rfl, hT1⟩ | ⟨v13, b_v13, c_14, c_15, c_16, c_17, c_18, rfl, hT1⟩
      · skip
        have hT := J _ hT1
        have hT : TP D A [(h3, aJ (k 1) 9 anJ), (h0, ob 8 [.int h0f0, .int h0f1, .int h0f2, .int h0f3, .int h0f4, .int h0f5, .ref h1, .ref h2, .int h0f8, .int h0f9, .ref h3, .ref h4, .ref h5, .ref h6, .ref h7, .ref h8, .ref h9, .int h0f17, .int y10, .int h0f19, .ref h10, .ref h11, .ref h12, .ref h13, .int h0f24, .int h0f25, .ref h14, .ref h15, .ref h16, .ref h17, .int h0f30, .int h0f31, .ref h18, .ref h19, .ref h20, .ref h21]), (h8, aI (k 0) 120 anI)] _ := hT
        refine lv_if_eq (tgt := 85) hx hb dX11_readsNumber_42 (by decide) (fun _ => ?_) (fun cc => absurd (by decide +kernel) cc)
        refine lv_aload_n hx hb dX11_readsNumber_85 rfl (lv_at hl 0 rfl) ?_
        refine tz_get (ci := 8) (v := .ref h3) (C := RX11) (F := TX11) (N := 36) hx hb hU iX11 hown hK hT 1 rfl rfl 10 (by decide) w795 (fun _ h9 => h9) rfl dX11_readsNumber_86 ?_
        refine lv_iload_n hx hb dX11_readsNumber_89 rfl (lv_at hl 1 rfl) ?_
        refine lv_iload_n hx hb dX11_readsNumber_90 rfl (lv_at hl 2 rfl) ?_
        refine lv_if_eq (tgt := 100) hx hb dX11_readsNumber_91 (by decide) (fun c_19 => ?_) (fun c_19 => ?_)
        · skip
          have c_19 := ni_eq c_19 rfl li_0
          refine lv_iload_n hx hb dX11_readsNumber_100 rfl (lv_at hl 3 rfl) ?_
          have tb_y8 := i32b y8
          obtain ⟨v20, e_v20⟩ : ∃ x : Int64, y8.toInt64 = x := ⟨_, rfl⟩
          refine lv_i2l (v := v20) hx hb dX11_readsNumber_101 e_v20 ?_
          have e_v20 := ai_i2l e_v20 rfl
          refine tz_last hx hb hK hT hS 0 rfl (by omega) (fun _ _ => trivial) dX11_readsNumber_102 (fun H locs hT hS => ?_)
          refine lv_iload hx hb dX11_readsNumber_103 (lv_at hl 4 rfl) ?_
          refine lv_if_le (tgt := 119) hx hb dX11_readsNumber_105 (by decide) (fun c_21 => ?_) (fun c_21 => ?_)
          · skip
            have c_21 := ni_le c_21 rfl li_0
            refine lv_iconst (v := 0) hx hb dX11_readsNumber_119 (by decide) ?_
            exact tz_retZ (B := B_cX11_readsNumber_1520e D k h0 h3 h8 h1 h2 h4 h5 h6 h7 h9 h10 h11 h12 h13 h14 h15 h16 h17 h18 h19 h20 h21 x1 h0f0 h0f1 h0f2 h0f3 h0f4 h0f5 h0f8 h0f9 h0f17 h0f18 h0f19 h0f24 h0f25 h0f30 h0f31) (v := 0) hQ hx hb hr hlocks hS (Nat.le_of_ble_eq_true rfl) (Nat.le_of_ble_eq_true rfl) dX11_readsNumber_120 (by have := li_0; omega) (⟨y10, (by have := li_0; omega), (by have := li_0; omega), (hT.sub [1, 0, 2] (by decide) rfl)⟩)
          · skip
            have c_21 := ni_nle c_21 rfl li_0
            refine lv_aload_n hx hb dX11_readsNumber_108 rfl (lv_at hl 0 rfl) ?_
            refine tcI (Tc := [(h0, ob 8 [.int h0f0, .int h0f1, .int h0f2, .int h0f3, .int h0f4, .int h0f5, .ref h1, .ref h2, .int h0f8, .int h0f9, .ref h3, .ref h4, .ref h5, .ref h6, .ref h7, .ref h8, .ref h9, .int h0f17, .int y10, .int h0f19, .ref h10, .ref h11, .ref h12, .ref h13, .int h0f24, .int h0f25, .ref h14, .ref h15, .ref h16, .ref h17, .int h0f30, .int h0f31, .ref h18, .ref h19, .ref h20, .ref h21]), (h8, aI (k 0) 120 anI)]) (Tr := [(h3, aJ (k 1) 9 anJ)]) (as := [h0, h8]) (zcV (q0 := 1) (ci := 8) (As := []) (rest := []) (Tc := [(h0, ob 8 [.int h0f0, .int h0f1, .int h0f2, .int h0f3, .int h0f4, .int h0f5, .ref h1, .ref h2, .int h0f8, .int h0f9, .ref h3, .ref h4, .ref h5, .ref h6, .ref h7, .ref h8, .ref h9, .int h0f17, .int y10, .int h0f19, .ref h10, .ref h11, .ref h12, .ref h13, .int h0f24, .int h0f25, .ref h14, .ref h15, .ref h16, .ref h17, .int h0f30, .int h0f31, .ref h18, .ref h19, .ref h20, .ref h21]), (h8, aI (k 0) 120 anI)]) hx hb hml hown hU hK hT rfl rfl [1, 2] rfl (by decide) (cX11_isDigit_7744d l D k _ h0 h8 h1 h2 h3 h4 h5 h6 h7 h9 h10 h11 h12 h13 h14 h15 h16 h17 h18 h19 h20 h21 h0f0 h0f1 h0f2 h0f3 h0f4 h0f5 h0f8 h0f9 h0f17 y10 h0f19 h0f24 h0f25 h0f30 h0f31 (by omega) (by omega) (by omega) (by omega) (by omega) (by omega) (by omega) (by omega) (by omega) (by omega) (by omega) (by omega) (by omega) (by omega) (by omega)) w1029 w1026 w1028 w46 w72 hdX11_isDigit ⟨rfl, rfl⟩ ⟨Nat.le_of_ble_eq_true rfl, Nat.le_of_ble_eq_true rfl⟩ rfl hl.1 (Nat.le_of_ble_eq_true rfl) dX11_readsNumber_109 ⟨Nat.le_of_ble_eq_true rfl, Nat.le_of_ble_eq_true rfl⟩) hT hS hA [1, 2] [0] rfl rfl rfl (by decide) (by decide) (fun r22 H locs hB J hS => ?_)
            rcases hB with ⟨rfl, hT1⟩ | ⟨v23, b_v23, c_24, c_25, c_26, c_27, c_28, rfl, hT1⟩
            · skip
              have hT := J _ hT1
              have hT : TP D A [(h3, aJ (k 1) 9 anJ), (h0, ob 8 [.int h0f0, .int h0f1, .int h0f2, .int h0f3, .int h0f4, .int h0f5, .ref h1, .ref h2, .int h0f8, .int h0f9, .ref h3, .ref h4, .ref h5, .ref h6, .ref h7, .ref h8, .ref h9, .int h0f17, .int y10, .int h0f19, .ref h10, .ref h11, .ref h12, .ref h13, .int h0f24, .int h0f25, .ref h14, .ref h15, .ref h16, .ref h17, .int h0f30, .int h0f31, .ref h18, .ref h19, .ref h20, .ref h21]), (h8, aI (k 0) 120 anI)] _ := hT
              refine lv_if_ne (tgt := 119) hx hb dX11_readsNumber_112 (by decide) (fun cc => absurd (by decide +kernel) cc) (fun _ => ?_)
              refine lv_iconst (v := 1) hx hb dX11_readsNumber_115 (by decide) ?_
              refine lv_goto (tgt := 120) hx hb dX11_readsNumber_116 (by decide) ?_
              exact tz_retZ (B := B_cX11_readsNumber_1520e D k h0 h3 h8 h1 h2 h4 h5 h6 h7 h9 h10 h11 h12 h13 h14 h15 h16 h17 h18 h19 h20 h21 x1 h0f0 h0f1 h0f2 h0f3 h0f4 h0f5 h0f8 h0f9 h0f17 h0f18 h0f19 h0f24 h0f25 h0f30 h0f31) (v := 1) hQ hx hb hr hlocks hS (Nat.le_of_ble_eq_true rfl) (Nat.le_of_ble_eq_true rfl) dX11_readsNumber_120 (by have := li_1; omega) (⟨y10, (by have := li_1; omega), (by have := li_1; omega), (hT.sub [1, 0, 2] (by decide) rfl)⟩)
            · skip
              have hT := J _ hT1
              have hT : TP D A [(h3, aJ (k 1) 9 anJ), (h0, ob 8 [.int h0f0, .int h0f1, .int h0f2, .int h0f3, .int h0f4, .int h0f5, .ref h1, .ref h2, .int h0f8, .int h0f9, .ref h3, .ref h4, .ref h5, .ref h6, .ref h7, .ref h8, .ref h9, .int h0f17, .int y10, .int h0f19, .ref h10, .ref h11, .ref h12, .ref h13, .int h0f24, .int h0f25, .ref h14, .ref h15, .ref h16, .ref h17, .int h0f30, .int h0f31, .ref h18, .ref h19, .ref h20, .ref h21]), (h8, aI (k 0) 120 anI)] _ := hT
              refine lv_if_ne (tgt := 119) hx hb dX11_readsNumber_112 (by decide) (fun _ => ?_) (fun cc => absurd cc (by decide +kernel))
              refine lv_iconst (v := 0) hx hb dX11_readsNumber_119 (by decide) ?_
              exact tz_retZ (B := B_cX11_readsNumber_1520e D k h0 h3 h8 h1 h2 h4 h5 h6 h7 h9 h10 h11 h12 h13 h14 h15 h16 h17 h18 h19 h20 h21 x1 h0f0 h0f1 h0f2 h0f3 h0f4 h0f5 h0f8 h0f9 h0f17 h0f18 h0f19 h0f24 h0f25 h0f30 h0f31) (v := 0) hQ hx hb hr hlocks hS (Nat.le_of_ble_eq_true rfl) (Nat.le_of_ble_eq_true rfl) dX11_readsNumber_120 (by have := li_0; omega) (⟨y10, (by have := li_0; omega), (by have := li_0; omega), (hT.sub [1, 0, 2] (by decide) rfl)⟩)
        · skip
          have c_19 := ni_ne c_19 rfl li_0
          refine lv_iload_n hx hb dX11_readsNumber_94 rfl (lv_at hl 3 rfl) ?_
          refine lv_ineg hx hb dX11_readsNumber_95 (lv_topi (fun v29 e_v29 => ?_))
          have tb_v29 := i32b v29
          obtain ⟨v30, e_v30⟩ : ∃ x : Int64, v29.toInt64 = x := ⟨_, rfl⟩
          refine lv_i2l (v := v30) hx hb dX11_readsNumber_96 e_v30 ?_
          have e_v30 := ai_i2l e_v30 rfl
          refine lv_goto (tgt := 102) hx hb dX11_readsNumber_97 (by decide) ?_
          refine tz_last hx hb hK hT hS 0 rfl (by omega) (fun _ _ => trivial) dX11_readsNumber_102 (fun H locs hT hS => ?_)
          refine lv_iload hx hb dX11_readsNumber_103 (lv_at hl 4 rfl) ?_
          refine lv_if_le (tgt := 119) hx hb dX11_readsNumber_105 (by decide) (fun c_31 => ?_) (fun c_31 => ?_)
          · skip
            have c_31 := ni_le c_31 rfl li_0
            refine lv_iconst (v := 0) hx hb dX11_readsNumber_119 (by decide) ?_
            exact tz_retZ (B := B_cX11_readsNumber_1520e D k h0 h3 h8 h1 h2 h4 h5 h6 h7 h9 h10 h11 h12 h13 h14 h15 h16 h17 h18 h19 h20 h21 x1 h0f0 h0f1 h0f2 h0f3 h0f4 h0f5 h0f8 h0f9 h0f17 h0f18 h0f19 h0f24 h0f25 h0f30 h0f31) (v := 0) hQ hx hb hr hlocks hS (Nat.le_of_ble_eq_true rfl) (Nat.le_of_ble_eq_true rfl) dX11_readsNumber_120 (by have := li_0; omega) (⟨y10, (by have := li_0; omega), (by have := li_0; omega), (hT.sub [1, 0, 2] (by decide) rfl)⟩)
          · skip
            have c_31 := ni_nle c_31 rfl li_0
            refine lv_aload_n hx hb dX11_readsNumber_108 rfl (lv_at hl 0 rfl) ?_
            refine tcI (Tc := [(h0, ob 8 [.int h0f0, .int h0f1, .int h0f2, .int h0f3, .int h0f4, .int h0f5, .ref h1, .ref h2, .int h0f8, .int h0f9, .ref h3, .ref h4, .ref h5, .ref h6, .ref h7, .ref h8, .ref h9, .int h0f17, .int y10, .int h0f19, .ref h10, .ref h11, .ref h12, .ref h13, .int h0f24, .int h0f25, .ref h14, .ref h15, .ref h16, .ref h17, .int h0f30, .int h0f31, .ref h18, .ref h19, .ref h20, .ref h21]), (h8, aI (k 0) 120 anI)]) (Tr := [(h3, aJ (k 1) 9 anJ)]) (as := [h0, h8]) (zcV (q0 := 1) (ci := 8) (As := []) (rest := []) (Tc := [(h0, ob 8 [.int h0f0, .int h0f1, .int h0f2, .int h0f3, .int h0f4, .int h0f5, .ref h1, .ref h2, .int h0f8, .int h0f9, .ref h3, .ref h4, .ref h5, .ref h6, .ref h7, .ref h8, .ref h9, .int h0f17, .int y10, .int h0f19, .ref h10, .ref h11, .ref h12, .ref h13, .int h0f24, .int h0f25, .ref h14, .ref h15, .ref h16, .ref h17, .int h0f30, .int h0f31, .ref h18, .ref h19, .ref h20, .ref h21]), (h8, aI (k 0) 120 anI)]) hx hb hml hown hU hK hT rfl rfl [1, 2] rfl (by decide) (cX11_isDigit_7744d l D k _ h0 h8 h1 h2 h3 h4 h5 h6 h7 h9 h10 h11 h12 h13 h14 h15 h16 h17 h18 h19 h20 h21 h0f0 h0f1 h0f2 h0f3 h0f4 h0f5 h0f8 h0f9 h0f17 y10 h0f19 h0f24 h0f25 h0f30 h0f31 (by omega) (by omega) (by omega) (by omega) (by omega) (by omega) (by omega) (by omega) (by omega) (by omega) (by omega) (by omega) (by omega) (by omega) (by omega)) w1029 w1026 w1028 w46 w72 hdX11_isDigit ⟨rfl, rfl⟩ ⟨Nat.le_of_ble_eq_true rfl, Nat.le_of_ble_eq_true rfl⟩ rfl hl.1 (Nat.le_of_ble_eq_true rfl) dX11_readsNumber_109 ⟨Nat.le_of_ble_eq_true rfl, Nat.le_of_ble_eq_true rfl⟩) hT hS hA [1, 2] [0] rfl rfl rfl (by decide) (by decide) (fun r32 H locs hB J hS => ?_)
            rcases hB with ⟨rfl, hT1⟩ | ⟨v33, b_v33, c_34, c_35, c_36, c_37, c_38, rfl, hT1⟩
            · skip
              have hT := J _ hT1
              have hT : TP D A [(h3, aJ (k 1) 9 anJ), (h0, ob 8 [.int h0f0, .int h0f1, .int h0f2, .int h0f3, .int h0f4, .int h0f5, .ref h1, .ref h2, .int h0f8, .int h0f9, .ref h3, .ref h4, .ref h5, .ref h6, .ref h7, .ref h8, .ref h9, .int h0f17, .int y10, .int h0f19, .ref h10, .ref h11, .ref h12, .ref h13, .int h0f24, .int h0f25, .ref h14, .ref h15, .ref h16, .ref h17, .int h0f30, .int h0f31, .ref h18, .ref h19, .ref h20, .ref h21]), (h8, aI (k 0) 120 anI)] _ := hT
              refine lv_if_ne (tgt := 119) hx hb dX11_readsNumber_112 (by decide) (fun cc => absurd (by decide +kernel) cc) (fun _ => ?_)
              refine lv_iconst (v := 1) hx hb dX11_readsNumber_115 (by decide) ?_
              refine lv_goto (tgt := 120) hx hb dX11_readsNumber_116 (by decide) ?_
              exact tz_retZ (B := B_cX11_readsNumber_1520e D k h0 h3 h8 h1 h2 h4 h5 h6 h7 h9 h10 h11 h12 h13 h14 h15 h16 h17 h18 h19 h20 h21 x1 h0f0 h0f1 h0f2 h0f3 h0f4 h0f5 h0f8 h0f9 h0f17 h0f18 h0f19 h0f24 h0f25 h0f30 h0f31) (v := 1) hQ hx hb hr hlocks hS (Nat.le_of_ble_eq_true rfl) (Nat.le_of_ble_eq_true rfl) dX11_readsNumber_120 (by have := li_1; omega) (⟨y10, (by have := li_1; omega), (by have := li_1; omega), (hT.sub [1, 0, 2] (by decide) rfl)⟩)
            · skip
              have hT := J _ hT1
              have hT : TP D A [(h3, aJ (k 1) 9 anJ), (h0, ob 8 [.int h0f0, .int h0f1, .int h0f2, .int h0f3, .int h0f4, .int h0f5, .ref h1, .ref h2, .int h0f8, .int h0f9, .ref h3, .ref h4, .ref h5, .ref h6, .ref h7, .ref h8, .ref h9, .int h0f17, .int y10, .int h0f19, .ref h10, .ref h11, .ref h12, .ref h13, .int h0f24, .int h0f25, .ref h14, .ref h15, .ref h16, .ref h17, .int h0f30, .int h0f31, .ref h18, .ref h19, .ref h20, .ref h21]), (h8, aI (k 0) 120 anI)] _ := hT
              refine lv_if_ne (tgt := 119) hx hb dX11_readsNumber_112 (by decide) (fun _ => ?_) (fun cc => absurd cc (by decide +kernel))
              refine lv_iconst (v := 0) hx hb dX11_readsNumber_119 (by decide) ?_
              exact tz_retZ (B := B_cX11_readsNumber_1520e D k h0 h3 h8 h1 h2 h4 h5 h6 h7 h9 h10 h11 h12 h13 h14 h15 h16 h17 h18 h19 h20 h21 x1 h0f0 h0f1 h0f2 h0f3 h0f4 h0f5 h0f8 h0f9 h0f17 h0f18 h0f19 h0f24 h0f25 h0f30 h0f31) (v := 0) hQ hx hb hr hlocks hS (Nat.le_of_ble_eq_true rfl) (Nat.le_of_ble_eq_true rfl) dX11_readsNumber_120 (by have := li_0; omega) (⟨y10, (by have := li_0; omega), (by have := li_0; omega), (hT.sub [1, 0, 2] (by decide) rfl)⟩)
      · skip
        have hT := J _ hT1
        have hT : TP D A [(h3, aJ (k 1) 9 anJ), (h0, ob 8 [.int h0f0, .int h0f1, .int h0f2, .int h0f3, .int h0f4, .int h0f5, .ref h1, .ref h2, .int h0f8, .int h0f9, .ref h3, .ref h4, .ref h5, .ref h6, .ref h7, .ref h8, .ref h9, .int h0f17, .int y10, .int h0f19, .ref h10, .ref h11, .ref h12, .ref h13, .int h0f24, .int h0f25, .ref h14, .ref h15, .ref h16, .ref h17, .int h0f30, .int h0f31, .ref h18, .ref h19, .ref h20, .ref h21]), (h8, aI (k 0) 120 anI)] _ := hT
        refine lv_if_eq (tgt := 85) hx hb dX11_readsNumber_42 (by decide) (fun cc => absurd cc (by decide +kernel)) (fun _ => ?_)
        refine lv_iload hx hb dX11_readsNumber_45 (lv_at hl 4 rfl) ?_
        refine lv_iconst (v := 2) hx hb dX11_readsNumber_47 (by decide) ?_
        refine lv_icmp_ge (tgt := 85) hx hb dX11_readsNumber_48 (by decide) (fun c_39 => ?_) (fun c_39 => ?_)
        · skip
          have c_39 := ni_le c_39 li_2 rfl
          refine lv_aload_n hx hb dX11_readsNumber_85 rfl (lv_at hl 0 rfl) ?_
          refine tz_get (ci := 8) (v := .ref h3) (C := RX11) (F := TX11) (N := 36) hx hb hU iX11 hown hK hT 1 rfl rfl 10 (by decide) w795 (fun _ h9 => h9) rfl dX11_readsNumber_86 ?_
          refine lv_iload_n hx hb dX11_readsNumber_89 rfl (lv_at hl 1 rfl) ?_
          refine lv_iload_n hx hb dX11_readsNumber_90 rfl (lv_at hl 2 rfl) ?_
          refine lv_if_eq (tgt := 100) hx hb dX11_readsNumber_91 (by decide) (fun c_40 => ?_) (fun c_40 => ?_)
          · skip
            have c_40 := ni_eq c_40 rfl li_0
            refine lv_iload_n hx hb dX11_readsNumber_100 rfl (lv_at hl 3 rfl) ?_
            have tb_y8 := i32b y8
            obtain ⟨v41, e_v41⟩ : ∃ x : Int64, y8.toInt64 = x := ⟨_, rfl⟩
            refine lv_i2l (v := v41) hx hb dX11_readsNumber_101 e_v41 ?_
            have e_v41 := ai_i2l e_v41 rfl
            refine tz_last hx hb hK hT hS 0 rfl (by omega) (fun _ _ => trivial) dX11_readsNumber_102 (fun H locs hT hS => ?_)
            refine lv_iload hx hb dX11_readsNumber_103 (lv_at hl 4 rfl) ?_
            refine lv_if_le (tgt := 119) hx hb dX11_readsNumber_105 (by decide) (fun c_42 => ?_) (fun c_42 => ?_)
            · skip
              have c_42 := ni_le c_42 rfl li_0
              exfalso; omega
            · skip
              have c_42 := ni_nle c_42 rfl li_0
              refine lv_aload_n hx hb dX11_readsNumber_108 rfl (lv_at hl 0 rfl) ?_
              refine tcI (Tc := [(h0, ob 8 [.int h0f0, .int h0f1, .int h0f2, .int h0f3, .int h0f4, .int h0f5, .ref h1, .ref h2, .int h0f8, .int h0f9, .ref h3, .ref h4, .ref h5, .ref h6, .ref h7, .ref h8, .ref h9, .int h0f17, .int y10, .int h0f19, .ref h10, .ref h11, .ref h12, .ref h13, .int h0f24, .int h0f25, .ref h14, .ref h15, .ref h16, .ref h17, .int h0f30, .int h0f31, .ref h18, .ref h19, .ref h20, .ref h21]), (h8, aI (k 0) 120 anI)]) (Tr := [(h3, aJ (k 1) 9 anJ)]) (as := [h0, h8]) (zcV (q0 := 1) (ci := 8) (As := []) (rest := []) (Tc := [(h0, ob 8 [.int h0f0, .int h0f1, .int h0f2, .int h0f3, .int h0f4, .int h0f5, .ref h1, .ref h2, .int h0f8, .int h0f9, .ref h3, .ref h4, .ref h5, .ref h6, .ref h7, .ref h8, .ref h9, .int h0f17, .int y10, .int h0f19, .ref h10, .ref h11, .ref h12, .ref h13, .int h0f24, .int h0f25, .ref h14, .ref h15, .ref h16, .ref h17, .int h0f30, .int h0f31, .ref h18, .ref h19, .ref h20, .ref h21]), (h8, aI (k 0) 120 anI)]) hx hb hml hown hU hK hT rfl rfl [1, 2] rfl (by decide) (cX11_isDigit_7744d l D k _ h0 h8 h1 h2 h3 h4 h5 h6 h7 h9 h10 h11 h12 h13 h14 h15 h16 h17 h18 h19 h20 h21 h0f0 h0f1 h0f2 h0f3 h0f4 h0f5 h0f8 h0f9 h0f17 y10 h0f19 h0f24 h0f25 h0f30 h0f31 (by omega) (by omega) (by omega) (by omega) (by omega) (by omega) (by omega) (by omega) (by omega) (by omega) (by omega) (by omega) (by omega) (by omega) (by omega)) w1029 w1026 w1028 w46 w72 hdX11_isDigit ⟨rfl, rfl⟩ ⟨Nat.le_of_ble_eq_true rfl, Nat.le_of_ble_eq_true rfl⟩ rfl hl.1 (Nat.le_of_ble_eq_true rfl) dX11_readsNumber_109 ⟨Nat.le_of_ble_eq_true rfl, Nat.le_of_ble_eq_true rfl⟩) hT hS hA [1, 2] [0] rfl rfl rfl (by decide) (by decide) (fun r43 H locs hB J hS => ?_)
              rcases hB with ⟨rfl, hT1⟩ | ⟨v44, b_v44, c_45, c_46, c_47, c_48, c_49, rfl, hT1⟩
              · skip
                have hT := J _ hT1
                have hT : TP D A [(h3, aJ (k 1) 9 anJ), (h0, ob 8 [.int h0f0, .int h0f1, .int h0f2, .int h0f3, .int h0f4, .int h0f5, .ref h1, .ref h2, .int h0f8, .int h0f9, .ref h3, .ref h4, .ref h5, .ref h6, .ref h7, .ref h8, .ref h9, .int h0f17, .int y10, .int h0f19, .ref h10, .ref h11, .ref h12, .ref h13, .int h0f24, .int h0f25, .ref h14, .ref h15, .ref h16, .ref h17, .int h0f30, .int h0f31, .ref h18, .ref h19, .ref h20, .ref h21]), (h8, aI (k 0) 120 anI)] _ := hT
                refine lv_if_ne (tgt := 119) hx hb dX11_readsNumber_112 (by decide) (fun cc => absurd (by decide +kernel) cc) (fun _ => ?_)
                refine lv_iconst (v := 1) hx hb dX11_readsNumber_115 (by decide) ?_
                refine lv_goto (tgt := 120) hx hb dX11_readsNumber_116 (by decide) ?_
                exact tz_retZ (B := B_cX11_readsNumber_1520e D k h0 h3 h8 h1 h2 h4 h5 h6 h7 h9 h10 h11 h12 h13 h14 h15 h16 h17 h18 h19 h20 h21 x1 h0f0 h0f1 h0f2 h0f3 h0f4 h0f5 h0f8 h0f9 h0f17 h0f18 h0f19 h0f24 h0f25 h0f30 h0f31) (v := 1) hQ hx hb hr hlocks hS (Nat.le_of_ble_eq_true rfl) (Nat.le_of_ble_eq_true rfl) dX11_readsNumber_120 (by have := li_1; omega) (⟨y10, (by have := li_1; omega), (by have := li_1; omega), (hT.sub [1, 0, 2] (by decide) rfl)⟩)
              · skip
                have hT := J _ hT1
                have hT : TP D A [(h3, aJ (k 1) 9 anJ), (h0, ob 8 [.int h0f0, .int h0f1, .int h0f2, .int h0f3, .int h0f4, .int h0f5, .ref h1, .ref h2, .int h0f8, .int h0f9, .ref h3, .ref h4, .ref h5, .ref h6, .ref h7, .ref h8, .ref h9, .int h0f17, .int y10, .int h0f19, .ref h10, .ref h11, .ref h12, .ref h13, .int h0f24, .int h0f25, .ref h14, .ref h15, .ref h16, .ref h17, .int h0f30, .int h0f31, .ref h18, .ref h19, .ref h20, .ref h21]), (h8, aI (k 0) 120 anI)] _ := hT
                refine lv_if_ne (tgt := 119) hx hb dX11_readsNumber_112 (by decide) (fun _ => ?_) (fun cc => absurd cc (by decide +kernel))
                refine lv_iconst (v := 0) hx hb dX11_readsNumber_119 (by decide) ?_
                exact tz_retZ (B := B_cX11_readsNumber_1520e D k h0 h3 h8 h1 h2 h4 h5 h6 h7 h9 h10 h11 h12 h13 h14 h15 h16 h17 h18 h19 h20 h21 x1 h0f0 h0f1 h0f2 h0f3 h0f4 h0f5 h0f8 h0f9 h0f17 h0f18 h0f19 h0f24 h0f25 h0f30 h0f31) (v := 0) hQ hx hb hr hlocks hS (Nat.le_of_ble_eq_true rfl) (Nat.le_of_ble_eq_true rfl) dX11_readsNumber_120 (by have := li_0; omega) (⟨y10, (by have := li_0; omega), (by have := li_0; omega), (hT.sub [1, 0, 2] (by decide) rfl)⟩)
          · skip
            have c_40 := ni_ne c_40 rfl li_0
            refine lv_iload_n hx hb dX11_readsNumber_94 rfl (lv_at hl 3 rfl) ?_
            refine lv_ineg hx hb dX11_readsNumber_95 (lv_topi (fun v50 e_v50 => ?_))
            have tb_v50 := i32b v50
            obtain ⟨v51, e_v51⟩ : ∃ x : Int64, v50.toInt64 = x := ⟨_, rfl⟩
            refine lv_i2l (v := v51) hx hb dX11_readsNumber_96 e_v51 ?_
            have e_v51 := ai_i2l e_v51 rfl
            refine lv_goto (tgt := 102) hx hb dX11_readsNumber_97 (by decide) ?_
            refine tz_last hx hb hK hT hS 0 rfl (by omega) (fun _ _ => trivial) dX11_readsNumber_102 (fun H locs hT hS => ?_)
            refine lv_iload hx hb dX11_readsNumber_103 (lv_at hl 4 rfl) ?_
            refine lv_if_le (tgt := 119) hx hb dX11_readsNumber_105 (by decide) (fun c_52 => ?_) (fun c_52 => ?_)
            · skip
              have c_52 := ni_le c_52 rfl li_0
              exfalso; omega
            · skip
              have c_52 := ni_nle c_52 rfl li_0
              refine lv_aload_n hx hb dX11_readsNumber_108 rfl (lv_at hl 0 rfl) ?_
              refine tcI (Tc := [(h0, ob 8 [.int h0f0, .int h0f1, .int h0f2, .int h0f3, .int h0f4, .int h0f5, .ref h1, .ref h2, .int h0f8, .int h0f9, .ref h3, .ref h4, .ref h5, .ref h6, .ref h7, .ref h8, .ref h9, .int h0f17, .int y10, .int h0f19, .ref h10, .ref h11, .ref h12, .ref h13, .int h0f24, .int h0f25, .ref h14, .ref h15, .ref h16, .ref h17, .int h0f30, .int h0f31, .ref h18, .ref h19, .ref h20, .ref h21]), (h8, aI (k 0) 120 anI)]) (Tr := [(h3, aJ (k 1) 9 anJ)]) (as := [h0, h8]) (zcV (q0 := 1) (ci := 8) (As := []) (rest := []) (Tc := [(h0, ob 8 [.int h0f0, .int h0f1, .int h0f2, .int h0f3, .int h0f4, .int h0f5, .ref h1, .ref h2, .int h0f8, .int h0f9, .ref h3, .ref h4, .ref h5, .ref h6, .ref h7, .ref h8, .ref h9, .int h0f17, .int y10, .int h0f19, .ref h10, .ref h11, .ref h12, .ref h13, .int h0f24, .int h0f25, .ref h14, .ref h15, .ref h16, .ref h17, .int h0f30, .int h0f31, .ref h18, .ref h19, .ref h20, .ref h21]), (h8, aI (k 0) 120 anI)]) hx hb hml hown hU hK hT rfl rfl [1, 2] rfl (by decide) (cX11_isDigit_7744d l D k _ h0 h8 h1 h2 h3 h4 h5 h6 h7 h9 h10 h11 h12 h13 h14 h15 h16 h17 h18 h19 h20 h21 h0f0 h0f1 h0f2 h0f3 h0f4 h0f5 h0f8 h0f9 h0f17 y10 h0f19 h0f24 h0f25 h0f30 h0f31 (by omega) (by omega) (by omega) (by omega) (by omega) (by omega) (by omega) (by omega) (by omega) (by omega) (by omega) (by omega) (by omega) (by omega) (by omega)) w1029 w1026 w1028 w46 w72 hdX11_isDigit ⟨rfl, rfl⟩ ⟨Nat.le_of_ble_eq_true rfl, Nat.le_of_ble_eq_true rfl⟩ rfl hl.1 (Nat.le_of_ble_eq_true rfl) dX11_readsNumber_109 ⟨Nat.le_of_ble_eq_true rfl, Nat.le_of_ble_eq_true rfl⟩) hT hS hA [1, 2] [0] rfl rfl rfl (by decide) (by decide) (fun r53 H locs hB J hS => ?_)
              rcases hB with ⟨rfl, hT1⟩ | ⟨v54, b_v54, c_55, c_56, c_57, c_58, c_59, rfl, hT1⟩
              · skip
                have hT := J _ hT1
                have hT : TP D A [(h3, aJ (k 1) 9 anJ), (h0, ob 8 [.int h0f0, .int h0f1, .int h0f2, .int h0f3, .int h0f4, .int h0f5, .ref h1, .ref h2, .int h0f8, .int h0f9, .ref h3, .ref h4, .ref h5, .ref h6, .ref h7, .ref h8, .ref h9, .int h0f17, .int y10, .int h0f19, .ref h10, .ref h11, .ref h12, .ref h13, .int h0f24, .int h0f25, .ref h14, .ref h15, .ref h16, .ref h17, .int h0f30, .int h0f31, .ref h18, .ref h19, .ref h20, .ref h21]), (h8, aI (k 0) 120 anI)] _ := hT
                refine lv_if_ne (tgt := 119) hx hb dX11_readsNumber_112 (by decide) (fun cc => absurd (by decide +kernel) cc) (fun _ => ?_)
                refine lv_iconst (v := 1) hx hb dX11_readsNumber_115 (by decide) ?_
                refine lv_goto (tgt := 120) hx hb dX11_readsNumber_116 (by decide) ?_
                exact tz_retZ (B := B_cX11_readsNumber_1520e D k h0 h3 h8 h1 h2 h4 h5 h6 h7 h9 h10 h11 h12 h13 h14 h15 h16 h17 h18 h19 h20 h21 x1 h0f0 h0f1 h0f2 h0f3 h0f4 h0f5 h0f8 h0f9 h0f17 h0f18 h0f19 h0f24 h0f25 h0f30 h0f31) (v := 1) hQ hx hb hr hlocks hS (Nat.le_of_ble_eq_true rfl) (Nat.le_of_ble_eq_true rfl) dX11_readsNumber_120 (by have := li_1; omega) (⟨y10, (by have := li_1; omega), (by have := li_1; omega), (hT.sub [1, 0, 2] (by decide) rfl)⟩)
              · skip
                have hT := J _ hT1
                have hT : TP D A [(h3, aJ (k 1) 9 anJ), (h0, ob 8 [.int h0f0, .int h0f1, .int h0f2, .int h0f3, .int h0f4, .int h0f5, .ref h1, .ref h2, .int h0f8, .int h0f9, .ref h3, .ref h4, .ref h5, .ref h6, .ref h7, .ref h8, .ref h9, .int h0f17, .int y10, .int h0f19, .ref h10, .ref h11, .ref h12, .ref h13, .int h0f24, .int h0f25, .ref h14, .ref h15, .ref h16, .ref h17, .int h0f30, .int h0f31, .ref h18, .ref h19, .ref h20, .ref h21]), (h8, aI (k 0) 120 anI)] _ := hT
                refine lv_if_ne (tgt := 119) hx hb dX11_readsNumber_112 (by decide) (fun _ => ?_) (fun cc => absurd cc (by decide +kernel))
                refine lv_iconst (v := 0) hx hb dX11_readsNumber_119 (by decide) ?_
                exact tz_retZ (B := B_cX11_readsNumber_1520e D k h0 h3 h8 h1 h2 h4 h5 h6 h7 h9 h10 h11 h12 h13 h14 h15 h16 h17 h18 h19 h20 h21 x1 h0f0 h0f1 h0f2 h0f3 h0f4 h0f5 h0f8 h0f9 h0f17 h0f18 h0f19 h0f24 h0f25 h0f30 h0f31) (v := 0) hQ hx hb hr hlocks hS (Nat.le_of_ble_eq_true rfl) (Nat.le_of_ble_eq_true rfl) dX11_readsNumber_120 (by have := li_0; omega) (⟨y10, (by have := li_0; omega), (by have := li_0; omega), (hT.sub [1, 0, 2] (by decide) rfl)⟩)
        · skip
          have c_39 := ni_nle c_39 li_2 rfl
          refine lv_bipush (v := 10) hx hb dX11_readsNumber_51 (by decide) ?_
          refine lv_iload_n hx hb dX11_readsNumber_53 rfl (lv_at hl 3 rfl) ?_
          refine lv_imul hx hb dX11_readsNumber_54 (lv_topi (fun v60 e_v60 => ?_))
          refine lv_aload_n hx hb dX11_readsNumber_55 rfl (lv_at hl 0 rfl) ?_
          refine tz_get (ci := 8) (v := .ref h8) (C := RX11) (F := TX11) (N := 36) hx hb hU iX11 hown hK hT 1 rfl rfl 15 (by decide) w800 (fun _ h9 => h9) rfl dX11_readsNumber_56 ?_
          refine lv_aload_n hx hb dX11_readsNumber_59 rfl (lv_at hl 0 rfl) ?_
          refine tz_get (ci := 8) (v := .int y10) (C := RX11) (F := TX11) (N := 36) hx hb hU iX11 hown hK hT 1 rfl rfl 18 (by decide) w803 (fun _ h9 => h9) rfl dX11_readsNumber_60 ?_
          refine tz_iald hx hb hK hT 2 rfl (by omega) dX11_readsNumber_63 (fun v61 e_v61 => ?_)
          clear e_v61
          refine lv_iadd hx hb dX11_readsNumber_64 (lv_topi (fun v62 e_v62 => ?_))
          refine lv_bipush (v := 48) hx hb dX11_readsNumber_65 (by decide) ?_
          refine lv_isub hx hb dX11_readsNumber_67 (lv_topi (fun v63 e_v63 => ?_))
          refine lv_istore_n (lv' := [(3, .int v63), (0, .ref h0), (1, .int x1), (2, .int y9), (4, .int y7)]) hx hb dX11_readsNumber_68 rfl hl (by decide) rfl (fun ls hl => ?_)
          obtain ⟨v64, e_v64⟩ : ∃ x : Int32, x = y7 + Int32.ofInt 1 := ⟨_, rfl⟩
          have f_v64 := e_v64.symm
          have e_v64 : v64.toInt = y7.toInt + 1 := ai_add e_v64 rfl (show (Int32.ofInt 1).toInt = 1 from (by decide +kernel)) (by omega)
          refine lv_iinc (v := v64) (lv' := [(4, .int v64), (3, .int v63), (0, .ref h0), (1, .int x1), (2, .int y9)]) hx hb dX11_readsNumber_69 hl (k := 4) rfl f_v64 (by decide) rfl (fun ls hl => ?_)
          refine lv_aload_n hx hb dX11_readsNumber_72 rfl (lv_at hl 2 rfl) ?_
          refine lv_dup hx hb dX11_readsNumber_73 rfl ?_
          refine tz_get (ci := 8) (v := .int y10) (C := RX11) (F := TX11) (N := 36) hx hb hU iX11 hown hK hT 1 rfl rfl 18 (by decide) w803 (fun _ h9 => h9) rfl dX11_readsNumber_74 ?_
          refine lv_iconst (v := 1) hx hb dX11_readsNumber_77 (by decide) ?_
          refine lv_iadd hx hb dX11_readsNumber_78 (lv_topi (fun v65 e_v65 => ?_))
          have e_v65 := ai_add e_v65 rfl li_1 (by omega)
          refine tz_put (ci := 8) (v := .int v65) (ty := .int) (C := RX11) (F := TX11) (N := 36) hx hb hU iX11 tyX11 tyX11_ok nmX11 hown hK hT hS 1 rfl rfl 18 (by decide) w803 (fun _ h9 => h9) rfl (by decide +kernel) rfl rfl (Nat.le_of_ble_eq_true rfl) dX11_readsNumber_79 (fun H locs hT hS => ?_)
          have hT : TP D A [(h3, aJ (k 1) 9 anJ), (h0, ob 8 [.int h0f0, .int h0f1, .int h0f2, .int h0f3, .int h0f4, .int h0f5, .ref h1, .ref h2, .int h0f8, .int h0f9, .ref h3, .ref h4, .ref h5, .ref h6, .ref h7, .ref h8, .ref h9, .int h0f17, .int v65, .int h0f19, .ref h10, .ref h11, .ref h12, .ref h13, .int h0f24, .int h0f25, .ref h14, .ref h15, .ref h16, .ref h17, .int h0f30, .int h0f31, .ref h18, .ref h19, .ref h20, .ref h21]), (h8, aI (k 0) 120 anI)] _ := hT
          refine lv_goto (tgt := 38) hx hb dX11_readsNumber_82 (by decide) ?_
          exact ih38_11 v64 v63 y9 v65 _ _ _ (by omega) (by omega) (by omega)  (by omega) hT hS (lv_sub hl [2, 3, 4, 1, 0] rfl)
  refine lv_aload_n hx hb dX11_readsNumber_0 rfl (lv_at hl 0 rfl) ?_
  refine tcI (Tc := [(h0, ob 8 [.int h0f0, .int h0f1, .int h0f2, .int h0f3, .int h0f4, .int h0f5, .ref h1, .ref h2, .int h0f8, .int h0f9, .ref h3, .ref h4, .ref h5, .ref h6, .ref h7, .ref h8, .ref h9, .int h0f17, .int h0f18, .int h0f19, .ref h10, .ref h11, .ref h12, .ref h13, .int h0f24, .int h0f25, .ref h14, .ref h15, .ref h16, .ref h17, .int h0f30, .int h0f31, .ref h18, .ref h19, .ref h20, .ref h21]), (h8, aI (k 0) 120 anI)]) (Tr := [(h3, aJ (k 1) 9 anJ)]) (as := [h0, h8]) (zcV (q0 := 0) (ci := 8) (As := []) (rest := []) (Tc := [(h0, ob 8 [.int h0f0, .int h0f1, .int h0f2, .int h0f3, .int h0f4, .int h0f5, .ref h1, .ref h2, .int h0f8, .int h0f9, .ref h3, .ref h4, .ref h5, .ref h6, .ref h7, .ref h8, .ref h9, .int h0f17, .int h0f18, .int h0f19, .ref h10, .ref h11, .ref h12, .ref h13, .int h0f24, .int h0f25, .ref h14, .ref h15, .ref h16, .ref h17, .int h0f30, .int h0f31, .ref h18, .ref h19, .ref h20, .ref h21]), (h8, aI (k 0) 120 anI)]) hx hb hml hown hU hK hT rfl rfl [0, 2] rfl (by decide) (cX11_here_78e70 l D k _ h0 h8 h1 h2 h3 h4 h5 h6 h7 h9 h10 h11 h12 h13 h14 h15 h16 h17 h18 h19 h20 h21 h0f0 h0f1 h0f2 h0f3 h0f4 h0f5 h0f8 h0f9 h0f17 h0f18 h0f19 h0f24 h0f25 h0f30 h0f31 (by omega) (by omega) (by omega) (by omega) (by omega) (by omega) (by omega) (by omega) (by omega) (by omega) (by omega) (by omega) (by omega) (by omega) (by omega)) w1013 w1010 w1012 w42 w72 hdX11_here ⟨rfl, rfl⟩ ⟨Nat.le_of_ble_eq_true rfl, Nat.le_of_ble_eq_true rfl⟩ rfl hl.1 (Nat.le_of_ble_eq_true rfl) dX11_readsNumber_1 ⟨Nat.le_of_ble_eq_true rfl, Nat.le_of_ble_eq_true rfl⟩) hT hS hA [0, 2] [1] rfl rfl rfl (by decide) (by decide) (fun r66 H locs hB J hS => ?_)
  rcases hB with ⟨v67, b_v67, c_68, c_69, c_70, rfl, hT1⟩ | ⟨v71, v72, b_v71, c_73, c_74, c_75, c_76, rfl, hT1⟩ | ⟨v77, v78, b_v77, c_79, c_80, c_81, c_82, c_83, rfl, hT1⟩ | ⟨v84, v85, v86, b_v84, c_87, c_88, c_89, c_90, rfl, hT1⟩
  · skip
    have hT := J _ hT1
    have hT : TP D A [(h3, aJ (k 1) 9 anJ), (h0, ob 8 [.int h0f0, .int h0f1, .int h0f2, .int h0f3, .int h0f4, .int h0f5, .ref h1, .ref h2, .int h0f8, .int h0f9, .ref h3, .ref h4, .ref h5, .ref h6, .ref h7, .ref h8, .ref h9, .int h0f17, .int v67, .int h0f19, .ref h10, .ref h11, .ref h12, .ref h13, .int h0f24, .int h0f25, .ref h14, .ref h15, .ref h16, .ref h17, .int h0f30, .int h0f31, .ref h18, .ref h19, .ref h20, .ref h21]), (h8, aI (k 0) 120 anI)] _ := hT
    refine lv_bipush (v := 45) hx hb dX11_readsNumber_4 (by decide) ?_
    refine lv_icmp_ne (tgt := 13) hx hb dX11_readsNumber_6 (by decide) (fun _ => ?_) (fun cc => absurd cc (by decide +kernel))
    refine lv_iconst (v := 0) hx hb dX11_readsNumber_13 (by decide) ?_
    refine lv_istore_n (lv' := [(2, .int 0), (0, .ref h0), (1, .int x1)]) hx hb dX11_readsNumber_14 rfl hl (by decide) rfl (fun ls hl => ?_)
    refine lv_aload_n hx hb dX11_readsNumber_15 rfl (lv_at hl 1 rfl) ?_
    refine lv_dup hx hb dX11_readsNumber_16 rfl ?_
    refine tz_get (ci := 8) (v := .int v67) (C := RX11) (F := TX11) (N := 36) hx hb hU iX11 hown hK hT 1 rfl rfl 18 (by decide) w803 (fun _ h9 => h9) rfl dX11_readsNumber_17 ?_
    refine lv_iload_n hx hb dX11_readsNumber_20 rfl (lv_at hl 0 rfl) ?_
    refine lv_if_eq (tgt := 28) hx hb dX11_readsNumber_21 (by decide) (fun _ => ?_) (fun cc => absurd (by decide +kernel) cc)
    refine lv_iconst (v := 0) hx hb dX11_readsNumber_28 (by decide) ?_
    refine lv_iadd hx hb dX11_readsNumber_29 (lv_topi (fun v91 e_v91 => ?_))
    have e_v91 := ai_add e_v91 rfl li_0 (by omega)
    refine tz_put (ci := 8) (v := .int v91) (ty := .int) (C := RX11) (F := TX11) (N := 36) hx hb hU iX11 tyX11 tyX11_ok nmX11 hown hK hT hS 1 rfl rfl 18 (by decide) w803 (fun _ h9 => h9) rfl (by decide +kernel) rfl rfl (Nat.le_of_ble_eq_true rfl) dX11_readsNumber_30 (fun H locs hT hS => ?_)
    have hT : TP D A [(h3, aJ (k 1) 9 anJ), (h0, ob 8 [.int h0f0, .int h0f1, .int h0f2, .int h0f3, .int h0f4, .int h0f5, .ref h1, .ref h2, .int h0f8, .int h0f9, .ref h3, .ref h4, .ref h5, .ref h6, .ref h7, .ref h8, .ref h9, .int h0f17, .int v91, .int h0f19, .ref h10, .ref h11, .ref h12, .ref h13, .int h0f24, .int h0f25, .ref h14, .ref h15, .ref h16, .ref h17, .int h0f30, .int h0f31, .ref h18, .ref h19, .ref h20, .ref h21]), (h8, aI (k 0) 120 anI)] _ := hT
    refine lv_iconst (v := 0) hx hb dX11_readsNumber_33 (by decide) ?_
    refine lv_istore_n (lv' := [(3, .int 0), (2, .int 0), (0, .ref h0), (1, .int x1)]) hx hb dX11_readsNumber_34 rfl hl (by decide) rfl (fun ls hl => ?_)
    refine lv_iconst (v := 0) hx hb dX11_readsNumber_35 (by decide) ?_
    refine lv_istore (lv' := [(4, .int 0), (3, .int 0), (2, .int 0), (0, .ref h0), (1, .int x1)]) hx hb dX11_readsNumber_36 hl (by decide) rfl (fun ls hl => ?_)
    exact lp38_11 ((h0f17.toInt + (-1) * v91.toInt + 1).toNat + 1) (0) (0) (0) v91 _ _ _ (by have := li_0; omega) (by have := li_0; omega) (by have := li_0; omega)  (Nat.lt_succ_self _) hT hS (lv_sub hl [3, 4, 2, 1, 0] rfl)
  · skip
    have hT := J _ hT1
    have hT : TP D A [(h3, aJ (k 1) 9 anJ), (h0, ob 8 [.int h0f0, .int h0f1, .int h0f2, .int h0f3, .int h0f4, .int h0f5, .ref h1, .ref h2, .int h0f8, .int h0f9, .ref h3, .ref h4, .ref h5, .ref h6, .ref h7, .ref h8, .ref h9, .int h0f17, .int v71, .int h0f19, .ref h10, .ref h11, .ref h12, .ref h13, .int h0f24, .int h0f25, .ref h14, .ref h15, .ref h16, .ref h17, .int h0f30, .int h0f31, .ref h18, .ref h19, .ref h20, .ref h21]), (h8, aI (k 0) 120 anI)] _ := hT
    refine lv_bipush (v := 45) hx hb dX11_readsNumber_4 (by decide) ?_
    refine lv_icmp_ne (tgt := 13) hx hb dX11_readsNumber_6 (by decide) (fun c_92 => ?_) (fun c_92 => ?_)
    · skip
      have c_92 := ni_ne c_92 rfl li_45
      refine lv_iconst (v := 0) hx hb dX11_readsNumber_13 (by decide) ?_
      refine lv_istore_n (lv' := [(2, .int 0), (0, .ref h0), (1, .int x1)]) hx hb dX11_readsNumber_14 rfl hl (by decide) rfl (fun ls hl => ?_)
      refine lv_aload_n hx hb dX11_readsNumber_15 rfl (lv_at hl 1 rfl) ?_
      refine lv_dup hx hb dX11_readsNumber_16 rfl ?_
      refine tz_get (ci := 8) (v := .int v71) (C := RX11) (F := TX11) (N := 36) hx hb hU iX11 hown hK hT 1 rfl rfl 18 (by decide) w803 (fun _ h9 => h9) rfl dX11_readsNumber_17 ?_
      refine lv_iload_n hx hb dX11_readsNumber_20 rfl (lv_at hl 0 rfl) ?_
      refine lv_if_eq (tgt := 28) hx hb dX11_readsNumber_21 (by decide) (fun _ => ?_) (fun cc => absurd (by decide +kernel) cc)
      refine lv_iconst (v := 0) hx hb dX11_readsNumber_28 (by decide) ?_
      refine lv_iadd hx hb dX11_readsNumber_29 (lv_topi (fun v93 e_v93 => ?_))
      have e_v93 := ai_add e_v93 rfl li_0 (by omega)
      refine tz_put (ci := 8) (v := .int v93) (ty := .int) (C := RX11) (F := TX11) (N := 36) hx hb hU iX11 tyX11 tyX11_ok nmX11 hown hK hT hS 1 rfl rfl 18 (by decide) w803 (fun _ h9 => h9) rfl (by decide +kernel) rfl rfl (Nat.le_of_ble_eq_true rfl) dX11_readsNumber_30 (fun H locs hT hS => ?_)
      have hT : TP D A [(h3, aJ (k 1) 9 anJ), (h0, ob 8 [.int h0f0, .int h0f1, .int h0f2, .int h0f3, .int h0f4, .int h0f5, .ref h1, .ref h2, .int h0f8, .int h0f9, .ref h3, .ref h4, .ref h5, .ref h6, .ref h7, .ref h8, .ref h9, .int h0f17, .int v93, .int h0f19, .ref h10, .ref h11, .ref h12, .ref h13, .int h0f24, .int h0f25, .ref h14, .ref h15, .ref h16, .ref h17, .int h0f30, .int h0f31, .ref h18, .ref h19, .ref h20, .ref h21]), (h8, aI (k 0) 120 anI)] _ := hT
      refine lv_iconst (v := 0) hx hb dX11_readsNumber_33 (by decide) ?_
      refine lv_istore_n (lv' := [(3, .int 0), (2, .int 0), (0, .ref h0), (1, .int x1)]) hx hb dX11_readsNumber_34 rfl hl (by decide) rfl (fun ls hl => ?_)
      refine lv_iconst (v := 0) hx hb dX11_readsNumber_35 (by decide) ?_
      refine lv_istore (lv' := [(4, .int 0), (3, .int 0), (2, .int 0), (0, .ref h0), (1, .int x1)]) hx hb dX11_readsNumber_36 hl (by decide) rfl (fun ls hl => ?_)
      exact lp38_11 ((h0f17.toInt + (-1) * v93.toInt + 1).toNat + 1) (0) (0) (0) v93 _ _ _ (by have := li_0; omega) (by have := li_0; omega) (by have := li_0; omega)  (Nat.lt_succ_self _) hT hS (lv_sub hl [3, 4, 2, 1, 0] rfl)
    · skip
      have c_92 := ni_eq c_92 rfl li_45
      refine lv_iconst (v := 1) hx hb dX11_readsNumber_9 (by decide) ?_
      refine lv_goto (tgt := 14) hx hb dX11_readsNumber_10 (by decide) ?_
      refine lv_istore_n (lv' := [(2, .int 1), (0, .ref h0), (1, .int x1)]) hx hb dX11_readsNumber_14 rfl hl (by decide) rfl (fun ls hl => ?_)
      refine lv_aload_n hx hb dX11_readsNumber_15 rfl (lv_at hl 1 rfl) ?_
      refine lv_dup hx hb dX11_readsNumber_16 rfl ?_
      refine tz_get (ci := 8) (v := .int v71) (C := RX11) (F := TX11) (N := 36) hx hb hU iX11 hown hK hT 1 rfl rfl 18 (by decide) w803 (fun _ h9 => h9) rfl dX11_readsNumber_17 ?_
      refine lv_iload_n hx hb dX11_readsNumber_20 rfl (lv_at hl 0 rfl) ?_
      refine lv_if_eq (tgt := 28) hx hb dX11_readsNumber_21 (by decide) (fun cc => absurd cc (by decide +kernel)) (fun _ => ?_)
      refine lv_iconst (v := 1) hx hb dX11_readsNumber_24 (by decide) ?_
      refine lv_goto (tgt := 29) hx hb dX11_readsNumber_25 (by decide) ?_
      refine lv_iadd hx hb dX11_readsNumber_29 (lv_topi (fun v94 e_v94 => ?_))
      have e_v94 := ai_add e_v94 rfl li_1 (by omega)
      refine tz_put (ci := 8) (v := .int v94) (ty := .int) (C := RX11) (F := TX11) (N := 36) hx hb hU iX11 tyX11 tyX11_ok nmX11 hown hK hT hS 1 rfl rfl 18 (by decide) w803 (fun _ h9 => h9) rfl (by decide +kernel) rfl rfl (Nat.le_of_ble_eq_true rfl) dX11_readsNumber_30 (fun H locs hT hS => ?_)
      have hT : TP D A [(h3, aJ (k 1) 9 anJ), (h0, ob 8 [.int h0f0, .int h0f1, .int h0f2, .int h0f3, .int h0f4, .int h0f5, .ref h1, .ref h2, .int h0f8, .int h0f9, .ref h3, .ref h4, .ref h5, .ref h6, .ref h7, .ref h8, .ref h9, .int h0f17, .int v94, .int h0f19, .ref h10, .ref h11, .ref h12, .ref h13, .int h0f24, .int h0f25, .ref h14, .ref h15, .ref h16, .ref h17, .int h0f30, .int h0f31, .ref h18, .ref h19, .ref h20, .ref h21]), (h8, aI (k 0) 120 anI)] _ := hT
      refine lv_iconst (v := 0) hx hb dX11_readsNumber_33 (by decide) ?_
      refine lv_istore_n (lv' := [(3, .int 0), (2, .int 1), (0, .ref h0), (1, .int x1)]) hx hb dX11_readsNumber_34 rfl hl (by decide) rfl (fun ls hl => ?_)
      refine lv_iconst (v := 0) hx hb dX11_readsNumber_35 (by decide) ?_
      refine lv_istore (lv' := [(4, .int 0), (3, .int 0), (2, .int 1), (0, .ref h0), (1, .int x1)]) hx hb dX11_readsNumber_36 hl (by decide) rfl (fun ls hl => ?_)
      exact lp38_11 ((h0f17.toInt + (-1) * v94.toInt + 1).toNat + 1) (0) (0) (1) v94 _ _ _ (by have := li_0; have := li_1; omega) (by have := li_0; have := li_1; omega) (by have := li_0; have := li_1; omega)  (Nat.lt_succ_self _) hT hS (lv_sub hl [3, 4, 2, 1, 0] rfl)
  · skip
    have hT := J _ hT1
    have hT : TP D A [(h3, aJ (k 1) 9 anJ), (h0, ob 8 [.int h0f0, .int h0f1, .int h0f2, .int h0f3, .int h0f4, .int h0f5, .ref h1, .ref h2, .int h0f8, .int h0f9, .ref h3, .ref h4, .ref h5, .ref h6, .ref h7, .ref h8, .ref h9, .int h0f17, .int v77, .int h0f19, .ref h10, .ref h11, .ref h12, .ref h13, .int h0f24, .int h0f25, .ref h14, .ref h15, .ref h16, .ref h17, .int h0f30, .int h0f31, .ref h18, .ref h19, .ref h20, .ref h21]), (h8, aI (k 0) 120 anI)] _ := hT
    refine lv_bipush (v := 45) hx hb dX11_readsNumber_4 (by decide) ?_
    refine lv_icmp_ne (tgt := 13) hx hb dX11_readsNumber_6 (by decide) (fun _ => ?_) (fun cc => absurd cc (by decide +kernel))
    refine lv_iconst (v := 0) hx hb dX11_readsNumber_13 (by decide) ?_
    refine lv_istore_n (lv' := [(2, .int 0), (0, .ref h0), (1, .int x1)]) hx hb dX11_readsNumber_14 rfl hl (by decide) rfl (fun ls hl => ?_)
    refine lv_aload_n hx hb dX11_readsNumber_15 rfl (lv_at hl 1 rfl) ?_
    refine lv_dup hx hb dX11_readsNumber_16 rfl ?_
    refine tz_get (ci := 8) (v := .int v77) (C := RX11) (F := TX11) (N := 36) hx hb hU iX11 hown hK hT 1 rfl rfl 18 (by decide) w803 (fun _ h9 => h9) rfl dX11_readsNumber_17 ?_
    refine lv_iload_n hx hb dX11_readsNumber_20 rfl (lv_at hl 0 rfl) ?_
    refine lv_if_eq (tgt := 28) hx hb dX11_readsNumber_21 (by decide) (fun _ => ?_) (fun cc => absurd (by decide +kernel) cc)
    refine lv_iconst (v := 0) hx hb dX11_readsNumber_28 (by decide) ?_
    refine lv_iadd hx hb dX11_readsNumber_29 (lv_topi (fun v95 e_v95 => ?_))
    have e_v95 := ai_add e_v95 rfl li_0 (by omega)
    refine tz_put (ci := 8) (v := .int v95) (ty := .int) (C := RX11) (F := TX11) (N := 36) hx hb hU iX11 tyX11 tyX11_ok nmX11 hown hK hT hS 1 rfl rfl 18 (by decide) w803 (fun _ h9 => h9) rfl (by decide +kernel) rfl rfl (Nat.le_of_ble_eq_true rfl) dX11_readsNumber_30 (fun H locs hT hS => ?_)
    have hT : TP D A [(h3, aJ (k 1) 9 anJ), (h0, ob 8 [.int h0f0, .int h0f1, .int h0f2, .int h0f3, .int h0f4, .int h0f5, .ref h1, .ref h2, .int h0f8, .int h0f9, .ref h3, .ref h4, .ref h5, .ref h6, .ref h7, .ref h8, .ref h9, .int h0f17, .int v95, .int h0f19, .ref h10, .ref h11, .ref h12, .ref h13, .int h0f24, .int h0f25, .ref h14, .ref h15, .ref h16, .ref h17, .int h0f30, .int h0f31, .ref h18, .ref h19, .ref h20, .ref h21]), (h8, aI (k 0) 120 anI)] _ := hT
    refine lv_iconst (v := 0) hx hb dX11_readsNumber_33 (by decide) ?_
    refine lv_istore_n (lv' := [(3, .int 0), (2, .int 0), (0, .ref h0), (1, .int x1)]) hx hb dX11_readsNumber_34 rfl hl (by decide) rfl (fun ls hl => ?_)
    refine lv_iconst (v := 0) hx hb dX11_readsNumber_35 (by decide) ?_
    refine lv_istore (lv' := [(4, .int 0), (3, .int 0), (2, .int 0), (0, .ref h0), (1, .int x1)]) hx hb dX11_readsNumber_36 hl (by decide) rfl (fun ls hl => ?_)
    exact lp38_11 ((h0f17.toInt + (-1) * v95.toInt + 1).toNat + 1) (0) (0) (0) v95 _ _ _ (by have := li_0; omega) (by have := li_0; omega) (by have := li_0; omega)  (Nat.lt_succ_self _) hT hS (lv_sub hl [3, 4, 2, 1, 0] rfl)
  · skip
    have hT := J _ hT1
    have hT : TP D A [(h3, aJ (k 1) 9 anJ), (h0, ob 8 [.int h0f0, .int h0f1, .int h0f2, .int h0f3, .int h0f4, .int h0f5, .ref h1, .ref h2, .int h0f8, .int h0f9, .ref h3, .ref h4, .ref h5, .ref h6, .ref h7, .ref h8, .ref h9, .int h0f17, .int v84, .int h0f19, .ref h10, .ref h11, .ref h12, .ref h13, .int h0f24, .int h0f25, .ref h14, .ref h15, .ref h16, .ref h17, .int h0f30, .int h0f31, .ref h18, .ref h19, .ref h20, .ref h21]), (h8, aI (k 0) 120 anI)] _ := hT
    refine lv_bipush (v := 45) hx hb dX11_readsNumber_4 (by decide) ?_
    refine lv_icmp_ne (tgt := 13) hx hb dX11_readsNumber_6 (by decide) (fun c_96 => ?_) (fun c_96 => ?_)
    · skip
      have c_96 := ni_ne c_96 rfl li_45
      refine lv_iconst (v := 0) hx hb dX11_readsNumber_13 (by decide) ?_
      refine lv_istore_n (lv' := [(2, .int 0), (0, .ref h0), (1, .int x1)]) hx hb dX11_readsNumber_14 rfl hl (by decide) rfl (fun ls hl => ?_)
      refine lv_aload_n hx hb dX11_readsNumber_15 rfl (lv_at hl 1 rfl) ?_
      refine lv_dup hx hb dX11_readsNumber_16 rfl ?_
      refine tz_get (ci := 8) (v := .int v84) (C := RX11) (F := TX11) (N := 36) hx hb hU iX11 hown hK hT 1 rfl rfl 18 (by decide) w803 (fun _ h9 => h9) rfl dX11_readsNumber_17 ?_
      refine lv_iload_n hx hb dX11_readsNumber_20 rfl (lv_at hl 0 rfl) ?_
      refine lv_if_eq (tgt := 28) hx hb dX11_readsNumber_21 (by decide) (fun _ => ?_) (fun cc => absurd (by decide +kernel) cc)
      refine lv_iconst (v := 0) hx hb dX11_readsNumber_28 (by decide) ?_
      refine lv_iadd hx hb dX11_readsNumber_29 (lv_topi (fun v97 e_v97 => ?_))
      have e_v97 := ai_add e_v97 rfl li_0 (by omega)
      refine tz_put (ci := 8) (v := .int v97) (ty := .int) (C := RX11) (F := TX11) (N := 36) hx hb hU iX11 tyX11 tyX11_ok nmX11 hown hK hT hS 1 rfl rfl 18 (by decide) w803 (fun _ h9 => h9) rfl (by decide +kernel) rfl rfl (Nat.le_of_ble_eq_true rfl) dX11_readsNumber_30 (fun H locs hT hS => ?_)
      have hT : TP D A [(h3, aJ (k 1) 9 anJ), (h0, ob 8 [.int h0f0, .int h0f1, .int h0f2, .int h0f3, .int h0f4, .int h0f5, .ref h1, .ref h2, .int h0f8, .int h0f9, .ref h3, .ref h4, .ref h5, .ref h6, .ref h7, .ref h8, .ref h9, .int h0f17, .int v97, .int h0f19, .ref h10, .ref h11, .ref h12, .ref h13, .int h0f24, .int h0f25, .ref h14, .ref h15, .ref h16, .ref h17, .int h0f30, .int h0f31, .ref h18, .ref h19, .ref h20, .ref h21]), (h8, aI (k 0) 120 anI)] _ := hT
      refine lv_iconst (v := 0) hx hb dX11_readsNumber_33 (by decide) ?_
      refine lv_istore_n (lv' := [(3, .int 0), (2, .int 0), (0, .ref h0), (1, .int x1)]) hx hb dX11_readsNumber_34 rfl hl (by decide) rfl (fun ls hl => ?_)
      refine lv_iconst (v := 0) hx hb dX11_readsNumber_35 (by decide) ?_
      refine lv_istore (lv' := [(4, .int 0), (3, .int 0), (2, .int 0), (0, .ref h0), (1, .int x1)]) hx hb dX11_readsNumber_36 hl (by decide) rfl (fun ls hl => ?_)
      exact lp38_11 ((h0f17.toInt + (-1) * v97.toInt + 1).toNat + 1) (0) (0) (0) v97 _ _ _ (by have := li_0; omega) (by have := li_0; omega) (by have := li_0; omega)  (Nat.lt_succ_self _) hT hS (lv_sub hl [3, 4, 2, 1, 0] rfl)
    · skip
      have c_96 := ni_eq c_96 rfl li_45
      refine lv_iconst (v := 1) hx hb dX11_readsNumber_9 (by decide) ?_
      refine lv_goto (tgt := 14) hx hb dX11_readsNumber_10 (by decide) ?_
      refine lv_istore_n (lv' := [(2, .int 1), (0, .ref h0), (1, .int x1)]) hx hb dX11_readsNumber_14 rfl hl (by decide) rfl (fun ls hl => ?_)
      refine lv_aload_n hx hb dX11_readsNumber_15 rfl (lv_at hl 1 rfl) ?_
      refine lv_dup hx hb dX11_readsNumber_16 rfl ?_
      refine tz_get (ci := 8) (v := .int v84) (C := RX11) (F := TX11) (N := 36) hx hb hU iX11 hown hK hT 1 rfl rfl 18 (by decide) w803 (fun _ h9 => h9) rfl dX11_readsNumber_17 ?_
      refine lv_iload_n hx hb dX11_readsNumber_20 rfl (lv_at hl 0 rfl) ?_
      refine lv_if_eq (tgt := 28) hx hb dX11_readsNumber_21 (by decide) (fun cc => absurd cc (by decide +kernel)) (fun _ => ?_)
      refine lv_iconst (v := 1) hx hb dX11_readsNumber_24 (by decide) ?_
      refine lv_goto (tgt := 29) hx hb dX11_readsNumber_25 (by decide) ?_
      refine lv_iadd hx hb dX11_readsNumber_29 (lv_topi (fun v98 e_v98 => ?_))
      have e_v98 := ai_add e_v98 rfl li_1 (by omega)
      refine tz_put (ci := 8) (v := .int v98) (ty := .int) (C := RX11) (F := TX11) (N := 36) hx hb hU iX11 tyX11 tyX11_ok nmX11 hown hK hT hS 1 rfl rfl 18 (by decide) w803 (fun _ h9 => h9) rfl (by decide +kernel) rfl rfl (Nat.le_of_ble_eq_true rfl) dX11_readsNumber_30 (fun H locs hT hS => ?_)
      have hT : TP D A [(h3, aJ (k 1) 9 anJ), (h0, ob 8 [.int h0f0, .int h0f1, .int h0f2, .int h0f3, .int h0f4, .int h0f5, .ref h1, .ref h2, .int h0f8, .int h0f9, .ref h3, .ref h4, .ref h5, .ref h6, .ref h7, .ref h8, .ref h9, .int h0f17, .int v98, .int h0f19, .ref h10, .ref h11, .ref h12, .ref h13, .int h0f24, .int h0f25, .ref h14, .ref h15, .ref h16, .ref h17, .int h0f30, .int h0f31, .ref h18, .ref h19, .ref h20, .ref h21]), (h8, aI (k 0) 120 anI)] _ := hT
      refine lv_iconst (v := 0) hx hb dX11_readsNumber_33 (by decide) ?_
      refine lv_istore_n (lv' := [(3, .int 0), (2, .int 1), (0, .ref h0), (1, .int x1)]) hx hb dX11_readsNumber_34 rfl hl (by decide) rfl (fun ls hl => ?_)
      refine lv_iconst (v := 0) hx hb dX11_readsNumber_35 (by decide) ?_
      refine lv_istore (lv' := [(4, .int 0), (3, .int 0), (2, .int 1), (0, .ref h0), (1, .int x1)]) hx hb dX11_readsNumber_36 hl (by decide) rfl (fun ls hl => ?_)
      exact lp38_11 ((h0f17.toInt + (-1) * v98.toInt + 1).toNat + 1) (0) (0) (1) v98 _ _ _ (by have := li_0; have := li_1; omega) (by have := li_0; have := li_1; omega) (by have := li_0; have := li_1; omega)  (Nat.lt_succ_self _) hT hS (lv_sub hl [3, 4, 2, 1, 0] rfl)
abbrev Rm_cX11_det_62049 : Room := { frames := 0, cells := 0, slots := 0, locals := 0 }
abbrev B_cX11_det_62049 (D : va_G) (k : Nat → ClassId) (h0 h1 h2 h3 h4 h5 h6 h7 h8 h9 h10 h11 h12 h13 h14 h15 h16 h17 h18 h19 h20 h21 : Nat) (h0f0 : Int32) (h0f1 : Int32) (h0f2 : Int32) (h0f3 : Int32) (h0f4 : Int32) (h0f5 : Int32) (h0f8 : Int32) (h0f9 : Int32) (h0f17 : Int32) (h0f18 : Int32) (h0f19 : Int32) (h0f24 : Int32) (h0f25 : Int32) (h0f30 : Int32) (h0f31 : Int32) (A : Nat → Prop) (r : Int64) (H : Heap) : Prop := TP D A [(h0, ob 8 [.int h0f0, .int h0f1, .int h0f2, .int h0f3, .int h0f4, .int h0f5, .ref h2, .ref h3, .int h0f8, .int h0f9, .ref h1, .ref h4, .ref h5, .ref h6, .ref h7, .ref h8, .ref h9, .int h0f17, .int h0f18, .int h0f19, .ref h10, .ref h11, .ref h12, .ref h13, .int h0f24, .int h0f25, .ref h14, .ref h15, .ref h16, .ref h17, .int h0f30, .int h0f31, .ref h18, .ref h19, .ref h20, .ref h21]), (h1, aJ (k 1) 9 anJ)] H
set_option maxHeartbeats 4000000 in
set_option maxRecDepth 100000 in
theorem cX11_det_62049 (l : Launch) (D : va_G) (k : Nat → ClassId) (sz : Nat) (h0 h1 h2 h3 h4 h5 h6 h7 h8 h9 h10 h11 h12 h13 h14 h15 h16 h17 h18 h19 h20 h21 : Nat) (h0f0 : Int32) (h0f1 : Int32) (h0f2 : Int32) (h0f3 : Int32) (h0f4 : Int32) (h0f5 : Int32) (h0f8 : Int32) (h0f9 : Int32) (h0f17 : Int32) (h0f18 : Int32) (h0f19 : Int32) (h0f24 : Int32) (h0f25 : Int32) (h0f30 : Int32) (h0f31 : Int32) (b_h0f0 : 1 ≤ h0f0.toInt ∧ h0f0.toInt ≤ 3) (b_h0f1 : 0 ≤ h0f1.toInt ∧ h0f1.toInt ≤ 4) (b_h0f3 : 0 ≤ h0f3.toInt ∧ h0f3.toInt ≤ 3) (b_h0f4 : 0 ≤ h0f4.toInt ∧ h0f4.toInt ≤ 4) (b_h0f8 : 0 ≤ h0f8.toInt ∧ h0f8.toInt ≤ 1) (b_h0f9 : 0 ≤ h0f9.toInt ∧ h0f9.toInt ≤ 1) (b_h0f17 : 0 ≤ h0f17.toInt ∧ h0f17.toInt ≤ 120) (b_h0f18 : 0 ≤ h0f18.toInt ∧ h0f18.toInt ≤ 120) (b_h0f19 : 0 ≤ h0f19.toInt ∧ h0f19.toInt ≤ 4) (b_h0f24 : 0 ≤ h0f24.toInt ∧ h0f24.toInt ≤ 100) (b_h0f25 : 0 ≤ h0f25.toInt ∧ h0f25.toInt ≤ 1) (b_h0f30 : 0 ≤ h0f30.toInt ∧ h0f30.toInt ≤ 60) (b_h0f31 : 0 ≤ h0f31.toInt ∧ h0f31.toInt ≤ 1) (i_0 : h0f8.toInt ≤ h0f3.toInt) (i_1 : h0f9.toInt ≤ h0f24.toInt) : Met l yX11_det (Cond.code yX11_det cX11_det 2 (some .long) :: uw) Rm_cX11_det_62049 (pT D k sz [.ref h0, .ref h1] [(h0, ob 8 [.int h0f0, .int h0f1, .int h0f2, .int h0f3, .int h0f4, .int h0f5, .ref h2, .ref h3, .int h0f8, .int h0f9, .ref h1, .ref h4, .ref h5, .ref h6, .ref h7, .ref h8, .ref h9, .int h0f17, .int h0f18, .int h0f19, .ref h10, .ref h11, .ref h12, .ref h13, .int h0f24, .int h0f25, .ref h14, .ref h15, .ref h16, .ref h17, .int h0f30, .int h0f31, .ref h18, .ref h19, .ref h20, .ref h21]), (h1, aJ (k 1) 9 anJ)]) (qL (B_cX11_det_62049 D k h0 h1 h2 h3 h4 h5 h6 h7 h8 h9 h10 h11 h12 h13 h14 h15 h16 h17 h18 h19 h20 h21 h0f0 h0f1 h0f2 h0f3 h0f4 h0f5 h0f8 h0f9 h0f17 h0f18 h0f19 h0f24 h0f25 h0f30 h0f31 (zA [h0, h1] sz)) (zA [h0, h1] sz)) 0 0 (zA [h0, h1] sz) := by
  refine tz_begin (as := [h0, h1]) (Qc := fun A => qL (B_cX11_det_62049 D k h0 h1 h2 h3 h4 h5 h6 h7 h8 h9 h10 h11 h12 h13 h14 h15 h16 h17 h18 h19 h20 h21 h0f0 h0f1 h0f2 h0f3 h0f4 h0f5 h0f8 h0f9 h0f17 h0f18 h0f19 h0f24 h0f25 h0f30 h0f31 A) A) (by decide +kernel) rfl (Nat.le_of_ble_eq_true rfl) ?_
  intro p e s m args below meth c ls A Q hx hb hr hml hown hlocks hin hU hK hT hS hA hl hQ
  have hl : lv_has ls 2 [(0, .ref h0), (1, .ref h1)] := hl
  have hT : TP D A [(h0, ob 8 [.int h0f0, .int h0f1, .int h0f2, .int h0f3, .int h0f4, .int h0f5, .ref h2, .ref h3, .int h0f8, .int h0f9, .ref h1, .ref h4, .ref h5, .ref h6, .ref h7, .ref h8, .ref h9, .int h0f17, .int h0f18, .int h0f19, .ref h10, .ref h11, .ref h12, .ref h13, .int h0f24, .int h0f25, .ref h14, .ref h15, .ref h16, .ref h17, .int h0f30, .int h0f31, .ref h18, .ref h19, .ref h20, .ref h21]), (h1, aJ (k 1) 9 anJ)] s.heap := hT
  refine lv_aload_n hx hb dX11_det_0 rfl (lv_at hl 0 rfl) ?_
  refine tz_get (ci := 8) (v := .int h0f0) (C := RX11) (F := TX11) (N := 36) hx hb hU iX11 hown hK hT 0 rfl rfl 0 (by decide) w785 (fun _ h9 => h9) rfl dX11_det_1 ?_
  refine lv_iconst (v := 1) hx hb dX11_det_4 (by decide) ?_
  refine lv_icmp_ne (tgt := 12) hx hb dX11_det_5 (by decide) (fun c_1 => ?_) (fun c_1 => ?_)
  · skip
    have c_1 := ni_ne c_1 rfl li_1
    refine lv_aload_n hx hb dX11_det_12 rfl (lv_at hl 0 rfl) ?_
    refine tz_get (ci := 8) (v := .int h0f0) (C := RX11) (F := TX11) (N := 36) hx hb hU iX11 hown hK hT 0 rfl rfl 0 (by decide) w785 (fun _ h9 => h9) rfl dX11_det_13 ?_
    refine lv_iconst (v := 2) hx hb dX11_det_16 (by decide) ?_
    refine lv_icmp_ne (tgt := 36) hx hb dX11_det_17 (by decide) (fun c_2 => ?_) (fun c_2 => ?_)
    · skip
      have c_2 := ni_ne c_2 rfl li_2
      refine lv_aload_n hx hb dX11_det_36 rfl (lv_at hl 1 rfl) ?_
      refine lv_iconst (v := 0) hx hb dX11_det_37 (by decide) ?_
      refine tz_lald hx hb hK hT 1 rfl (by have := li_0; omega) dX11_det_38 (fun v3 e_v3 => ?_)
      clear e_v3
      refine lv_aload_n hx hb dX11_det_39 rfl (lv_at hl 1 rfl) ?_
      refine lv_iconst (v := 4) hx hb dX11_det_40 (by decide) ?_
      refine tz_lald hx hb hK hT 1 rfl (by have := li_4; omega) dX11_det_41 (fun v4 e_v4 => ?_)
      clear e_v4
      refine lv_aload_n hx hb dX11_det_42 rfl (lv_at hl 1 rfl) ?_
      refine lv_bipush (v := 8) hx hb dX11_det_43 (by decide) ?_
      refine tz_lald hx hb hK hT 1 rfl (by have := li_8; omega) dX11_det_45 (fun v5 e_v5 => ?_)
      clear e_v5
      refine lv_lmul hx hb dX11_det_46 (lv_topl (fun v6 e_v6 => ?_))
      refine lv_aload_n hx hb dX11_det_47 rfl (lv_at hl 1 rfl) ?_
      refine lv_iconst (v := 5) hx hb dX11_det_48 (by decide) ?_
      refine tz_lald hx hb hK hT 1 rfl (by have := li_5; omega) dX11_det_49 (fun v7 e_v7 => ?_)
      clear e_v7
      refine lv_aload_n hx hb dX11_det_50 rfl (lv_at hl 1 rfl) ?_
      refine lv_bipush (v := 7) hx hb dX11_det_51 (by decide) ?_
      refine tz_lald hx hb hK hT 1 rfl (by have := li_7; omega) dX11_det_53 (fun v8 e_v8 => ?_)
      clear e_v8
      refine lv_lmul hx hb dX11_det_54 (lv_topl (fun v9 e_v9 => ?_))
      refine lv_lsub hx hb dX11_det_55 (lv_topl (fun v10 e_v10 => ?_))
      refine lv_lmul hx hb dX11_det_56 (lv_topl (fun v11 e_v11 => ?_))
      refine lv_aload_n hx hb dX11_det_57 rfl (lv_at hl 1 rfl) ?_
      refine lv_iconst (v := 1) hx hb dX11_det_58 (by decide) ?_
      refine tz_lald hx hb hK hT 1 rfl (by have := li_1; omega) dX11_det_59 (fun v12 e_v12 => ?_)
      clear e_v12
      refine lv_aload_n hx hb dX11_det_60 rfl (lv_at hl 1 rfl) ?_
      refine lv_iconst (v := 3) hx hb dX11_det_61 (by decide) ?_
      refine tz_lald hx hb hK hT 1 rfl (by have := li_3; omega) dX11_det_62 (fun v13 e_v13 => ?_)
      clear e_v13
      refine lv_aload_n hx hb dX11_det_63 rfl (lv_at hl 1 rfl) ?_
      refine lv_bipush (v := 8) hx hb dX11_det_64 (by decide) ?_
      refine tz_lald hx hb hK hT 1 rfl (by have := li_8; omega) dX11_det_66 (fun v14 e_v14 => ?_)
      clear e_v14
      refine lv_lmul hx hb dX11_det_67 (lv_topl (fun v15 e_v15 => ?_))
      refine lv_aload_n hx hb dX11_det_68 rfl (lv_at hl 1 rfl) ?_
      refine lv_iconst (v := 5) hx hb dX11_det_69 (by decide) ?_
      refine tz_lald hx hb hK hT 1 rfl (by have := li_5; omega) dX11_det_70 (fun v16 e_v16 => ?_)
      clear e_v16
      refine lv_aload_n hx hb dX11_det_71 rfl (lv_at hl 1 rfl) ?_
      refine lv_bipush (v := 6) hx hb dX11_det_72 (by decide) ?_
      refine tz_lald hx hb hK hT 1 rfl (by have := li_6; omega) dX11_det_74 (fun v17 e_v17 => ?_)
      clear e_v17
      refine lv_lmul hx hb dX11_det_75 (lv_topl (fun v18 e_v18 => ?_))
      refine lv_lsub hx hb dX11_det_76 (lv_topl (fun v19 e_v19 => ?_))
      refine lv_lmul hx hb dX11_det_77 (lv_topl (fun v20 e_v20 => ?_))
      refine lv_lsub hx hb dX11_det_78 (lv_topl (fun v21 e_v21 => ?_))
      refine lv_aload_n hx hb dX11_det_79 rfl (lv_at hl 1 rfl) ?_
      refine lv_iconst (v := 2) hx hb dX11_det_80 (by decide) ?_
      refine tz_lald hx hb hK hT 1 rfl (by have := li_2; omega) dX11_det_81 (fun v22 e_v22 => ?_)
      clear e_v22
      refine lv_aload_n hx hb dX11_det_82 rfl (lv_at hl 1 rfl) ?_
      refine lv_iconst (v := 3) hx hb dX11_det_83 (by decide) ?_
      refine tz_lald hx hb hK hT 1 rfl (by have := li_3; omega) dX11_det_84 (fun v23 e_v23 => ?_)
      clear e_v23
      refine lv_aload_n hx hb dX11_det_85 rfl (lv_at hl 1 rfl) ?_
      refine lv_bipush (v := 7) hx hb dX11_det_86 (by decide) ?_
      refine tz_lald hx hb hK hT 1 rfl (by have := li_7; omega) dX11_det_88 (fun v24 e_v24 => ?_)
      clear e_v24
      refine lv_lmul hx hb dX11_det_89 (lv_topl (fun v25 e_v25 => ?_))
      refine lv_aload_n hx hb dX11_det_90 rfl (lv_at hl 1 rfl) ?_
      refine lv_iconst (v := 4) hx hb dX11_det_91 (by decide) ?_
      refine tz_lald hx hb hK hT 1 rfl (by have := li_4; omega) dX11_det_92 (fun v26 e_v26 => ?_)
      clear e_v26
      refine lv_aload_n hx hb dX11_det_93 rfl (lv_at hl 1 rfl) ?_
      refine lv_bipush (v := 6) hx hb dX11_det_94 (by decide) ?_
      refine tz_lald hx hb hK hT 1 rfl (by have := li_6; omega) dX11_det_96 (fun v27 e_v27 => ?_)
      clear e_v27
      refine lv_lmul hx hb dX11_det_97 (lv_topl (fun v28 e_v28 => ?_))
      refine lv_lsub hx hb dX11_det_98 (lv_topl (fun v29 e_v29 => ?_))
      refine lv_lmul hx hb dX11_det_99 (lv_topl (fun v30 e_v30 => ?_))
      refine lv_ladd hx hb dX11_det_100 (lv_topl (fun v31 e_v31 => ?_))
      exact tz_retL (B := B_cX11_det_62049 D k h0 h1 h2 h3 h4 h5 h6 h7 h8 h9 h10 h11 h12 h13 h14 h15 h16 h17 h18 h19 h20 h21 h0f0 h0f1 h0f2 h0f3 h0f4 h0f5 h0f8 h0f9 h0f17 h0f18 h0f19 h0f24 h0f25 h0f30 h0f31) (v := v31) hQ hx hb hr hlocks hS (Nat.le_of_ble_eq_true rfl) (Nat.le_of_ble_eq_true rfl) dX11_det_101 (hT)
    · skip
      have c_2 := ni_eq c_2 rfl li_2
      refine lv_aload_n hx hb dX11_det_20 rfl (lv_at hl 1 rfl) ?_
      refine lv_iconst (v := 0) hx hb dX11_det_21 (by decide) ?_
      refine tz_lald hx hb hK hT 1 rfl (by have := li_0; omega) dX11_det_22 (fun v32 e_v32 => ?_)
      clear e_v32
      refine lv_aload_n hx hb dX11_det_23 rfl (lv_at hl 1 rfl) ?_
      refine lv_iconst (v := 4) hx hb dX11_det_24 (by decide) ?_
      refine tz_lald hx hb hK hT 1 rfl (by have := li_4; omega) dX11_det_25 (fun v33 e_v33 => ?_)
      clear e_v33
      refine lv_lmul hx hb dX11_det_26 (lv_topl (fun v34 e_v34 => ?_))
      refine lv_aload_n hx hb dX11_det_27 rfl (lv_at hl 1 rfl) ?_
      refine lv_iconst (v := 1) hx hb dX11_det_28 (by decide) ?_
      refine tz_lald hx hb hK hT 1 rfl (by have := li_1; omega) dX11_det_29 (fun v35 e_v35 => ?_)
      clear e_v35
      refine lv_aload_n hx hb dX11_det_30 rfl (lv_at hl 1 rfl) ?_
      refine lv_iconst (v := 3) hx hb dX11_det_31 (by decide) ?_
      refine tz_lald hx hb hK hT 1 rfl (by have := li_3; omega) dX11_det_32 (fun v36 e_v36 => ?_)
      clear e_v36
      refine lv_lmul hx hb dX11_det_33 (lv_topl (fun v37 e_v37 => ?_))
      refine lv_lsub hx hb dX11_det_34 (lv_topl (fun v38 e_v38 => ?_))
      exact tz_retL (B := B_cX11_det_62049 D k h0 h1 h2 h3 h4 h5 h6 h7 h8 h9 h10 h11 h12 h13 h14 h15 h16 h17 h18 h19 h20 h21 h0f0 h0f1 h0f2 h0f3 h0f4 h0f5 h0f8 h0f9 h0f17 h0f18 h0f19 h0f24 h0f25 h0f30 h0f31) (v := v38) hQ hx hb hr hlocks hS (Nat.le_of_ble_eq_true rfl) (Nat.le_of_ble_eq_true rfl) dX11_det_35 (hT)
  · skip
    have c_1 := ni_eq c_1 rfl li_1
    refine lv_aload_n hx hb dX11_det_8 rfl (lv_at hl 1 rfl) ?_
    refine lv_iconst (v := 0) hx hb dX11_det_9 (by decide) ?_
    refine tz_lald hx hb hK hT 1 rfl (by have := li_0; omega) dX11_det_10 (fun v39 e_v39 => ?_)
    clear e_v39
    exact tz_retL (B := B_cX11_det_62049 D k h0 h1 h2 h3 h4 h5 h6 h7 h8 h9 h10 h11 h12 h13 h14 h15 h16 h17 h18 h19 h20 h21 h0f0 h0f1 h0f2 h0f3 h0f4 h0f5 h0f8 h0f9 h0f17 h0f18 h0f19 h0f24 h0f25 h0f30 h0f31) (v := v39) hQ hx hb hr hlocks hS (Nat.le_of_ble_eq_true rfl) (Nat.le_of_ble_eq_true rfl) dX11_det_11 (hT)
abbrev Rm_cX11_readsSign_cb03b : Room := { frames := 1, cells := 0, slots := 0, locals := 20 }
abbrev B_cX11_readsSign_cb03b (D : va_G) (k : Nat → ClassId) (h0 h8 h1 h2 h3 h4 h5 h6 h7 h9 h10 h11 h12 h13 h14 h15 h16 h17 h18 h19 h20 h21 : Nat) (x1 : Int32) (h0f0 : Int32) (h0f1 : Int32) (h0f2 : Int32) (h0f3 : Int32) (h0f4 : Int32) (h0f5 : Int32) (h0f8 : Int32) (h0f9 : Int32) (h0f17 : Int32) (h0f18 : Int32) (h0f19 : Int32) (h0f24 : Int32) (h0f25 : Int32) (h0f30 : Int32) (h0f31 : Int32) (A : Nat → Prop) (r : Int32) (H : Heap) : Prop := (∃ o0 : Int32, (0 ≤ o0.toInt ∧ o0.toInt ≤ 120) ∧ 0 = r ∧ TP D A [(h0, ob 8 [.int h0f0, .int h0f1, .int h0f2, .int h0f3, .int h0f4, .int h0f5, .ref h1, .ref h2, .int h0f8, .int h0f9, .ref h3, .ref h4, .ref h5, .ref h6, .ref h7, .ref h8, .ref h9, .int h0f17, .int o0, .int h0f19, .ref h10, .ref h11, .ref h12, .ref h13, .int h0f24, .int h0f25, .ref h14, .ref h15, .ref h16, .ref h17, .int h0f30, .int h0f31, .ref h18, .ref h19, .ref h20, .ref h21]), (h8, aI (k 0) 120 anI)] H) ∨ (∃ o0 : Int32, ∃ o1 : Int32, ∃ o2 : Int32, (4 ≤ o0.toInt ∧ o0.toInt ≤ 116) ∧ (3 ≤ o1.toInt ∧ o1.toInt ≤ 115) ∧ (47 ≤ o2.toInt ∧ o2.toInt ≤ 47) ∧ h0f8.toInt ≤ h0f3.toInt ∧ h0f9.toInt ≤ h0f24.toInt ∧ h0f17.toInt ≤ o1.toInt ∧ o1.toInt < h0f17.toInt ∧ o2.toInt = x1.toInt ∧ 1 = r ∧ TP D A [(h0, ob 8 [.int h0f0, .int h0f1, .int h0f2, .int h0f3, .int h0f4, .int h0f5, .ref h1, .ref h2, .int h0f8, .int h0f9, .ref h3, .ref h4, .ref h5, .ref h6, .ref h7, .ref h8, .ref h9, .int h0f17, .int o0, .int h0f19, .ref h10, .ref h11, .ref h12, .ref h13, .int h0f24, .int h0f25, .ref h14, .ref h15, .ref h16, .ref h17, .int h0f30, .int h0f31, .ref h18, .ref h19, .ref h20, .ref h21]), (h8, aI (k 0) 120 anI)] H) ∨ (∃ o0 : Int32, ∃ o1 : Int32, ∃ o2 : Int32, ∃ o3 : Int32, (1 ≤ o0.toInt ∧ o0.toInt ≤ 120) ∧ (0 ≤ o1.toInt ∧ o1.toInt ≤ 119) ∧ (47 ≤ o3.toInt ∧ o3.toInt ≤ 47) ∧ h0f8.toInt ≤ h0f3.toInt ∧ h0f9.toInt ≤ h0f24.toInt ∧ o1.toInt < h0f17.toInt ∧ o2.toInt ≠ 32 ∧ o3.toInt = x1.toInt ∧ 1 = r ∧ TP D A [(h0, ob 8 [.int h0f0, .int h0f1, .int h0f2, .int h0f3, .int h0f4, .int h0f5, .ref h1, .ref h2, .int h0f8, .int h0f9, .ref h3, .ref h4, .ref h5, .ref h6, .ref h7, .ref h8, .ref h9, .int h0f17, .int o0, .int h0f19, .ref h10, .ref h11, .ref h12, .ref h13, .int h0f24, .int h0f25, .ref h14, .ref h15, .ref h16, .ref h17, .int h0f30, .int h0f31, .ref h18, .ref h19, .ref h20, .ref h21]), (h8, aI (k 0) 120 anI)] H)
set_option maxHeartbeats 4000000 in
set_option maxRecDepth 100000 in
theorem cX11_readsSign_cb03b (l : Launch) (D : va_G) (k : Nat → ClassId) (sz : Nat) (h0 h8 h1 h2 h3 h4 h5 h6 h7 h9 h10 h11 h12 h13 h14 h15 h16 h17 h18 h19 h20 h21 : Nat) (x1 : Int32) (h0f0 : Int32) (h0f1 : Int32) (h0f2 : Int32) (h0f3 : Int32) (h0f4 : Int32) (h0f5 : Int32) (h0f8 : Int32) (h0f9 : Int32) (h0f17 : Int32) (h0f18 : Int32) (h0f19 : Int32) (h0f24 : Int32) (h0f25 : Int32) (h0f30 : Int32) (h0f31 : Int32) (b_x1 : 47 ≤ x1.toInt ∧ x1.toInt ≤ 47) (b_h0f0 : 2 ≤ h0f0.toInt ∧ h0f0.toInt ≤ 3) (b_h0f1 : 0 ≤ h0f1.toInt ∧ h0f1.toInt ≤ 4) (b_h0f3 : 0 ≤ h0f3.toInt ∧ h0f3.toInt ≤ 3) (b_h0f4 : 0 ≤ h0f4.toInt ∧ h0f4.toInt ≤ 4) (b_h0f8 : 0 ≤ h0f8.toInt ∧ h0f8.toInt ≤ 1) (b_h0f9 : 0 ≤ h0f9.toInt ∧ h0f9.toInt ≤ 1) (b_h0f17 : 1 ≤ h0f17.toInt ∧ h0f17.toInt ≤ 120) (b_h0f18 : 0 ≤ h0f18.toInt ∧ h0f18.toInt ≤ 120) (b_h0f19 : 0 ≤ h0f19.toInt ∧ h0f19.toInt ≤ 3) (b_h0f24 : 0 ≤ h0f24.toInt ∧ h0f24.toInt ≤ 100) (b_h0f25 : 0 ≤ h0f25.toInt ∧ h0f25.toInt ≤ 1) (b_h0f30 : 0 ≤ h0f30.toInt ∧ h0f30.toInt ≤ 60) (b_h0f31 : 0 ≤ h0f31.toInt ∧ h0f31.toInt ≤ 1) (i_0 : h0f8.toInt ≤ h0f3.toInt) (i_1 : h0f9.toInt ≤ h0f24.toInt) : Met l yX11_readsSign (Cond.code yX11_readsSign cX11_readsSign 2 (some .boolean) :: uw) Rm_cX11_readsSign_cb03b (pT D k sz [.ref h0, .int x1] [(h0, ob 8 [.int h0f0, .int h0f1, .int h0f2, .int h0f3, .int h0f4, .int h0f5, .ref h1, .ref h2, .int h0f8, .int h0f9, .ref h3, .ref h4, .ref h5, .ref h6, .ref h7, .ref h8, .ref h9, .int h0f17, .int h0f18, .int h0f19, .ref h10, .ref h11, .ref h12, .ref h13, .int h0f24, .int h0f25, .ref h14, .ref h15, .ref h16, .ref h17, .int h0f30, .int h0f31, .ref h18, .ref h19, .ref h20, .ref h21]), (h8, aI (k 0) 120 anI)]) (qI (B_cX11_readsSign_cb03b D k h0 h8 h1 h2 h3 h4 h5 h6 h7 h9 h10 h11 h12 h13 h14 h15 h16 h17 h18 h19 h20 h21 x1 h0f0 h0f1 h0f2 h0f3 h0f4 h0f5 h0f8 h0f9 h0f17 h0f18 h0f19 h0f24 h0f25 h0f30 h0f31 (zA [h0, h8] sz)) (zA [h0, h8] sz)) 0 0 (zA [h0, h8] sz) := by
  refine tz_begin (as := [h0, h8]) (Qc := fun A => qI (B_cX11_readsSign_cb03b D k h0 h8 h1 h2 h3 h4 h5 h6 h7 h9 h10 h11 h12 h13 h14 h15 h16 h17 h18 h19 h20 h21 x1 h0f0 h0f1 h0f2 h0f3 h0f4 h0f5 h0f8 h0f9 h0f17 h0f18 h0f19 h0f24 h0f25 h0f30 h0f31 A) A) (by decide +kernel) rfl (Nat.le_of_ble_eq_true rfl) ?_
  intro p e s m args below meth c ls A Q hx hb hr hml hown hlocks hin hU hK hT hS hA hl hQ
  have hl : lv_has ls 2 [(0, .ref h0), (1, .int x1)] := hl
  have hT : TP D A [(h0, ob 8 [.int h0f0, .int h0f1, .int h0f2, .int h0f3, .int h0f4, .int h0f5, .ref h1, .ref h2, .int h0f8, .int h0f9, .ref h3, .ref h4, .ref h5, .ref h6, .ref h7, .ref h8, .ref h9, .int h0f17, .int h0f18, .int h0f19, .ref h10, .ref h11, .ref h12, .ref h13, .int h0f24, .int h0f25, .ref h14, .ref h15, .ref h16, .ref h17, .int h0f30, .int h0f31, .ref h18, .ref h19, .ref h20, .ref h21]), (h8, aI (k 0) 120 anI)] s.heap := hT
  refine lv_aload_n hx hb dX11_readsSign_0 rfl (lv_at hl 0 rfl) ?_
  refine tcI (Tc := [(h0, ob 8 [.int h0f0, .int h0f1, .int h0f2, .int h0f3, .int h0f4, .int h0f5, .ref h1, .ref h2, .int h0f8, .int h0f9, .ref h3, .ref h4, .ref h5, .ref h6, .ref h7, .ref h8, .ref h9, .int h0f17, .int h0f18, .int h0f19, .ref h10, .ref h11, .ref h12, .ref h13, .int h0f24, .int h0f25, .ref h14, .ref h15, .ref h16, .ref h17, .int h0f30, .int h0f31, .ref h18, .ref h19, .ref h20, .ref h21]), (h8, aI (k 0) 120 anI)]) (Tr := []) (as := [h0, h8]) (zcV (q0 := 0) (ci := 8) (As := []) (rest := []) (Tc := [(h0, ob 8 [.int h0f0, .int h0f1, .int h0f2, .int h0f3, .int h0f4, .int h0f5, .ref h1, .ref h2, .int h0f8, .int h0f9, .ref h3, .ref h4, .ref h5, .ref h6, .ref h7, .ref h8, .ref h9, .int h0f17, .int h0f18, .int h0f19, .ref h10, .ref h11, .ref h12, .ref h13, .int h0f24, .int h0f25, .ref h14, .ref h15, .ref h16, .ref h17, .int h0f30, .int h0f31, .ref h18, .ref h19, .ref h20, .ref h21]), (h8, aI (k 0) 120 anI)]) hx hb hml hown hU hK hT rfl rfl [0, 1] rfl (by decide) (cX11_here_78e70 l D k _ h0 h8 h1 h2 h3 h4 h5 h6 h7 h9 h10 h11 h12 h13 h14 h15 h16 h17 h18 h19 h20 h21 h0f0 h0f1 h0f2 h0f3 h0f4 h0f5 h0f8 h0f9 h0f17 h0f18 h0f19 h0f24 h0f25 h0f30 h0f31 (by omega) (by omega) (by omega) (by omega) (by omega) (by omega) (by omega) (by omega) (by omega) (by omega) (by omega) (by omega) (by omega) (by omega) (by omega)) w1013 w1010 w1012 w42 w72 hdX11_here ⟨rfl, rfl⟩ ⟨Nat.le_of_ble_eq_true rfl, Nat.le_of_ble_eq_true rfl⟩ rfl hl.1 (Nat.le_of_ble_eq_true rfl) dX11_readsSign_1 ⟨Nat.le_of_ble_eq_true rfl, Nat.le_of_ble_eq_true rfl⟩) hT hS hA [0, 1] [] rfl rfl rfl (by decide) (by decide) (fun r1 H locs hB J hS => ?_)
  rcases hB with ⟨v2, b_v2, c_3, c_4, c_5, rfl, hT1⟩ | ⟨v6, v7, b_v6, c_8, c_9, c_10, c_11, rfl, hT1⟩ | ⟨v12, v13, b_v12, c_14, c_15, c_16, c_17, c_18, rfl, hT1⟩ | ⟨v19, v20, v21, b_v19, c_22, c_23, c_24, c_25, rfl, hT1⟩
  · skip
    have hT := J _ hT1
    have hT : TP D A [(h0, ob 8 [.int h0f0, .int h0f1, .int h0f2, .int h0f3, .int h0f4, .int h0f5, .ref h1, .ref h2, .int h0f8, .int h0f9, .ref h3, .ref h4, .ref h5, .ref h6, .ref h7, .ref h8, .ref h9, .int h0f17, .int v2, .int h0f19, .ref h10, .ref h11, .ref h12, .ref h13, .int h0f24, .int h0f25, .ref h14, .ref h15, .ref h16, .ref h17, .int h0f30, .int h0f31, .ref h18, .ref h19, .ref h20, .ref h21]), (h8, aI (k 0) 120 anI)] _ := hT
    refine lv_iload_n hx hb dX11_readsSign_4 rfl (lv_at hl 1 rfl) ?_
    refine lv_icmp_eq (tgt := 10) hx hb dX11_readsSign_5 (by decide) (fun c_26 => ?_) (fun c_26 => ?_)
    · skip
      have c_26 := ni_eq c_26 li_m1 rfl
      exfalso; omega
    · skip
      have c_26 := ni_ne c_26 li_m1 rfl
      refine lv_iconst (v := 0) hx hb dX11_readsSign_8 (by decide) ?_
      exact tz_retZ (B := B_cX11_readsSign_cb03b D k h0 h8 h1 h2 h3 h4 h5 h6 h7 h9 h10 h11 h12 h13 h14 h15 h16 h17 h18 h19 h20 h21 x1 h0f0 h0f1 h0f2 h0f3 h0f4 h0f5 h0f8 h0f9 h0f17 h0f18 h0f19 h0f24 h0f25 h0f30 h0f31) (v := 0) hQ hx hb hr hlocks hS (Nat.le_of_ble_eq_true rfl) (Nat.le_of_ble_eq_true rfl) dX11_readsSign_9 (by have := li_0; omega) (Or.inl ⟨v2, (by have := li_0; omega), rfl, hT⟩)
  · skip
    have hT := J _ hT1
    have hT : TP D A [(h0, ob 8 [.int h0f0, .int h0f1, .int h0f2, .int h0f3, .int h0f4, .int h0f5, .ref h1, .ref h2, .int h0f8, .int h0f9, .ref h3, .ref h4, .ref h5, .ref h6, .ref h7, .ref h8, .ref h9, .int h0f17, .int v6, .int h0f19, .ref h10, .ref h11, .ref h12, .ref h13, .int h0f24, .int h0f25, .ref h14, .ref h15, .ref h16, .ref h17, .int h0f30, .int h0f31, .ref h18, .ref h19, .ref h20, .ref h21]), (h8, aI (k 0) 120 anI)] _ := hT
    refine lv_iload_n hx hb dX11_readsSign_4 rfl (lv_at hl 1 rfl) ?_
    refine lv_icmp_eq (tgt := 10) hx hb dX11_readsSign_5 (by decide) (fun c_27 => ?_) (fun c_27 => ?_)
    · skip
      have c_27 := ni_eq c_27 rfl rfl
      refine lv_aload_n hx hb dX11_readsSign_10 rfl (lv_at hl 0 rfl) ?_
      refine lv_dup hx hb dX11_readsSign_11 rfl ?_
      refine tz_get (ci := 8) (v := .int v6) (C := RX11) (F := TX11) (N := 36) hx hb hU iX11 hown hK hT 0 rfl rfl 18 (by decide) w803 (fun _ h9 => h9) rfl dX11_readsSign_12 ?_
      refine lv_iconst (v := 1) hx hb dX11_readsSign_15 (by decide) ?_
      refine lv_iadd hx hb dX11_readsSign_16 (lv_topi (fun v28 e_v28 => ?_))
      have e_v28 := ai_add e_v28 rfl li_1 (by omega)
      refine tz_put (ci := 8) (v := .int v28) (ty := .int) (C := RX11) (F := TX11) (N := 36) hx hb hU iX11 tyX11 tyX11_ok nmX11 hown hK hT hS 0 rfl rfl 18 (by decide) w803 (fun _ h9 => h9) rfl (by decide +kernel) rfl rfl (Nat.le_of_ble_eq_true rfl) dX11_readsSign_17 (fun H locs hT hS => ?_)
      have hT : TP D A [(h0, ob 8 [.int h0f0, .int h0f1, .int h0f2, .int h0f3, .int h0f4, .int h0f5, .ref h1, .ref h2, .int h0f8, .int h0f9, .ref h3, .ref h4, .ref h5, .ref h6, .ref h7, .ref h8, .ref h9, .int h0f17, .int v28, .int h0f19, .ref h10, .ref h11, .ref h12, .ref h13, .int h0f24, .int h0f25, .ref h14, .ref h15, .ref h16, .ref h17, .int h0f30, .int h0f31, .ref h18, .ref h19, .ref h20, .ref h21]), (h8, aI (k 0) 120 anI)] _ := hT
      refine lv_iconst (v := 1) hx hb dX11_readsSign_20 (by decide) ?_
      exact tz_retZ (B := B_cX11_readsSign_cb03b D k h0 h8 h1 h2 h3 h4 h5 h6 h7 h9 h10 h11 h12 h13 h14 h15 h16 h17 h18 h19 h20 h21 x1 h0f0 h0f1 h0f2 h0f3 h0f4 h0f5 h0f8 h0f9 h0f17 h0f18 h0f19 h0f24 h0f25 h0f30 h0f31) (v := 1) hQ hx hb hr hlocks hS (Nat.le_of_ble_eq_true rfl) (Nat.le_of_ble_eq_true rfl) dX11_readsSign_21 (by have := li_1; omega) (Or.inr (Or.inl ⟨v28, v6, v7, (by have := li_1; omega), (by have := li_1; omega), (by have := li_1; omega), (by have := li_1; omega), (by have := li_1; omega), (by have := li_1; omega), (by have := li_1; omega), (by have := li_1; omega), rfl, hT⟩))
    · skip
      have c_27 := ni_ne c_27 rfl rfl
      refine lv_iconst (v := 0) hx hb dX11_readsSign_8 (by decide) ?_
      exact tz_retZ (B := B_cX11_readsSign_cb03b D k h0 h8 h1 h2 h3 h4 h5 h6 h7 h9 h10 h11 h12 h13 h14 h15 h16 h17 h18 h19 h20 h21 x1 h0f0 h0f1 h0f2 h0f3 h0f4 h0f5 h0f8 h0f9 h0f17 h0f18 h0f19 h0f24 h0f25 h0f30 h0f31) (v := 0) hQ hx hb hr hlocks hS (Nat.le_of_ble_eq_true rfl) (Nat.le_of_ble_eq_true rfl) dX11_readsSign_9 (by have := li_0; omega) (Or.inl ⟨v6, (by have := li_0; omega), rfl, hT⟩)
  · skip
    have hT := J _ hT1
    have hT : TP D A [(h0, ob 8 [.int h0f0, .int h0f1, .int h0f2, .int h0f3, .int h0f4, .int h0f5, .ref h1, .ref h2, .int h0f8, .int h0f9, .ref h3, .ref h4, .ref h5, .ref h6, .ref h7, .ref h8, .ref h9, .int h0f17, .int v12, .int h0f19, .ref h10, .ref h11, .ref h12, .ref h13, .int h0f24, .int h0f25, .ref h14, .ref h15, .ref h16, .ref h17, .int h0f30, .int h0f31, .ref h18, .ref h19, .ref h20, .ref h21]), (h8, aI (k 0) 120 anI)] _ := hT
    refine lv_iload_n hx hb dX11_readsSign_4 rfl (lv_at hl 1 rfl) ?_
    refine lv_icmp_eq (tgt := 10) hx hb dX11_readsSign_5 (by decide) (fun c_29 => ?_) (fun c_29 => ?_)
    · skip
      have c_29 := ni_eq c_29 li_m1 rfl
      exfalso; omega
    · skip
      have c_29 := ni_ne c_29 li_m1 rfl
      refine lv_iconst (v := 0) hx hb dX11_readsSign_8 (by decide) ?_
      exact tz_retZ (B := B_cX11_readsSign_cb03b D k h0 h8 h1 h2 h3 h4 h5 h6 h7 h9 h10 h11 h12 h13 h14 h15 h16 h17 h18 h19 h20 h21 x1 h0f0 h0f1 h0f2 h0f3 h0f4 h0f5 h0f8 h0f9 h0f17 h0f18 h0f19 h0f24 h0f25 h0f30 h0f31) (v := 0) hQ hx hb hr hlocks hS (Nat.le_of_ble_eq_true rfl) (Nat.le_of_ble_eq_true rfl) dX11_readsSign_9 (by have := li_0; omega) (Or.inl ⟨v12, (by have := li_0; omega), rfl, hT⟩)
  · skip
    have hT := J _ hT1
    have hT : TP D A [(h0, ob 8 [.int h0f0, .int h0f1, .int h0f2, .int h0f3, .int h0f4, .int h0f5, .ref h1, .ref h2, .int h0f8, .int h0f9, .ref h3, .ref h4, .ref h5, .ref h6, .ref h7, .ref h8, .ref h9, .int h0f17, .int v19, .int h0f19, .ref h10, .ref h11, .ref h12, .ref h13, .int h0f24, .int h0f25, .ref h14, .ref h15, .ref h16, .ref h17, .int h0f30, .int h0f31, .ref h18, .ref h19, .ref h20, .ref h21]), (h8, aI (k 0) 120 anI)] _ := hT
    refine lv_iload_n hx hb dX11_readsSign_4 rfl (lv_at hl 1 rfl) ?_
    refine lv_icmp_eq (tgt := 10) hx hb dX11_readsSign_5 (by decide) (fun c_30 => ?_) (fun c_30 => ?_)
    · skip
      have c_30 := ni_eq c_30 rfl rfl
      refine lv_aload_n hx hb dX11_readsSign_10 rfl (lv_at hl 0 rfl) ?_
      refine lv_dup hx hb dX11_readsSign_11 rfl ?_
      refine tz_get (ci := 8) (v := .int v19) (C := RX11) (F := TX11) (N := 36) hx hb hU iX11 hown hK hT 0 rfl rfl 18 (by decide) w803 (fun _ h9 => h9) rfl dX11_readsSign_12 ?_
      refine lv_iconst (v := 1) hx hb dX11_readsSign_15 (by decide) ?_
      refine lv_iadd hx hb dX11_readsSign_16 (lv_topi (fun v31 e_v31 => ?_))
      have e_v31 := ai_add e_v31 rfl li_1 (by omega)
      refine tz_put (ci := 8) (v := .int v31) (ty := .int) (C := RX11) (F := TX11) (N := 36) hx hb hU iX11 tyX11 tyX11_ok nmX11 hown hK hT hS 0 rfl rfl 18 (by decide) w803 (fun _ h9 => h9) rfl (by decide +kernel) rfl rfl (Nat.le_of_ble_eq_true rfl) dX11_readsSign_17 (fun H locs hT hS => ?_)
      have hT : TP D A [(h0, ob 8 [.int h0f0, .int h0f1, .int h0f2, .int h0f3, .int h0f4, .int h0f5, .ref h1, .ref h2, .int h0f8, .int h0f9, .ref h3, .ref h4, .ref h5, .ref h6, .ref h7, .ref h8, .ref h9, .int h0f17, .int v31, .int h0f19, .ref h10, .ref h11, .ref h12, .ref h13, .int h0f24, .int h0f25, .ref h14, .ref h15, .ref h16, .ref h17, .int h0f30, .int h0f31, .ref h18, .ref h19, .ref h20, .ref h21]), (h8, aI (k 0) 120 anI)] _ := hT
      refine lv_iconst (v := 1) hx hb dX11_readsSign_20 (by decide) ?_
      exact tz_retZ (B := B_cX11_readsSign_cb03b D k h0 h8 h1 h2 h3 h4 h5 h6 h7 h9 h10 h11 h12 h13 h14 h15 h16 h17 h18 h19 h20 h21 x1 h0f0 h0f1 h0f2 h0f3 h0f4 h0f5 h0f8 h0f9 h0f17 h0f18 h0f19 h0f24 h0f25 h0f30 h0f31) (v := 1) hQ hx hb hr hlocks hS (Nat.le_of_ble_eq_true rfl) (Nat.le_of_ble_eq_true rfl) dX11_readsSign_21 (by have := li_1; omega) (Or.inr (Or.inr (⟨v31, v19, v21, v20, (by have := li_1; omega), (by have := li_1; omega), (by have := li_1; omega), (by have := li_1; omega), (by have := li_1; omega), (by have := li_1; omega), (by have := li_1; omega), (by have := li_1; omega), rfl, hT⟩)))
    · skip
      have c_30 := ni_ne c_30 rfl rfl
      refine lv_iconst (v := 0) hx hb dX11_readsSign_8 (by decide) ?_
      exact tz_retZ (B := B_cX11_readsSign_cb03b D k h0 h8 h1 h2 h3 h4 h5 h6 h7 h9 h10 h11 h12 h13 h14 h15 h16 h17 h18 h19 h20 h21 x1 h0f0 h0f1 h0f2 h0f3 h0f4 h0f5 h0f8 h0f9 h0f17 h0f18 h0f19 h0f24 h0f25 h0f30 h0f31) (v := 0) hQ hx hb hr hlocks hS (Nat.le_of_ble_eq_true rfl) (Nat.le_of_ble_eq_true rfl) dX11_readsSign_9 (by have := li_0; omega) (Or.inl ⟨v19, (by have := li_0; omega), rfl, hT⟩)
abbrev Rm_cX11_readsMatrix_5491f : Room := { frames := 3, cells := 0, slots := 0, locals := 69 }
abbrev B_cX11_readsMatrix_5491f (D : va_G) (k : Nat → ClassId) (h0 h3 h8 h9 h1 h2 h4 h5 h6 h7 h10 h11 h12 h13 h14 h15 h16 h17 h18 h19 h20 h21 : Nat) (h0f0 : Int32) (h0f1 : Int32) (h0f2 : Int32) (h0f3 : Int32) (h0f4 : Int32) (h0f5 : Int32) (h0f8 : Int32) (h0f9 : Int32) (h0f17 : Int32) (h0f18 : Int32) (h0f19 : Int32) (h0f24 : Int32) (h0f25 : Int32) (h0f30 : Int32) (h0f31 : Int32) (A : Nat → Prop) (r : Int32) (H : Heap) : Prop := (∃ o0 : Int32, (0 ≤ o0.toInt ∧ o0.toInt ≤ 120) ∧ 0 = r ∧ TP D A [(h0, ob 8 [.int h0f0, .int h0f1, .int h0f2, .int h0f3, .int h0f4, .int h0f5, .ref h1, .ref h2, .int h0f8, .int h0f9, .ref h3, .ref h4, .ref h5, .ref h6, .ref h7, .ref h8, .ref h9, .int h0f17, .int o0, .int h0f19, .ref h10, .ref h11, .ref h12, .ref h13, .int h0f24, .int h0f25, .ref h14, .ref h15, .ref h16, .ref h17, .int h0f30, .int h0f31, .ref h18, .ref h19, .ref h20, .ref h21]), (h3, aJ (k 1) 9 anJ), (h8, aI (k 0) 120 anI), (h9, aI (k 0) 36 anI)] H) ∨ (∃ o0 : Int32, ∃ o1 : Int32, ∃ o2 : Int32, (1 ≤ o0.toInt ∧ o0.toInt ≤ 120) ∧ (1 ≤ o1.toInt ∧ o1.toInt ≤ 4) ∧ (9 ≤ o2.toInt ∧ o2.toInt ≤ 9) ∧ h0f8.toInt ≤ h0f3.toInt ∧ h0f9.toInt ≤ h0f24.toInt ∧ h0f19.toInt ≠ 4 ∧ 9 ≤ o2.toInt ∧ o1.toInt = h0f19.toInt + 1 ∧ 1 = r ∧ TP D A [(h0, ob 8 [.int h0f0, .int h0f1, .int h0f2, .int h0f3, .int h0f4, .int h0f5, .ref h1, .ref h2, .int h0f8, .int h0f9, .ref h3, .ref h4, .ref h5, .ref h6, .ref h7, .ref h8, .ref h9, .int h0f17, .int o0, .int o1, .ref h10, .ref h11, .ref h12, .ref h13, .int h0f24, .int h0f25, .ref h14, .ref h15, .ref h16, .ref h17, .int h0f30, .int h0f31, .ref h18, .ref h19, .ref h20, .ref h21]), (h3, aJ (k 1) 9 anJ), (h8, aI (k 0) 120 anI), (h9, aI (k 0) 36 anI)] H)
set_option maxHeartbeats 4000000 in
set_option maxRecDepth 100000 in
theorem cX11_readsMatrix_5491f (l : Launch) (D : va_G) (k : Nat → ClassId) (sz : Nat) (h0 h3 h8 h9 h1 h2 h4 h5 h6 h7 h10 h11 h12 h13 h14 h15 h16 h17 h18 h19 h20 h21 : Nat) (h0f0 : Int32) (h0f1 : Int32) (h0f2 : Int32) (h0f3 : Int32) (h0f4 : Int32) (h0f5 : Int32) (h0f8 : Int32) (h0f9 : Int32) (h0f17 : Int32) (h0f18 : Int32) (h0f19 : Int32) (h0f24 : Int32) (h0f25 : Int32) (h0f30 : Int32) (h0f31 : Int32) (b_h0f0 : 1 ≤ h0f0.toInt ∧ h0f0.toInt ≤ 3) (b_h0f1 : 0 ≤ h0f1.toInt ∧ h0f1.toInt ≤ 4) (b_h0f3 : 0 ≤ h0f3.toInt ∧ h0f3.toInt ≤ 3) (b_h0f4 : 0 ≤ h0f4.toInt ∧ h0f4.toInt ≤ 4) (b_h0f8 : 0 ≤ h0f8.toInt ∧ h0f8.toInt ≤ 1) (b_h0f9 : 0 ≤ h0f9.toInt ∧ h0f9.toInt ≤ 1) (b_h0f17 : 1 ≤ h0f17.toInt ∧ h0f17.toInt ≤ 120) (b_h0f18 : 0 ≤ h0f18.toInt ∧ h0f18.toInt ≤ 119) (b_h0f19 : 0 ≤ h0f19.toInt ∧ h0f19.toInt ≤ 4) (b_h0f24 : 0 ≤ h0f24.toInt ∧ h0f24.toInt ≤ 100) (b_h0f25 : 0 ≤ h0f25.toInt ∧ h0f25.toInt ≤ 1) (b_h0f30 : 0 ≤ h0f30.toInt ∧ h0f30.toInt ≤ 60) (b_h0f31 : 0 ≤ h0f31.toInt ∧ h0f31.toInt ≤ 1) (i_0 : h0f8.toInt ≤ h0f3.toInt) (i_1 : h0f9.toInt ≤ h0f24.toInt) : Met l yX11_readsMatrix (Cond.code yX11_readsMatrix cX11_readsMatrix 3 (some .boolean) :: uw) Rm_cX11_readsMatrix_5491f (pT D k sz [.ref h0] [(h0, ob 8 [.int h0f0, .int h0f1, .int h0f2, .int h0f3, .int h0f4, .int h0f5, .ref h1, .ref h2, .int h0f8, .int h0f9, .ref h3, .ref h4, .ref h5, .ref h6, .ref h7, .ref h8, .ref h9, .int h0f17, .int h0f18, .int h0f19, .ref h10, .ref h11, .ref h12, .ref h13, .int h0f24, .int h0f25, .ref h14, .ref h15, .ref h16, .ref h17, .int h0f30, .int h0f31, .ref h18, .ref h19, .ref h20, .ref h21]), (h3, aJ (k 1) 9 anJ), (h8, aI (k 0) 120 anI), (h9, aI (k 0) 36 anI)]) (qI (B_cX11_readsMatrix_5491f D k h0 h3 h8 h9 h1 h2 h4 h5 h6 h7 h10 h11 h12 h13 h14 h15 h16 h17 h18 h19 h20 h21 h0f0 h0f1 h0f2 h0f3 h0f4 h0f5 h0f8 h0f9 h0f17 h0f18 h0f19 h0f24 h0f25 h0f30 h0f31 (zA [h0, h3, h8, h9] sz)) (zA [h0, h3, h8, h9] sz)) 0 0 (zA [h0, h3, h8, h9] sz) := by
  refine tz_begin (as := [h0, h3, h8, h9]) (Qc := fun A => qI (B_cX11_readsMatrix_5491f D k h0 h3 h8 h9 h1 h2 h4 h5 h6 h7 h10 h11 h12 h13 h14 h15 h16 h17 h18 h19 h20 h21 h0f0 h0f1 h0f2 h0f3 h0f4 h0f5 h0f8 h0f9 h0f17 h0f18 h0f19 h0f24 h0f25 h0f30 h0f31 A) A) (by decide +kernel) rfl (Nat.le_of_ble_eq_true rfl) ?_
  intro p e s m args below meth c ls A Q hx hb hr hml hown hlocks hin hU hK hT hS hA hl hQ
  have hl : lv_has ls 3 [(0, .ref h0)] := hl
  have hT : TP D A [(h0, ob 8 [.int h0f0, .int h0f1, .int h0f2, .int h0f3, .int h0f4, .int h0f5, .ref h1, .ref h2, .int h0f8, .int h0f9, .ref h3, .ref h4, .ref h5, .ref h6, .ref h7, .ref h8, .ref h9, .int h0f17, .int h0f18, .int h0f19, .ref h10, .ref h11, .ref h12, .ref h13, .int h0f24, .int h0f25, .ref h14, .ref h15, .ref h16, .ref h17, .int h0f30, .int h0f31, .ref h18, .ref h19, .ref h20, .ref h21]), (h3, aJ (k 1) 9 anJ), (h8, aI (k 0) 120 anI), (h9, aI (k 0) 36 anI)] s.heap := hT
  refine lv_aload_n hx hb dX11_readsMatrix_0 rfl (lv_at hl 0 rfl) ?_
  refine tz_get (ci := 8) (v := .int h0f19) (C := RX11) (F := TX11) (N := 36) hx hb hU iX11 hown hK hT 0 rfl rfl 19 (by decide) w804 (fun _ h9 => h9) rfl dX11_readsMatrix_1 ?_
  refine lv_iconst (v := 4) hx hb dX11_readsMatrix_4 (by decide) ?_
  refine lv_icmp_ne (tgt := 10) hx hb dX11_readsMatrix_5 (by decide) (fun c_1 => ?_) (fun c_1 => ?_)
  · skip
    have c_1 := ni_ne c_1 rfl li_4
    refine lv_aload_n hx hb dX11_readsMatrix_10 rfl (lv_at hl 0 rfl) ?_
    refine lv_aload_n hx hb dX11_readsMatrix_11 rfl (lv_at hl 0 rfl) ?_
    refine tz_get (ci := 8) (v := .ref h3) (C := RX11) (F := TX11) (N := 36) hx hb hU iX11 hown hK hT 0 rfl rfl 10 (by decide) w795 (fun _ h9 => h9) rfl dX11_readsMatrix_12 ?_
    refine tcV (Tc := [(h0, ob 8 [.int h0f0, .int h0f1, .int h0f2, .int h0f3, .int h0f4, .int h0f5, .ref h1, .ref h2, .int h0f8, .int h0f9, .ref h3, .ref h4, .ref h5, .ref h6, .ref h7, .ref h8, .ref h9, .int h0f17, .int h0f18, .int h0f19, .ref h10, .ref h11, .ref h12, .ref h13, .int h0f24, .int h0f25, .ref h14, .ref h15, .ref h16, .ref h17, .int h0f30, .int h0f31, .ref h18, .ref h19, .ref h20, .ref h21]), (h3, aJ (k 1) 9 anJ)]) (Tr := [(h8, aI (k 0) 120 anI), (h9, aI (k 0) 36 anI)]) (as := [h0, h3]) (zcV (q0 := 0) (ci := 8) (As := [.ref h3]) (rest := []) (Tc := [(h0, ob 8 [.int h0f0, .int h0f1, .int h0f2, .int h0f3, .int h0f4, .int h0f5, .ref h1, .ref h2, .int h0f8, .int h0f9, .ref h3, .ref h4, .ref h5, .ref h6, .ref h7, .ref h8, .ref h9, .int h0f17, .int h0f18, .int h0f19, .ref h10, .ref h11, .ref h12, .ref h13, .int h0f24, .int h0f25, .ref h14, .ref h15, .ref h16, .ref h17, .int h0f30, .int h0f31, .ref h18, .ref h19, .ref h20, .ref h21]), (h3, aJ (k 1) 9 anJ)]) hx hb hml hown hU hK hT rfl rfl [0, 1] rfl (by decide) (cX11_clears_d395b l D k _ h0 h3 h1 h2 h4 h5 h6 h7 h8 h9 h10 h11 h12 h13 h14 h15 h16 h17 h18 h19 h20 h21 h0f0 h0f1 h0f2 h0f3 h0f4 h0f5 h0f8 h0f9 h0f17 h0f18 h0f19 h0f24 h0f25 h0f30 h0f31 (by omega) (by omega) (by omega) (by omega) (by omega) (by omega) (by omega) (by omega) (by omega) (by omega) (by omega) (by omega) (by omega) (by omega) (by omega)) w923 w920 w922 w29 w72 hdX11_clears ⟨rfl, rfl⟩ ⟨Nat.le_of_ble_eq_true rfl, Nat.le_of_ble_eq_true rfl⟩ rfl hl.1 (Nat.le_of_ble_eq_true rfl) dX11_readsMatrix_15 ⟨Nat.le_of_ble_eq_true rfl, Nat.le_of_ble_eq_true rfl⟩) hT hS hA [0, 1] [2, 3] rfl rfl rfl (by decide) (by decide) (fun H locs hB J hS => ?_)
    have hT1 := hB
    have hT := J _ hT1
    have hT : TP D A [(h8, aI (k 0) 120 anI), (h9, aI (k 0) 36 anI), (h0, ob 8 [.int h0f0, .int h0f1, .int h0f2, .int h0f3, .int h0f4, .int h0f5, .ref h1, .ref h2, .int h0f8, .int h0f9, .ref h3, .ref h4, .ref h5, .ref h6, .ref h7, .ref h8, .ref h9, .int h0f17, .int h0f18, .int h0f19, .ref h10, .ref h11, .ref h12, .ref h13, .int h0f24, .int h0f25, .ref h14, .ref h15, .ref h16, .ref h17, .int h0f30, .int h0f31, .ref h18, .ref h19, .ref h20, .ref h21]), (h3, aJ (k 1) 9 anJ)] _ := hT
    refine lv_iconst (v := 0) hx hb dX11_readsMatrix_18 (by decide) ?_
    refine lv_istore_n (lv' := [(1, .int 0), (0, .ref h0)]) hx hb dX11_readsMatrix_19 rfl hl (by decide) rfl (fun ls hl => ?_)
    have lp20_9 : ∀ (n : Nat) (y7 : Int32) (y8 : Int32) (H : Heap) (locs : List Loc) (ls : Array Slot), (0 ≤ y7.toInt ∧ y7.toInt ≤ 3) → (0 ≤ y8.toInt ∧ y8.toInt ≤ 120) → (3 - y7.toInt).toNat < n → TP D A [(h8, aI (k 0) 120 anI), (h9, aI (k 0) 36 anI), (h0, ob 8 [.int h0f0, .int h0f1, .int h0f2, .int h0f3, .int h0f4, .int h0f5, .ref h1, .ref h2, .int h0f8, .int h0f9, .ref h3, .ref h4, .ref h5, .ref h6, .ref h7, .ref h8, .ref h9, .int h0f17, .int y8, .int h0f19, .ref h10, .ref h11, .ref h12, .ref h13, .int h0f24, .int h0f25, .ref h14, .ref h15, .ref h16, .ref h17, .int h0f30, .int h0f31, .ref h18, .ref h19, .ref h20, .ref h21]), (h3, aJ (k 1) 9 anJ)] H → va_S A s.heap H locs → lv_has ls 3 [(0, .ref h0), (1, .int y7)] → W p l e Rm_cX11_readsMatrix_5491f s m args below meth c H locs 0 0 Q (F0 m 20 ls []) := by
      intro n
      induction n with
      | zero => intro y7 y8 H locs ls b_y7 b_y8 hm hT hS hl; exact absurd hm (Nat.not_lt_zero _)
      | succ n ih =>
        intro y7 y8 H locs ls b_y7 b_y8 hm hT hS hl
        have ih20_9 := ih
        clear ih
        have lp45_17 : ∀ (n : Nat) (y15 : Int32) (y16 : Int32) (H : Heap) (locs : List Loc) (ls : Array Slot), (0 ≤ y15.toInt ∧ y15.toInt ≤ 3) → (0 ≤ y16.toInt ∧ y16.toInt ≤ 120) → (0 ≤ y7.toInt ∧ y7.toInt ≤ 2) → (h0f0.toInt + (-1) * y15.toInt + 1).toNat < n → TP D A [(h8, aI (k 0) 120 anI), (h9, aI (k 0) 36 anI), (h0, ob 8 [.int h0f0, .int h0f1, .int h0f2, .int h0f3, .int h0f4, .int h0f5, .ref h1, .ref h2, .int h0f8, .int h0f9, .ref h3, .ref h4, .ref h5, .ref h6, .ref h7, .ref h8, .ref h9, .int h0f17, .int y16, .int h0f19, .ref h10, .ref h11, .ref h12, .ref h13, .int h0f24, .int h0f25, .ref h14, .ref h15, .ref h16, .ref h17, .int h0f30, .int h0f31, .ref h18, .ref h19, .ref h20, .ref h21]), (h3, aJ (k 1) 9 anJ)] H → va_S A s.heap H locs → lv_has ls 3 [(0, .ref h0), (1, .int y7), (2, .int y15)] → W p l e Rm_cX11_readsMatrix_5491f s m args below meth c H locs 0 0 Q (F0 m 45 ls []) := by
          intro n
          induction n with
          | zero => intro y15 y16 H locs ls b_y15 b_y16 b_y7 hm hT hS hl; exact absurd hm (Nat.not_lt_zero _)
          | succ n ih =>
            intro y15 y16 H locs ls b_y15 b_y16 b_y7 hm hT hS hl
            have ih45_17 := ih
            clear ih
            refine lv_iload_n hx hb dX11_readsMatrix_45 rfl (lv_at hl 2 rfl) ?_
            refine lv_aload_n hx hb dX11_readsMatrix_46 rfl (lv_at hl 0 rfl) ?_
            refine tz_get (ci := 8) (v := .int h0f0) (C := RX11) (F := TX11) (N := 36) hx hb hU iX11 hown hK hT 2 rfl rfl 0 (by decide) w785 (fun _ h9 => h9) rfl dX11_readsMatrix_47 ?_
            refine lv_icmp_ge (tgt := 73) hx hb dX11_readsMatrix_50 (by decide) (fun c_18 => ?_) (fun c_18 => ?_)
            · skip
              have c_18 := ni_le c_18 rfl rfl
              obtain ⟨v19, e_v19⟩ : ∃ x : Int32, x = y7 + Int32.ofInt 1 := ⟨_, rfl⟩
              have f_v19 := e_v19.symm
              have e_v19 : v19.toInt = y7.toInt + 1 := ai_add e_v19 rfl (show (Int32.ofInt 1).toInt = 1 from (by decide +kernel)) (by omega)
              refine lv_iinc (v := v19) (lv' := [(1, .int v19), (0, .ref h0), (2, .int y15)]) hx hb dX11_readsMatrix_73 hl (k := 1) rfl f_v19 (by decide) rfl (fun ls hl => ?_)
              refine lv_goto (tgt := 20) hx hb dX11_readsMatrix_76 (by decide) ?_
              exact ih20_9 v19 y16 _ _ _ (by omega) (by omega)  (by omega) hT hS (lv_sub hl [1, 0] rfl)
            · skip
              have c_18 := ni_nle c_18 rfl rfl
              refine lv_aload_n hx hb dX11_readsMatrix_53 rfl (lv_at hl 0 rfl) ?_
              refine lv_iconst (v := 3) hx hb dX11_readsMatrix_54 (by decide) ?_
              refine lv_iload_n hx hb dX11_readsMatrix_55 rfl (lv_at hl 1 rfl) ?_
              refine lv_imul hx hb dX11_readsMatrix_56 (lv_topi (fun v20 e_v20 => ?_))
              have e_v20 := ai_mul e_v20 li_3 rfl (by omega)
              refine lv_iload_n hx hb dX11_readsMatrix_57 rfl (lv_at hl 2 rfl) ?_
              refine lv_iadd hx hb dX11_readsMatrix_58 (lv_topi (fun v21 e_v21 => ?_))
              have e_v21 := ai_add e_v21 rfl rfl (by omega)
              refine tcI (Tc := [(h0, ob 8 [.int h0f0, .int h0f1, .int h0f2, .int h0f3, .int h0f4, .int h0f5, .ref h1, .ref h2, .int h0f8, .int h0f9, .ref h3, .ref h4, .ref h5, .ref h6, .ref h7, .ref h8, .ref h9, .int h0f17, .int y16, .int h0f19, .ref h10, .ref h11, .ref h12, .ref h13, .int h0f24, .int h0f25, .ref h14, .ref h15, .ref h16, .ref h17, .int h0f30, .int h0f31, .ref h18, .ref h19, .ref h20, .ref h21]), (h3, aJ (k 1) 9 anJ), (h8, aI (k 0) 120 anI)]) (Tr := [(h9, aI (k 0) 36 anI)]) (as := [h0, h3, h8]) (zcV (q0 := 2) (ci := 8) (As := [.int v21]) (rest := []) (Tc := [(h0, ob 8 [.int h0f0, .int h0f1, .int h0f2, .int h0f3, .int h0f4, .int h0f5, .ref h1, .ref h2, .int h0f8, .int h0f9, .ref h3, .ref h4, .ref h5, .ref h6, .ref h7, .ref h8, .ref h9, .int h0f17, .int y16, .int h0f19, .ref h10, .ref h11, .ref h12, .ref h13, .int h0f24, .int h0f25, .ref h14, .ref h15, .ref h16, .ref h17, .int h0f30, .int h0f31, .ref h18, .ref h19, .ref h20, .ref h21]), (h3, aJ (k 1) 9 anJ), (h8, aI (k 0) 120 anI)]) hx hb hml hown hU hK hT rfl rfl [2, 3, 0] rfl (by decide) (cX11_readsNumber_1520e l D k _ h0 h3 h8 h1 h2 h4 h5 h6 h7 h9 h10 h11 h12 h13 h14 h15 h16 h17 h18 h19 h20 h21 v21 h0f0 h0f1 h0f2 h0f3 h0f4 h0f5 h0f8 h0f9 h0f17 y16 h0f19 h0f24 h0f25 h0f30 h0f31 (by omega) (by omega) (by omega) (by omega) (by omega) (by omega) (by omega) (by omega) (by omega) (by omega) (by omega) (by omega) (by omega) (by omega) (by omega) (by omega)) w1025 w1022 w1024 w45 w72 hdX11_readsNumber ⟨rfl, rfl⟩ ⟨Nat.le_of_ble_eq_true rfl, Nat.le_of_ble_eq_true rfl⟩ rfl hl.1 (Nat.le_of_ble_eq_true rfl) dX11_readsMatrix_59 ⟨Nat.le_of_ble_eq_true rfl, Nat.le_of_ble_eq_true rfl⟩) hT hS hA [2, 3, 0] [1] rfl rfl rfl (by decide) (by decide) (fun r22 H locs hB J hS => ?_)
              obtain ⟨v23, b_v23, b_r22, hT1⟩ := hB
              have hT := J _ hT1
              have hT : TP D A [(h9, aI (k 0) 36 anI), (h0, ob 8 [.int h0f0, .int h0f1, .int h0f2, .int h0f3, .int h0f4, .int h0f5, .ref h1, .ref h2, .int h0f8, .int h0f9, .ref h3, .ref h4, .ref h5, .ref h6, .ref h7, .ref h8, .ref h9, .int h0f17, .int v23, .int h0f19, .ref h10, .ref h11, .ref h12, .ref h13, .int h0f24, .int h0f25, .ref h14, .ref h15, .ref h16, .ref h17, .int h0f30, .int h0f31, .ref h18, .ref h19, .ref h20, .ref h21]), (h3, aJ (k 1) 9 anJ), (h8, aI (k 0) 120 anI)] _ := hT
              refine lv_if_ne (tgt := 67) hx hb dX11_readsMatrix_62 (by decide) (fun c_24 => ?_) (fun c_24 => ?_)
              · skip
                have c_24 := ni_ne c_24 rfl li_0
                obtain ⟨v25, e_v25⟩ : ∃ x : Int32, x = y15 + Int32.ofInt 1 := ⟨_, rfl⟩
                have f_v25 := e_v25.symm
                have e_v25 : v25.toInt = y15.toInt + 1 := ai_add e_v25 rfl (show (Int32.ofInt 1).toInt = 1 from (by decide +kernel)) (by omega)
                refine lv_iinc (v := v25) (lv' := [(2, .int v25), (0, .ref h0), (1, .int y7)]) hx hb dX11_readsMatrix_67 hl (k := 2) rfl f_v25 (by decide) rfl (fun ls hl => ?_)
                refine lv_goto (tgt := 45) hx hb dX11_readsMatrix_70 (by decide) ?_
                exact ih45_17 v25 v23 _ _ _ (by omega) (by omega) (by omega)  (by omega) (hT.sub [3, 0, 1, 2] (by decide) rfl) hS (lv_sub hl [1, 2, 0] rfl)
              · skip
                have c_24 := ni_eq c_24 rfl li_0
                refine lv_iconst (v := 0) hx hb dX11_readsMatrix_65 (by decide) ?_
                exact tz_retZ (B := B_cX11_readsMatrix_5491f D k h0 h3 h8 h9 h1 h2 h4 h5 h6 h7 h10 h11 h12 h13 h14 h15 h16 h17 h18 h19 h20 h21 h0f0 h0f1 h0f2 h0f3 h0f4 h0f5 h0f8 h0f9 h0f17 h0f18 h0f19 h0f24 h0f25 h0f30 h0f31) (v := 0) hQ hx hb hr hlocks hS (Nat.le_of_ble_eq_true rfl) (Nat.le_of_ble_eq_true rfl) dX11_readsMatrix_66 (by have := li_0; omega) (Or.inl ⟨v23, (by have := li_0; omega), rfl, (hT.sub [1, 2, 3, 0] (by decide) rfl)⟩)
        have lp130_43 : ∀ (n : Nat) (y41 : Int32) (y42 : Int32) (H : Heap) (locs : List Loc) (ls : Array Slot), (0 ≤ y41.toInt ∧ y41.toInt ≤ 9) → (1 ≤ y42.toInt ∧ y42.toInt ≤ 120) → ((-1) * y41.toInt + 9 + 1).toNat < n → TP D A [(h9, aI (k 0) 36 anI), (h8, aI (k 0) 120 anI), (h0, ob 8 [.int h0f0, .int h0f1, .int h0f2, .int h0f3, .int h0f4, .int h0f5, .ref h1, .ref h2, .int h0f8, .int h0f9, .ref h3, .ref h4, .ref h5, .ref h6, .ref h7, .ref h8, .ref h9, .int h0f17, .int y42, .int h0f19, .ref h10, .ref h11, .ref h12, .ref h13, .int h0f24, .int h0f25, .ref h14, .ref h15, .ref h16, .ref h17, .int h0f30, .int h0f31, .ref h18, .ref h19, .ref h20, .ref h21]), (h3, aJ (k 1) 9 anJ)] H → va_S A s.heap H locs → lv_has ls 3 [(0, .ref h0), (1, .int y41)] → W p l e Rm_cX11_readsMatrix_5491f s m args below meth c H locs 0 0 Q (F0 m 130 ls []) := by
          intro n
          induction n with
          | zero => intro y41 y42 H locs ls b_y41 b_y42 hm hT hS hl; exact absurd hm (Nat.not_lt_zero _)
          | succ n ih =>
            intro y41 y42 H locs ls b_y41 b_y42 hm hT hS hl
            have ih130_43 := ih
            clear ih
            refine lv_iload_n hx hb dX11_readsMatrix_130 rfl (lv_at hl 1 rfl) ?_
            refine lv_bipush (v := 9) hx hb dX11_readsMatrix_131 (by decide) ?_
            refine lv_icmp_ge (tgt := 163) hx hb dX11_readsMatrix_133 (by decide) (fun c_44 => ?_) (fun c_44 => ?_)
            · skip
              have c_44 := ni_le c_44 li_9 rfl
              refine lv_aload_n hx hb dX11_readsMatrix_163 rfl (lv_at hl 0 rfl) ?_
              refine lv_dup hx hb dX11_readsMatrix_164 rfl ?_
              refine tz_get (ci := 8) (v := .int h0f19) (C := RX11) (F := TX11) (N := 36) hx hb hU iX11 hown hK hT 2 rfl rfl 19 (by decide) w804 (fun _ h9 => h9) rfl dX11_readsMatrix_165 ?_
              refine lv_iconst (v := 1) hx hb dX11_readsMatrix_168 (by decide) ?_
              refine lv_iadd hx hb dX11_readsMatrix_169 (lv_topi (fun v45 e_v45 => ?_))
              have e_v45 := ai_add e_v45 rfl li_1 (by omega)
              refine tz_put (ci := 8) (v := .int v45) (ty := .int) (C := RX11) (F := TX11) (N := 36) hx hb hU iX11 tyX11 tyX11_ok nmX11 hown hK hT hS 2 rfl rfl 19 (by decide) w804 (fun _ h9 => h9) rfl (by decide +kernel) rfl rfl (Nat.le_of_ble_eq_true rfl) dX11_readsMatrix_170 (fun H locs hT hS => ?_)
              have hT : TP D A [(h9, aI (k 0) 36 anI), (h8, aI (k 0) 120 anI), (h0, ob 8 [.int h0f0, .int h0f1, .int h0f2, .int h0f3, .int h0f4, .int h0f5, .ref h1, .ref h2, .int h0f8, .int h0f9, .ref h3, .ref h4, .ref h5, .ref h6, .ref h7, .ref h8, .ref h9, .int h0f17, .int y42, .int v45, .ref h10, .ref h11, .ref h12, .ref h13, .int h0f24, .int h0f25, .ref h14, .ref h15, .ref h16, .ref h17, .int h0f30, .int h0f31, .ref h18, .ref h19, .ref h20, .ref h21]), (h3, aJ (k 1) 9 anJ)] _ := hT
              refine lv_iconst (v := 1) hx hb dX11_readsMatrix_173 (by decide) ?_
              exact tz_retZ (B := B_cX11_readsMatrix_5491f D k h0 h3 h8 h9 h1 h2 h4 h5 h6 h7 h10 h11 h12 h13 h14 h15 h16 h17 h18 h19 h20 h21 h0f0 h0f1 h0f2 h0f3 h0f4 h0f5 h0f8 h0f9 h0f17 h0f18 h0f19 h0f24 h0f25 h0f30 h0f31) (v := 1) hQ hx hb hr hlocks hS (Nat.le_of_ble_eq_true rfl) (Nat.le_of_ble_eq_true rfl) dX11_readsMatrix_174 (by have := li_1; omega) (Or.inr (⟨y42, v45, y41, (by have := li_1; omega), (by have := li_1; omega), (by have := li_1; omega), (by have := li_1; omega), (by have := li_1; omega), (by have := li_1; omega), (by have := li_1; omega), (by have := li_1; omega), rfl, (hT.sub [2, 3, 1, 0] (by decide) rfl)⟩))
            · skip
              have c_44 := ni_nle c_44 li_9 rfl
              refine lv_aload_n hx hb dX11_readsMatrix_136 rfl (lv_at hl 0 rfl) ?_
              refine tz_get (ci := 8) (v := .ref h9) (C := RX11) (F := TX11) (N := 36) hx hb hU iX11 hown hK hT 2 rfl rfl 16 (by decide) w801 (fun _ h9 => h9) rfl dX11_readsMatrix_137 ?_
              refine lv_bipush (v := 9) hx hb dX11_readsMatrix_140 (by decide) ?_
              refine lv_aload_n hx hb dX11_readsMatrix_142 rfl (lv_at hl 0 rfl) ?_
              refine tz_get (ci := 8) (v := .int h0f19) (C := RX11) (F := TX11) (N := 36) hx hb hU iX11 hown hK hT 2 rfl rfl 19 (by decide) w804 (fun _ h9 => h9) rfl dX11_readsMatrix_143 ?_
              refine lv_imul hx hb dX11_readsMatrix_146 (lv_topi (fun v46 e_v46 => ?_))
              have e_v46 := ai_mul e_v46 li_9 rfl (by omega)
              refine lv_iload_n hx hb dX11_readsMatrix_147 rfl (lv_at hl 1 rfl) ?_
              refine lv_iadd hx hb dX11_readsMatrix_148 (lv_topi (fun v47 e_v47 => ?_))
              have e_v47 := ai_add e_v47 rfl rfl (by omega)
              refine lv_aload_n hx hb dX11_readsMatrix_149 rfl (lv_at hl 0 rfl) ?_
              refine tz_get (ci := 8) (v := .ref h3) (C := RX11) (F := TX11) (N := 36) hx hb hU iX11 hown hK hT 2 rfl rfl 10 (by decide) w795 (fun _ h9 => h9) rfl dX11_readsMatrix_150 ?_
              refine lv_iload_n hx hb dX11_readsMatrix_153 rfl (lv_at hl 1 rfl) ?_
              refine tz_lald hx hb hK hT 3 rfl (by omega) dX11_readsMatrix_154 (fun v48 e_v48 => ?_)
              clear e_v48
              refine lv_l2i hx hb dX11_readsMatrix_155 rfl (lv_topi (fun v49 _ => ?_))
              refine tz_iast hx hb hK hT hS 0 rfl (by omega) (fun _ _ => trivial) dX11_readsMatrix_156 (fun H locs hT hS => ?_)
              obtain ⟨v50, e_v50⟩ : ∃ x : Int32, x = y41 + Int32.ofInt 1 := ⟨_, rfl⟩
              have f_v50 := e_v50.symm
              have e_v50 : v50.toInt = y41.toInt + 1 := ai_add e_v50 rfl (show (Int32.ofInt 1).toInt = 1 from (by decide +kernel)) (by omega)
              refine lv_iinc (v := v50) (lv' := [(1, .int v50), (0, .ref h0)]) hx hb dX11_readsMatrix_157 hl (k := 1) rfl f_v50 (by decide) rfl (fun ls hl => ?_)
              refine lv_goto (tgt := 130) hx hb dX11_readsMatrix_160 (by decide) ?_
              exact ih130_43 v50 y42 _ _ _ (by omega) (by omega)  (by omega) hT hS (lv_sub hl [1, 0] rfl)
        refine lv_iload_n hx hb dX11_readsMatrix_20 rfl (lv_at hl 1 rfl) ?_
        refine lv_aload_n hx hb dX11_readsMatrix_21 rfl (lv_at hl 0 rfl) ?_
        refine tz_get (ci := 8) (v := .int h0f0) (C := RX11) (F := TX11) (N := 36) hx hb hU iX11 hown hK hT 2 rfl rfl 0 (by decide) w785 (fun _ h9 => h9) rfl dX11_readsMatrix_22 ?_
        refine lv_icmp_ge (tgt := 79) hx hb dX11_readsMatrix_25 (by decide) (fun c_51 => ?_) (fun c_51 => ?_)
        · skip
          have c_51 := ni_le c_51 rfl rfl
          refine lv_aload_n hx hb dX11_readsMatrix_79 rfl (lv_at hl 0 rfl) ?_
          refine tcI (Tc := [(h0, ob 8 [.int h0f0, .int h0f1, .int h0f2, .int h0f3, .int h0f4, .int h0f5, .ref h1, .ref h2, .int h0f8, .int h0f9, .ref h3, .ref h4, .ref h5, .ref h6, .ref h7, .ref h8, .ref h9, .int h0f17, .int y8, .int h0f19, .ref h10, .ref h11, .ref h12, .ref h13, .int h0f24, .int h0f25, .ref h14, .ref h15, .ref h16, .ref h17, .int h0f30, .int h0f31, .ref h18, .ref h19, .ref h20, .ref h21]), (h8, aI (k 0) 120 anI)]) (Tr := [(h9, aI (k 0) 36 anI), (h3, aJ (k 1) 9 anJ)]) (as := [h0, h8]) (zcV (q0 := 2) (ci := 8) (As := []) (rest := []) (Tc := [(h0, ob 8 [.int h0f0, .int h0f1, .int h0f2, .int h0f3, .int h0f4, .int h0f5, .ref h1, .ref h2, .int h0f8, .int h0f9, .ref h3, .ref h4, .ref h5, .ref h6, .ref h7, .ref h8, .ref h9, .int h0f17, .int y8, .int h0f19, .ref h10, .ref h11, .ref h12, .ref h13, .int h0f24, .int h0f25, .ref h14, .ref h15, .ref h16, .ref h17, .int h0f30, .int h0f31, .ref h18, .ref h19, .ref h20, .ref h21]), (h8, aI (k 0) 120 anI)]) hx hb hml hown hU hK hT rfl rfl [2, 0] rfl (by decide) (cX11_here_78e70 l D k _ h0 h8 h1 h2 h3 h4 h5 h6 h7 h9 h10 h11 h12 h13 h14 h15 h16 h17 h18 h19 h20 h21 h0f0 h0f1 h0f2 h0f3 h0f4 h0f5 h0f8 h0f9 h0f17 y8 h0f19 h0f24 h0f25 h0f30 h0f31 (by omega) (by omega) (by omega) (by omega) (by omega) (by omega) (by omega) (by omega) (by omega) (by omega) (by omega) (by omega) (by omega) (by omega) (by omega)) w1013 w1010 w1012 w42 w72 hdX11_here ⟨rfl, rfl⟩ ⟨Nat.le_of_ble_eq_true rfl, Nat.le_of_ble_eq_true rfl⟩ rfl hl.1 (Nat.le_of_ble_eq_true rfl) dX11_readsMatrix_80 ⟨Nat.le_of_ble_eq_true rfl, Nat.le_of_ble_eq_true rfl⟩) hT hS hA [2, 0] [1, 3] rfl rfl rfl (by decide) (by decide) (fun r52 H locs hB J hS => ?_)
          rcases hB with ⟨v53, b_v53, c_54, c_55, c_56, rfl, hT1⟩ | ⟨v57, v58, b_v57, c_59, c_60, c_61, c_62, rfl, hT1⟩ | ⟨v63, v64, b_v63, c_65, c_66, c_67, c_68, c_69, rfl, hT1⟩ | ⟨v70, v71, v72, b_v70, c_73, c_74, c_75, c_76, rfl, hT1⟩
          · skip
            have hT := J _ hT1
            have hT : TP D A [(h9, aI (k 0) 36 anI), (h3, aJ (k 1) 9 anJ), (h0, ob 8 [.int h0f0, .int h0f1, .int h0f2, .int h0f3, .int h0f4, .int h0f5, .ref h1, .ref h2, .int h0f8, .int h0f9, .ref h3, .ref h4, .ref h5, .ref h6, .ref h7, .ref h8, .ref h9, .int h0f17, .int v53, .int h0f19, .ref h10, .ref h11, .ref h12, .ref h13, .int h0f24, .int h0f25, .ref h14, .ref h15, .ref h16, .ref h17, .int h0f30, .int h0f31, .ref h18, .ref h19, .ref h20, .ref h21]), (h8, aI (k 0) 120 anI)] _ := hT
            refine lv_bipush (v := 59) hx hb dX11_readsMatrix_83 (by decide) ?_
            refine lv_icmp_ne (tgt := 116) hx hb dX11_readsMatrix_85 (by decide) (fun _ => ?_) (fun cc => absurd cc (by decide +kernel))
            refine lv_iconst (v := 0) hx hb dX11_readsMatrix_116 (by decide) ?_
            exact tz_retZ (B := B_cX11_readsMatrix_5491f D k h0 h3 h8 h9 h1 h2 h4 h5 h6 h7 h10 h11 h12 h13 h14 h15 h16 h17 h18 h19 h20 h21 h0f0 h0f1 h0f2 h0f3 h0f4 h0f5 h0f8 h0f9 h0f17 h0f18 h0f19 h0f24 h0f25 h0f30 h0f31) (v := 0) hQ hx hb hr hlocks hS (Nat.le_of_ble_eq_true rfl) (Nat.le_of_ble_eq_true rfl) dX11_readsMatrix_117 (by have := li_0; omega) (Or.inl ⟨v53, (by have := li_0; omega), rfl, (hT.sub [2, 1, 3, 0] (by decide) rfl)⟩)
          · skip
            have hT := J _ hT1
            have hT : TP D A [(h9, aI (k 0) 36 anI), (h3, aJ (k 1) 9 anJ), (h0, ob 8 [.int h0f0, .int h0f1, .int h0f2, .int h0f3, .int h0f4, .int h0f5, .ref h1, .ref h2, .int h0f8, .int h0f9, .ref h3, .ref h4, .ref h5, .ref h6, .ref h7, .ref h8, .ref h9, .int h0f17, .int v57, .int h0f19, .ref h10, .ref h11, .ref h12, .ref h13, .int h0f24, .int h0f25, .ref h14, .ref h15, .ref h16, .ref h17, .int h0f30, .int h0f31, .ref h18, .ref h19, .ref h20, .ref h21]), (h8, aI (k 0) 120 anI)] _ := hT
            refine lv_bipush (v := 59) hx hb dX11_readsMatrix_83 (by decide) ?_
            refine lv_icmp_ne (tgt := 116) hx hb dX11_readsMatrix_85 (by decide) (fun c_77 => ?_) (fun c_77 => ?_)
            · skip
              have c_77 := ni_ne c_77 rfl li_59
              refine lv_iconst (v := 0) hx hb dX11_readsMatrix_116 (by decide) ?_
              exact tz_retZ (B := B_cX11_readsMatrix_5491f D k h0 h3 h8 h9 h1 h2 h4 h5 h6 h7 h10 h11 h12 h13 h14 h15 h16 h17 h18 h19 h20 h21 h0f0 h0f1 h0f2 h0f3 h0f4 h0f5 h0f8 h0f9 h0f17 h0f18 h0f19 h0f24 h0f25 h0f30 h0f31) (v := 0) hQ hx hb hr hlocks hS (Nat.le_of_ble_eq_true rfl) (Nat.le_of_ble_eq_true rfl) dX11_readsMatrix_117 (by have := li_0; omega) (Or.inl ⟨v57, (by have := li_0; omega), rfl, (hT.sub [2, 1, 3, 0] (by decide) rfl)⟩)
            · skip
              have c_77 := ni_eq c_77 rfl li_59
              refine lv_aload_n hx hb dX11_readsMatrix_88 rfl (lv_at hl 0 rfl) ?_
              refine lv_aload_n hx hb dX11_readsMatrix_89 rfl (lv_at hl 0 rfl) ?_
              refine tz_get (ci := 8) (v := .ref h3) (C := RX11) (F := TX11) (N := 36) hx hb hU iX11 hown hK hT 2 rfl rfl 10 (by decide) w795 (fun _ h9 => h9) rfl dX11_readsMatrix_90 ?_
              refine tcL (Tc := [(h0, ob 8 [.int h0f0, .int h0f1, .int h0f2, .int h0f3, .int h0f4, .int h0f5, .ref h1, .ref h2, .int h0f8, .int h0f9, .ref h3, .ref h4, .ref h5, .ref h6, .ref h7, .ref h8, .ref h9, .int h0f17, .int v57, .int h0f19, .ref h10, .ref h11, .ref h12, .ref h13, .int h0f24, .int h0f25, .ref h14, .ref h15, .ref h16, .ref h17, .int h0f30, .int h0f31, .ref h18, .ref h19, .ref h20, .ref h21]), (h3, aJ (k 1) 9 anJ)]) (Tr := [(h9, aI (k 0) 36 anI), (h8, aI (k 0) 120 anI)]) (as := [h0, h3]) (zcV (q0 := 2) (ci := 8) (As := [.ref h3]) (rest := []) (Tc := [(h0, ob 8 [.int h0f0, .int h0f1, .int h0f2, .int h0f3, .int h0f4, .int h0f5, .ref h1, .ref h2, .int h0f8, .int h0f9, .ref h3, .ref h4, .ref h5, .ref h6, .ref h7, .ref h8, .ref h9, .int h0f17, .int v57, .int h0f19, .ref h10, .ref h11, .ref h12, .ref h13, .int h0f24, .int h0f25, .ref h14, .ref h15, .ref h16, .ref h17, .int h0f30, .int h0f31, .ref h18, .ref h19, .ref h20, .ref h21]), (h3, aJ (k 1) 9 anJ)]) hx hb hml hown hU hK hT rfl rfl [2, 1] rfl (by decide) (cX11_det_62049 l D k _ h0 h3 h1 h2 h4 h5 h6 h7 h8 h9 h10 h11 h12 h13 h14 h15 h16 h17 h18 h19 h20 h21 h0f0 h0f1 h0f2 h0f3 h0f4 h0f5 h0f8 h0f9 h0f17 v57 h0f19 h0f24 h0f25 h0f30 h0f31 (by omega) (by omega) (by omega) (by omega) (by omega) (by omega) (by omega) (by omega) (by omega) (by omega) (by omega) (by omega) (by omega) (by omega) (by omega)) w952 w949 w951 w35 w72 hdX11_det ⟨rfl, rfl⟩ ⟨Nat.le_of_ble_eq_true rfl, Nat.le_of_ble_eq_true rfl⟩ rfl hl.1 (Nat.le_of_ble_eq_true rfl) dX11_readsMatrix_93 ⟨Nat.le_of_ble_eq_true rfl, Nat.le_of_ble_eq_true rfl⟩) hT hS hA [2, 1] [0, 3] rfl rfl rfl (by decide) (by decide) (fun r78 H locs hB J hS => ?_)
              have hT1 := hB
              have hT := J _ hT1
              have hT : TP D A [(h9, aI (k 0) 36 anI), (h8, aI (k 0) 120 anI), (h0, ob 8 [.int h0f0, .int h0f1, .int h0f2, .int h0f3, .int h0f4, .int h0f5, .ref h1, .ref h2, .int h0f8, .int h0f9, .ref h3, .ref h4, .ref h5, .ref h6, .ref h7, .ref h8, .ref h9, .int h0f17, .int v57, .int h0f19, .ref h10, .ref h11, .ref h12, .ref h13, .int h0f24, .int h0f25, .ref h14, .ref h15, .ref h16, .ref h17, .int h0f30, .int h0f31, .ref h18, .ref h19, .ref h20, .ref h21]), (h3, aJ (k 1) 9 anJ)] _ := hT
              refine lv_lconst (v := 1) hx hb dX11_readsMatrix_96 (by decide) ?_
              refine W.lcmp hx hb dX11_readsMatrix_97 ?_
              refine lv_if_eq (tgt := 118) hx hb dX11_readsMatrix_98 (by decide) (fun c_79 => ?_) (fun c_79 => ?_)
              · skip
                have c_79 := nl_eq c_79 rfl ll_1
                refine lv_aload_n hx hb dX11_readsMatrix_118 rfl (lv_at hl 0 rfl) ?_
                refine lv_dup hx hb dX11_readsMatrix_119 rfl ?_
                refine tz_get (ci := 8) (v := .int v57) (C := RX11) (F := TX11) (N := 36) hx hb hU iX11 hown hK hT 2 rfl rfl 18 (by decide) w803 (fun _ h9 => h9) rfl dX11_readsMatrix_120 ?_
                refine lv_iconst (v := 1) hx hb dX11_readsMatrix_123 (by decide) ?_
                refine lv_iadd hx hb dX11_readsMatrix_124 (lv_topi (fun v80 e_v80 => ?_))
                have e_v80 := ai_add e_v80 rfl li_1 (by omega)
                refine tz_put (ci := 8) (v := .int v80) (ty := .int) (C := RX11) (F := TX11) (N := 36) hx hb hU iX11 tyX11 tyX11_ok nmX11 hown hK hT hS 2 rfl rfl 18 (by decide) w803 (fun _ h9 => h9) rfl (by decide +kernel) rfl rfl (Nat.le_of_ble_eq_true rfl) dX11_readsMatrix_125 (fun H locs hT hS => ?_)
                have hT : TP D A [(h9, aI (k 0) 36 anI), (h8, aI (k 0) 120 anI), (h0, ob 8 [.int h0f0, .int h0f1, .int h0f2, .int h0f3, .int h0f4, .int h0f5, .ref h1, .ref h2, .int h0f8, .int h0f9, .ref h3, .ref h4, .ref h5, .ref h6, .ref h7, .ref h8, .ref h9, .int h0f17, .int v80, .int h0f19, .ref h10, .ref h11, .ref h12, .ref h13, .int h0f24, .int h0f25, .ref h14, .ref h15, .ref h16, .ref h17, .int h0f30, .int h0f31, .ref h18, .ref h19, .ref h20, .ref h21]), (h3, aJ (k 1) 9 anJ)] _ := hT
                refine lv_iconst (v := 0) hx hb dX11_readsMatrix_128 (by decide) ?_
                refine lv_istore_n (lv' := [(1, .int 0), (0, .ref h0)]) hx hb dX11_readsMatrix_129 rfl hl (by decide) rfl (fun ls hl => ?_)
                exact lp130_43 (((-1) * (0 : Int32).toInt + 9 + 1).toNat + 1) (0) v80 _ _ _ (by have := li_0; omega) (by have := li_0; omega)  (Nat.lt_succ_self _) hT hS (lv_sub hl [1, 0] rfl)
              · skip
                have c_79 := nl_ne c_79 rfl ll_1
                refine lv_aload_n hx hb dX11_readsMatrix_101 rfl (lv_at hl 0 rfl) ?_
                refine lv_aload_n hx hb dX11_readsMatrix_102 rfl (lv_at hl 0 rfl) ?_
                refine tz_get (ci := 8) (v := .ref h3) (C := RX11) (F := TX11) (N := 36) hx hb hU iX11 hown hK hT 2 rfl rfl 10 (by decide) w795 (fun _ h9 => h9) rfl dX11_readsMatrix_103 ?_
                refine tcL (Tc := [(h0, ob 8 [.int h0f0, .int h0f1, .int h0f2, .int h0f3, .int h0f4, .int h0f5, .ref h1, .ref h2, .int h0f8, .int h0f9, .ref h3, .ref h4, .ref h5, .ref h6, .ref h7, .ref h8, .ref h9, .int h0f17, .int v57, .int h0f19, .ref h10, .ref h11, .ref h12, .ref h13, .int h0f24, .int h0f25, .ref h14, .ref h15, .ref h16, .ref h17, .int h0f30, .int h0f31, .ref h18, .ref h19, .ref h20, .ref h21]), (h3, aJ (k 1) 9 anJ)]) (Tr := [(h9, aI (k 0) 36 anI), (h8, aI (k 0) 120 anI)]) (as := [h0, h3]) (zcV (q0 := 2) (ci := 8) (As := [.ref h3]) (rest := []) (Tc := [(h0, ob 8 [.int h0f0, .int h0f1, .int h0f2, .int h0f3, .int h0f4, .int h0f5, .ref h1, .ref h2, .int h0f8, .int h0f9, .ref h3, .ref h4, .ref h5, .ref h6, .ref h7, .ref h8, .ref h9, .int h0f17, .int v57, .int h0f19, .ref h10, .ref h11, .ref h12, .ref h13, .int h0f24, .int h0f25, .ref h14, .ref h15, .ref h16, .ref h17, .int h0f30, .int h0f31, .ref h18, .ref h19, .ref h20, .ref h21]), (h3, aJ (k 1) 9 anJ)]) hx hb hml hown hU hK hT rfl rfl [2, 3] rfl (by decide) (cX11_det_62049 l D k _ h0 h3 h1 h2 h4 h5 h6 h7 h8 h9 h10 h11 h12 h13 h14 h15 h16 h17 h18 h19 h20 h21 h0f0 h0f1 h0f2 h0f3 h0f4 h0f5 h0f8 h0f9 h0f17 v57 h0f19 h0f24 h0f25 h0f30 h0f31 (by omega) (by omega) (by omega) (by omega) (by omega) (by omega) (by omega) (by omega) (by omega) (by omega) (by omega) (by omega) (by omega) (by omega) (by omega)) w952 w949 w951 w35 w72 hdX11_det ⟨rfl, rfl⟩ ⟨Nat.le_of_ble_eq_true rfl, Nat.le_of_ble_eq_true rfl⟩ rfl hl.1 (Nat.le_of_ble_eq_true rfl) dX11_readsMatrix_106 ⟨Nat.le_of_ble_eq_true rfl, Nat.le_of_ble_eq_true rfl⟩) hT hS hA [2, 3] [0, 1] rfl rfl rfl (by decide) (by decide) (fun r81 H locs hB J hS => ?_)
                have hT1 := hB
                have hT := J _ hT1
                have hT : TP D A [(h9, aI (k 0) 36 anI), (h8, aI (k 0) 120 anI), (h0, ob 8 [.int h0f0, .int h0f1, .int h0f2, .int h0f3, .int h0f4, .int h0f5, .ref h1, .ref h2, .int h0f8, .int h0f9, .ref h3, .ref h4, .ref h5, .ref h6, .ref h7, .ref h8, .ref h9, .int h0f17, .int v57, .int h0f19, .ref h10, .ref h11, .ref h12, .ref h13, .int h0f24, .int h0f25, .ref h14, .ref h15, .ref h16, .ref h17, .int h0f30, .int h0f31, .ref h18, .ref h19, .ref h20, .ref h21]), (h3, aJ (k 1) 9 anJ)] _ := hT
                refine lv_ldc2 hx hb hown (hU _ w944) dX11_readsMatrix_109 ?_
                refine W.lcmp hx hb dX11_readsMatrix_112 ?_
                refine lv_if_eq (tgt := 118) hx hb dX11_readsMatrix_113 (by decide) (fun c_82 => ?_) (fun c_82 => ?_)
                · skip
                  have c_82 := nl_eq c_82 rfl ll_m1
                  refine lv_aload_n hx hb dX11_readsMatrix_118 rfl (lv_at hl 0 rfl) ?_
                  refine lv_dup hx hb dX11_readsMatrix_119 rfl ?_
                  refine tz_get (ci := 8) (v := .int v57) (C := RX11) (F := TX11) (N := 36) hx hb hU iX11 hown hK hT 2 rfl rfl 18 (by decide) w803 (fun _ h9 => h9) rfl dX11_readsMatrix_120 ?_
                  refine lv_iconst (v := 1) hx hb dX11_readsMatrix_123 (by decide) ?_
                  refine lv_iadd hx hb dX11_readsMatrix_124 (lv_topi (fun v83 e_v83 => ?_))
                  have e_v83 := ai_add e_v83 rfl li_1 (by omega)
                  refine tz_put (ci := 8) (v := .int v83) (ty := .int) (C := RX11) (F := TX11) (N := 36) hx hb hU iX11 tyX11 tyX11_ok nmX11 hown hK hT hS 2 rfl rfl 18 (by decide) w803 (fun _ h9 => h9) rfl (by decide +kernel) rfl rfl (Nat.le_of_ble_eq_true rfl) dX11_readsMatrix_125 (fun H locs hT hS => ?_)
                  have hT : TP D A [(h9, aI (k 0) 36 anI), (h8, aI (k 0) 120 anI), (h0, ob 8 [.int h0f0, .int h0f1, .int h0f2, .int h0f3, .int h0f4, .int h0f5, .ref h1, .ref h2, .int h0f8, .int h0f9, .ref h3, .ref h4, .ref h5, .ref h6, .ref h7, .ref h8, .ref h9, .int h0f17, .int v83, .int h0f19, .ref h10, .ref h11, .ref h12, .ref h13, .int h0f24, .int h0f25, .ref h14, .ref h15, .ref h16, .ref h17, .int h0f30, .int h0f31, .ref h18, .ref h19, .ref h20, .ref h21]), (h3, aJ (k 1) 9 anJ)] _ := hT
                  refine lv_iconst (v := 0) hx hb dX11_readsMatrix_128 (by decide) ?_
                  refine lv_istore_n (lv' := [(1, .int 0), (0, .ref h0)]) hx hb dX11_readsMatrix_129 rfl hl (by decide) rfl (fun ls hl => ?_)
                  exact lp130_43 (((-1) * (0 : Int32).toInt + 9 + 1).toNat + 1) (0) v83 _ _ _ (by have := li_0; omega) (by have := li_0; omega)  (Nat.lt_succ_self _) hT hS (lv_sub hl [1, 0] rfl)
                · skip
                  have c_82 := nl_ne c_82 rfl ll_m1
                  refine lv_iconst (v := 0) hx hb dX11_readsMatrix_116 (by decide) ?_
                  exact tz_retZ (B := B_cX11_readsMatrix_5491f D k h0 h3 h8 h9 h1 h2 h4 h5 h6 h7 h10 h11 h12 h13 h14 h15 h16 h17 h18 h19 h20 h21 h0f0 h0f1 h0f2 h0f3 h0f4 h0f5 h0f8 h0f9 h0f17 h0f18 h0f19 h0f24 h0f25 h0f30 h0f31) (v := 0) hQ hx hb hr hlocks hS (Nat.le_of_ble_eq_true rfl) (Nat.le_of_ble_eq_true rfl) dX11_readsMatrix_117 (by have := li_0; omega) (Or.inl ⟨v57, (by have := li_0; omega), rfl, (hT.sub [2, 3, 1, 0] (by decide) rfl)⟩)
          · skip
            have hT := J _ hT1
            have hT : TP D A [(h9, aI (k 0) 36 anI), (h3, aJ (k 1) 9 anJ), (h0, ob 8 [.int h0f0, .int h0f1, .int h0f2, .int h0f3, .int h0f4, .int h0f5, .ref h1, .ref h2, .int h0f8, .int h0f9, .ref h3, .ref h4, .ref h5, .ref h6, .ref h7, .ref h8, .ref h9, .int h0f17, .int v63, .int h0f19, .ref h10, .ref h11, .ref h12, .ref h13, .int h0f24, .int h0f25, .ref h14, .ref h15, .ref h16, .ref h17, .int h0f30, .int h0f31, .ref h18, .ref h19, .ref h20, .ref h21]), (h8, aI (k 0) 120 anI)] _ := hT
            refine lv_bipush (v := 59) hx hb dX11_readsMatrix_83 (by decide) ?_
            refine lv_icmp_ne (tgt := 116) hx hb dX11_readsMatrix_85 (by decide) (fun _ => ?_) (fun cc => absurd cc (by decide +kernel))
            refine lv_iconst (v := 0) hx hb dX11_readsMatrix_116 (by decide) ?_
            exact tz_retZ (B := B_cX11_readsMatrix_5491f D k h0 h3 h8 h9 h1 h2 h4 h5 h6 h7 h10 h11 h12 h13 h14 h15 h16 h17 h18 h19 h20 h21 h0f0 h0f1 h0f2 h0f3 h0f4 h0f5 h0f8 h0f9 h0f17 h0f18 h0f19 h0f24 h0f25 h0f30 h0f31) (v := 0) hQ hx hb hr hlocks hS (Nat.le_of_ble_eq_true rfl) (Nat.le_of_ble_eq_true rfl) dX11_readsMatrix_117 (by have := li_0; omega) (Or.inl ⟨v63, (by have := li_0; omega), rfl, (hT.sub [2, 1, 3, 0] (by decide) rfl)⟩)
          · skip
            have hT := J _ hT1
            have hT : TP D A [(h9, aI (k 0) 36 anI), (h3, aJ (k 1) 9 anJ), (h0, ob 8 [.int h0f0, .int h0f1, .int h0f2, .int h0f3, .int h0f4, .int h0f5, .ref h1, .ref h2, .int h0f8, .int h0f9, .ref h3, .ref h4, .ref h5, .ref h6, .ref h7, .ref h8, .ref h9, .int h0f17, .int v70, .int h0f19, .ref h10, .ref h11, .ref h12, .ref h13, .int h0f24, .int h0f25, .ref h14, .ref h15, .ref h16, .ref h17, .int h0f30, .int h0f31, .ref h18, .ref h19, .ref h20, .ref h21]), (h8, aI (k 0) 120 anI)] _ := hT
            refine lv_bipush (v := 59) hx hb dX11_readsMatrix_83 (by decide) ?_
            refine lv_icmp_ne (tgt := 116) hx hb dX11_readsMatrix_85 (by decide) (fun c_84 => ?_) (fun c_84 => ?_)
            · skip
              have c_84 := ni_ne c_84 rfl li_59
              refine lv_iconst (v := 0) hx hb dX11_readsMatrix_116 (by decide) ?_
              exact tz_retZ (B := B_cX11_readsMatrix_5491f D k h0 h3 h8 h9 h1 h2 h4 h5 h6 h7 h10 h11 h12 h13 h14 h15 h16 h17 h18 h19 h20 h21 h0f0 h0f1 h0f2 h0f3 h0f4 h0f5 h0f8 h0f9 h0f17 h0f18 h0f19 h0f24 h0f25 h0f30 h0f31) (v := 0) hQ hx hb hr hlocks hS (Nat.le_of_ble_eq_true rfl) (Nat.le_of_ble_eq_true rfl) dX11_readsMatrix_117 (by have := li_0; omega) (Or.inl ⟨v70, (by have := li_0; omega), rfl, (hT.sub [2, 1, 3, 0] (by decide) rfl)⟩)
            · skip
              have c_84 := ni_eq c_84 rfl li_59
              refine lv_aload_n hx hb dX11_readsMatrix_88 rfl (lv_at hl 0 rfl) ?_
              refine lv_aload_n hx hb dX11_readsMatrix_89 rfl (lv_at hl 0 rfl) ?_
              refine tz_get (ci := 8) (v := .ref h3) (C := RX11) (F := TX11) (N := 36) hx hb hU iX11 hown hK hT 2 rfl rfl 10 (by decide) w795 (fun _ h9 => h9) rfl dX11_readsMatrix_90 ?_
              refine tcL (Tc := [(h0, ob 8 [.int h0f0, .int h0f1, .int h0f2, .int h0f3, .int h0f4, .int h0f5, .ref h1, .ref h2, .int h0f8, .int h0f9, .ref h3, .ref h4, .ref h5, .ref h6, .ref h7, .ref h8, .ref h9, .int h0f17, .int v70, .int h0f19, .ref h10, .ref h11, .ref h12, .ref h13, .int h0f24, .int h0f25, .ref h14, .ref h15, .ref h16, .ref h17, .int h0f30, .int h0f31, .ref h18, .ref h19, .ref h20, .ref h21]), (h3, aJ (k 1) 9 anJ)]) (Tr := [(h9, aI (k 0) 36 anI), (h8, aI (k 0) 120 anI)]) (as := [h0, h3]) (zcV (q0 := 2) (ci := 8) (As := [.ref h3]) (rest := []) (Tc := [(h0, ob 8 [.int h0f0, .int h0f1, .int h0f2, .int h0f3, .int h0f4, .int h0f5, .ref h1, .ref h2, .int h0f8, .int h0f9, .ref h3, .ref h4, .ref h5, .ref h6, .ref h7, .ref h8, .ref h9, .int h0f17, .int v70, .int h0f19, .ref h10, .ref h11, .ref h12, .ref h13, .int h0f24, .int h0f25, .ref h14, .ref h15, .ref h16, .ref h17, .int h0f30, .int h0f31, .ref h18, .ref h19, .ref h20, .ref h21]), (h3, aJ (k 1) 9 anJ)]) hx hb hml hown hU hK hT rfl rfl [2, 1] rfl (by decide) (cX11_det_62049 l D k _ h0 h3 h1 h2 h4 h5 h6 h7 h8 h9 h10 h11 h12 h13 h14 h15 h16 h17 h18 h19 h20 h21 h0f0 h0f1 h0f2 h0f3 h0f4 h0f5 h0f8 h0f9 h0f17 v70 h0f19 h0f24 h0f25 h0f30 h0f31 (by omega) (by omega) (by omega) (by omega) (by omega) (by omega) (by omega) (by omega) (by omega) (by omega) (by omega) (by omega) (by omega) (by omega) (by omega)) w952 w949 w951 w35 w72 hdX11_det ⟨rfl, rfl⟩ ⟨Nat.le_of_ble_eq_true rfl, Nat.le_of_ble_eq_true rfl⟩ rfl hl.1 (Nat.le_of_ble_eq_true rfl) dX11_readsMatrix_93 ⟨Nat.le_of_ble_eq_true rfl, Nat.le_of_ble_eq_true rfl⟩) hT hS hA [2, 1] [0, 3] rfl rfl rfl (by decide) (by decide) (fun r85 H locs hB J hS => ?_)
              have hT1 := hB
              have hT := J _ hT1
              have hT : TP D A [(h9, aI (k 0) 36 anI), (h8, aI (k 0) 120 anI), (h0, ob 8 [.int h0f0, .int h0f1, .int h0f2, .int h0f3, .int h0f4, .int h0f5, .ref h1, .ref h2, .int h0f8, .int h0f9, .ref h3, .ref h4, .ref h5, .ref h6, .ref h7, .ref h8, .ref h9, .int h0f17, .int v70, .int h0f19, .ref h10, .ref h11, .ref h12, .ref h13, .int h0f24, .int h0f25, .ref h14, .ref h15, .ref h16, .ref h17, .int h0f30, .int h0f31, .ref h18, .ref h19, .ref h20, .ref h21]), (h3, aJ (k 1) 9 anJ)] _ := hT
              refine lv_lconst (v := 1) hx hb dX11_readsMatrix_96 (by decide) ?_
              refine W.lcmp hx hb dX11_readsMatrix_97 ?_
              refine lv_if_eq (tgt := 118) hx hb dX11_readsMatrix_98 (by decide) (fun c_86 => ?_) (fun c_86 => ?_)
              · skip
                have c_86 := nl_eq c_86 rfl ll_1
                refine lv_aload_n hx hb dX11_readsMatrix_118 rfl (lv_at hl 0 rfl) ?_
                refine lv_dup hx hb dX11_readsMatrix_119 rfl ?_
                refine tz_get (ci := 8) (v := .int v70) (C := RX11) (F := TX11) (N := 36) hx hb hU iX11 hown hK hT 2 rfl rfl 18 (by decide) w803 (fun _ h9 => h9) rfl dX11_readsMatrix_120 ?_
                refine lv_iconst (v := 1) hx hb dX11_readsMatrix_123 (by decide) ?_
                refine lv_iadd hx hb dX11_readsMatrix_124 (lv_topi (fun v87 e_v87 => ?_))
                have e_v87 := ai_add e_v87 rfl li_1 (by omega)
                refine tz_put (ci := 8) (v := .int v87) (ty := .int) (C := RX11) (F := TX11) (N := 36) hx hb hU iX11 tyX11 tyX11_ok nmX11 hown hK hT hS 2 rfl rfl 18 (by decide) w803 (fun _ h9 => h9) rfl (by decide +kernel) rfl rfl (Nat.le_of_ble_eq_true rfl) dX11_readsMatrix_125 (fun H locs hT hS => ?_)
                have hT : TP D A [(h9, aI (k 0) 36 anI), (h8, aI (k 0) 120 anI), (h0, ob 8 [.int h0f0, .int h0f1, .int h0f2, .int h0f3, .int h0f4, .int h0f5, .ref h1, .ref h2, .int h0f8, .int h0f9, .ref h3, .ref h4, .ref h5, .ref h6, .ref h7, .ref h8, .ref h9, .int h0f17, .int v87, .int h0f19, .ref h10, .ref h11, .ref h12, .ref h13, .int h0f24, .int h0f25, .ref h14, .ref h15, .ref h16, .ref h17, .int h0f30, .int h0f31, .ref h18, .ref h19, .ref h20, .ref h21]), (h3, aJ (k 1) 9 anJ)] _ := hT
                refine lv_iconst (v := 0) hx hb dX11_readsMatrix_128 (by decide) ?_
                refine lv_istore_n (lv' := [(1, .int 0), (0, .ref h0)]) hx hb dX11_readsMatrix_129 rfl hl (by decide) rfl (fun ls hl => ?_)
                exact lp130_43 (((-1) * (0 : Int32).toInt + 9 + 1).toNat + 1) (0) v87 _ _ _ (by have := li_0; omega) (by have := li_0; omega)  (Nat.lt_succ_self _) hT hS (lv_sub hl [1, 0] rfl)
              · skip
                have c_86 := nl_ne c_86 rfl ll_1
                refine lv_aload_n hx hb dX11_readsMatrix_101 rfl (lv_at hl 0 rfl) ?_
                refine lv_aload_n hx hb dX11_readsMatrix_102 rfl (lv_at hl 0 rfl) ?_
                refine tz_get (ci := 8) (v := .ref h3) (C := RX11) (F := TX11) (N := 36) hx hb hU iX11 hown hK hT 2 rfl rfl 10 (by decide) w795 (fun _ h9 => h9) rfl dX11_readsMatrix_103 ?_
                refine tcL (Tc := [(h0, ob 8 [.int h0f0, .int h0f1, .int h0f2, .int h0f3, .int h0f4, .int h0f5, .ref h1, .ref h2, .int h0f8, .int h0f9, .ref h3, .ref h4, .ref h5, .ref h6, .ref h7, .ref h8, .ref h9, .int h0f17, .int v70, .int h0f19, .ref h10, .ref h11, .ref h12, .ref h13, .int h0f24, .int h0f25, .ref h14, .ref h15, .ref h16, .ref h17, .int h0f30, .int h0f31, .ref h18, .ref h19, .ref h20, .ref h21]), (h3, aJ (k 1) 9 anJ)]) (Tr := [(h9, aI (k 0) 36 anI), (h8, aI (k 0) 120 anI)]) (as := [h0, h3]) (zcV (q0 := 2) (ci := 8) (As := [.ref h3]) (rest := []) (Tc := [(h0, ob 8 [.int h0f0, .int h0f1, .int h0f2, .int h0f3, .int h0f4, .int h0f5, .ref h1, .ref h2, .int h0f8, .int h0f9, .ref h3, .ref h4, .ref h5, .ref h6, .ref h7, .ref h8, .ref h9, .int h0f17, .int v70, .int h0f19, .ref h10, .ref h11, .ref h12, .ref h13, .int h0f24, .int h0f25, .ref h14, .ref h15, .ref h16, .ref h17, .int h0f30, .int h0f31, .ref h18, .ref h19, .ref h20, .ref h21]), (h3, aJ (k 1) 9 anJ)]) hx hb hml hown hU hK hT rfl rfl [2, 3] rfl (by decide) (cX11_det_62049 l D k _ h0 h3 h1 h2 h4 h5 h6 h7 h8 h9 h10 h11 h12 h13 h14 h15 h16 h17 h18 h19 h20 h21 h0f0 h0f1 h0f2 h0f3 h0f4 h0f5 h0f8 h0f9 h0f17 v70 h0f19 h0f24 h0f25 h0f30 h0f31 (by omega) (by omega) (by omega) (by omega) (by omega) (by omega) (by omega) (by omega) (by omega) (by omega) (by omega) (by omega) (by omega) (by omega) (by omega)) w952 w949 w951 w35 w72 hdX11_det ⟨rfl, rfl⟩ ⟨Nat.le_of_ble_eq_true rfl, Nat.le_of_ble_eq_true rfl⟩ rfl hl.1 (Nat.le_of_ble_eq_true rfl) dX11_readsMatrix_106 ⟨Nat.le_of_ble_eq_true rfl, Nat.le_of_ble_eq_true rfl⟩) hT hS hA [2, 3] [0, 1] rfl rfl rfl (by decide) (by decide) (fun r88 H locs hB J hS => ?_)
                have hT1 := hB
                have hT := J _ hT1
                have hT : TP D A [(h9, aI (k 0) 36 anI), (h8, aI (k 0) 120 anI), (h0, ob 8 [.int h0f0, .int h0f1, .int h0f2, .int h0f3, .int h0f4, .int h0f5, .ref h1, .ref h2, .int h0f8, .int h0f9, .ref h3, .ref h4, .ref h5, .ref h6, .ref h7, .ref h8, .ref h9, .int h0f17, .int v70, .int h0f19, .ref h10, .ref h11, .ref h12, .ref h13, .int h0f24, .int h0f25, .ref h14, .ref h15, .ref h16, .ref h17, .int h0f30, .int h0f31, .ref h18, .ref h19, .ref h20, .ref h21]), (h3, aJ (k 1) 9 anJ)] _ := hT
                refine lv_ldc2 hx hb hown (hU _ w944) dX11_readsMatrix_109 ?_
                refine W.lcmp hx hb dX11_readsMatrix_112 ?_
                refine lv_if_eq (tgt := 118) hx hb dX11_readsMatrix_113 (by decide) (fun c_89 => ?_) (fun c_89 => ?_)
                · skip
                  have c_89 := nl_eq c_89 rfl ll_m1
                  refine lv_aload_n hx hb dX11_readsMatrix_118 rfl (lv_at hl 0 rfl) ?_
                  refine lv_dup hx hb dX11_readsMatrix_119 rfl ?_
                  refine tz_get (ci := 8) (v := .int v70) (C := RX11) (F := TX11) (N := 36) hx hb hU iX11 hown hK hT 2 rfl rfl 18 (by decide) w803 (fun _ h9 => h9) rfl dX11_readsMatrix_120 ?_
                  refine lv_iconst (v := 1) hx hb dX11_readsMatrix_123 (by decide) ?_
                  refine lv_iadd hx hb dX11_readsMatrix_124 (lv_topi (fun v90 e_v90 => ?_))
                  have e_v90 := ai_add e_v90 rfl li_1 (by omega)
                  refine tz_put (ci := 8) (v := .int v90) (ty := .int) (C := RX11) (F := TX11) (N := 36) hx hb hU iX11 tyX11 tyX11_ok nmX11 hown hK hT hS 2 rfl rfl 18 (by decide) w803 (fun _ h9 => h9) rfl (by decide +kernel) rfl rfl (Nat.le_of_ble_eq_true rfl) dX11_readsMatrix_125 (fun H locs hT hS => ?_)
                  have hT : TP D A [(h9, aI (k 0) 36 anI), (h8, aI (k 0) 120 anI), (h0, ob 8 [.int h0f0, .int h0f1, .int h0f2, .int h0f3, .int h0f4, .int h0f5, .ref h1, .ref h2, .int h0f8, .int h0f9, .ref h3, .ref h4, .ref h5, .ref h6, .ref h7, .ref h8, .ref h9, .int h0f17, .int v90, .int h0f19, .ref h10, .ref h11, .ref h12, .ref h13, .int h0f24, .int h0f25, .ref h14, .ref h15, .ref h16, .ref h17, .int h0f30, .int h0f31, .ref h18, .ref h19, .ref h20, .ref h21]), (h3, aJ (k 1) 9 anJ)] _ := hT
                  refine lv_iconst (v := 0) hx hb dX11_readsMatrix_128 (by decide) ?_
                  refine lv_istore_n (lv' := [(1, .int 0), (0, .ref h0)]) hx hb dX11_readsMatrix_129 rfl hl (by decide) rfl (fun ls hl => ?_)
                  exact lp130_43 (((-1) * (0 : Int32).toInt + 9 + 1).toNat + 1) (0) v90 _ _ _ (by have := li_0; omega) (by have := li_0; omega)  (Nat.lt_succ_self _) hT hS (lv_sub hl [1, 0] rfl)
                · skip
                  have c_89 := nl_ne c_89 rfl ll_m1
                  refine lv_iconst (v := 0) hx hb dX11_readsMatrix_116 (by decide) ?_
                  exact tz_retZ (B := B_cX11_readsMatrix_5491f D k h0 h3 h8 h9 h1 h2 h4 h5 h6 h7 h10 h11 h12 h13 h14 h15 h16 h17 h18 h19 h20 h21 h0f0 h0f1 h0f2 h0f3 h0f4 h0f5 h0f8 h0f9 h0f17 h0f18 h0f19 h0f24 h0f25 h0f30 h0f31) (v := 0) hQ hx hb hr hlocks hS (Nat.le_of_ble_eq_true rfl) (Nat.le_of_ble_eq_true rfl) dX11_readsMatrix_117 (by have := li_0; omega) (Or.inl ⟨v70, (by have := li_0; omega), rfl, (hT.sub [2, 3, 1, 0] (by decide) rfl)⟩)
        · skip
          have c_51 := ni_nle c_51 rfl rfl
          refine lv_iload_n hx hb dX11_readsMatrix_28 rfl (lv_at hl 1 rfl) ?_
          refine lv_if_le (tgt := 43) hx hb dX11_readsMatrix_29 (by decide) (fun c_91 => ?_) (fun c_91 => ?_)
          · skip
            have c_91 := ni_le c_91 rfl li_0
            refine lv_iconst (v := 0) hx hb dX11_readsMatrix_43 (by decide) ?_
            refine lv_istore_n (lv' := [(2, .int 0), (0, .ref h0), (1, .int y7)]) hx hb dX11_readsMatrix_44 rfl hl (by decide) rfl (fun ls hl => ?_)
            exact lp45_17 ((h0f0.toInt + (-1) * (0 : Int32).toInt + 1).toNat + 1) (0) y8 _ _ _ (by have := li_0; omega) (by have := li_0; omega) (by have := li_0; omega)  (Nat.lt_succ_self _) hT hS (lv_sub hl [1, 2, 0] rfl)
          · skip
            have c_91 := ni_nle c_91 rfl li_0
            refine lv_aload_n hx hb dX11_readsMatrix_32 rfl (lv_at hl 0 rfl) ?_
            refine lv_bipush (v := 47) hx hb dX11_readsMatrix_33 (by decide) ?_
            have q_q93 := li_47
            refine tcI (Tc := [(h0, ob 8 [.int h0f0, .int h0f1, .int h0f2, .int h0f3, .int h0f4, .int h0f5, .ref h1, .ref h2, .int h0f8, .int h0f9, .ref h3, .ref h4, .ref h5, .ref h6, .ref h7, .ref h8, .ref h9, .int h0f17, .int y8, .int h0f19, .ref h10, .ref h11, .ref h12, .ref h13, .int h0f24, .int h0f25, .ref h14, .ref h15, .ref h16, .ref h17, .int h0f30, .int h0f31, .ref h18, .ref h19, .ref h20, .ref h21]), (h8, aI (k 0) 120 anI)]) (Tr := [(h9, aI (k 0) 36 anI), (h3, aJ (k 1) 9 anJ)]) (as := [h0, h8]) (zcV (q0 := 2) (ci := 8) (As := [.int 47]) (rest := []) (Tc := [(h0, ob 8 [.int h0f0, .int h0f1, .int h0f2, .int h0f3, .int h0f4, .int h0f5, .ref h1, .ref h2, .int h0f8, .int h0f9, .ref h3, .ref h4, .ref h5, .ref h6, .ref h7, .ref h8, .ref h9, .int h0f17, .int y8, .int h0f19, .ref h10, .ref h11, .ref h12, .ref h13, .int h0f24, .int h0f25, .ref h14, .ref h15, .ref h16, .ref h17, .int h0f30, .int h0f31, .ref h18, .ref h19, .ref h20, .ref h21]), (h8, aI (k 0) 120 anI)]) hx hb hml hown hU hK hT rfl rfl [2, 0] rfl (by decide) (cX11_readsSign_cb03b l D k _ h0 h8 h1 h2 h3 h4 h5 h6 h7 h9 h10 h11 h12 h13 h14 h15 h16 h17 h18 h19 h20 h21 (47) h0f0 h0f1 h0f2 h0f3 h0f4 h0f5 h0f8 h0f9 h0f17 y8 h0f19 h0f24 h0f25 h0f30 h0f31 (by have := li_47; omega) (by omega) (by omega) (by omega) (by omega) (by omega) (by omega) (by omega) (by omega) (by omega) (by omega) (by omega) (by omega) (by omega) (by have := li_47; omega) (by have := li_47; omega)) w1021 w1018 w1020 w44 w72 hdX11_readsSign ⟨rfl, rfl⟩ ⟨Nat.le_of_ble_eq_true rfl, Nat.le_of_ble_eq_true rfl⟩ rfl hl.1 (Nat.le_of_ble_eq_true rfl) dX11_readsMatrix_35 ⟨Nat.le_of_ble_eq_true rfl, Nat.le_of_ble_eq_true rfl⟩) hT hS hA [2, 0] [1, 3] rfl rfl rfl (by decide) (by decide) (fun r92 H locs hB J hS => ?_)
            rcases hB with ⟨v94, b_v94, rfl, hT1⟩ | ⟨v95, v96, v97, b_v95, b_v96, b_v97, c_98, c_99, c_100, c_101, c_102, rfl, hT1⟩ | ⟨v103, v104, v105, v106, b_v103, b_v104, b_v106, c_107, c_108, c_109, c_110, c_111, rfl, hT1⟩
            · skip
              have hT := J _ hT1
              have hT : TP D A [(h9, aI (k 0) 36 anI), (h3, aJ (k 1) 9 anJ), (h0, ob 8 [.int h0f0, .int h0f1, .int h0f2, .int h0f3, .int h0f4, .int h0f5, .ref h1, .ref h2, .int h0f8, .int h0f9, .ref h3, .ref h4, .ref h5, .ref h6, .ref h7, .ref h8, .ref h9, .int h0f17, .int v94, .int h0f19, .ref h10, .ref h11, .ref h12, .ref h13, .int h0f24, .int h0f25, .ref h14, .ref h15, .ref h16, .ref h17, .int h0f30, .int h0f31, .ref h18, .ref h19, .ref h20, .ref h21]), (h8, aI (k 0) 120 anI)] _ := hT
              refine lv_if_ne (tgt := 43) hx hb dX11_readsMatrix_38 (by decide) (fun cc => absurd (by decide +kernel) cc) (fun _ => ?_)
              refine lv_iconst (v := 0) hx hb dX11_readsMatrix_41 (by decide) ?_
              exact tz_retZ (B := B_cX11_readsMatrix_5491f D k h0 h3 h8 h9 h1 h2 h4 h5 h6 h7 h10 h11 h12 h13 h14 h15 h16 h17 h18 h19 h20 h21 h0f0 h0f1 h0f2 h0f3 h0f4 h0f5 h0f8 h0f9 h0f17 h0f18 h0f19 h0f24 h0f25 h0f30 h0f31) (v := 0) hQ hx hb hr hlocks hS (Nat.le_of_ble_eq_true rfl) (Nat.le_of_ble_eq_true rfl) dX11_readsMatrix_42 (by have := li_0; omega) (Or.inl ⟨v94, (by have := li_0; omega), rfl, (hT.sub [2, 1, 3, 0] (by decide) rfl)⟩)
            · skip
              have hT := J _ hT1
              have hT : TP D A [(h9, aI (k 0) 36 anI), (h3, aJ (k 1) 9 anJ), (h0, ob 8 [.int h0f0, .int h0f1, .int h0f2, .int h0f3, .int h0f4, .int h0f5, .ref h1, .ref h2, .int h0f8, .int h0f9, .ref h3, .ref h4, .ref h5, .ref h6, .ref h7, .ref h8, .ref h9, .int h0f17, .int v95, .int h0f19, .ref h10, .ref h11, .ref h12, .ref h13, .int h0f24, .int h0f25, .ref h14, .ref h15, .ref h16, .ref h17, .int h0f30, .int h0f31, .ref h18, .ref h19, .ref h20, .ref h21]), (h8, aI (k 0) 120 anI)] _ := hT
              refine lv_if_ne (tgt := 43) hx hb dX11_readsMatrix_38 (by decide) (fun _ => ?_) (fun cc => absurd cc (by decide +kernel))
              refine lv_iconst (v := 0) hx hb dX11_readsMatrix_43 (by decide) ?_
              refine lv_istore_n (lv' := [(2, .int 0), (0, .ref h0), (1, .int y7)]) hx hb dX11_readsMatrix_44 rfl hl (by decide) rfl (fun ls hl => ?_)
              exact lp45_17 ((h0f0.toInt + (-1) * (0 : Int32).toInt + 1).toNat + 1) (0) v95 _ _ _ (by have := li_0; omega) (by have := li_0; omega) (by have := li_0; omega)  (Nat.lt_succ_self _) (hT.sub [3, 0, 2, 1] (by decide) rfl) hS (lv_sub hl [1, 2, 0] rfl)
            · skip
              have hT := J _ hT1
              have hT : TP D A [(h9, aI (k 0) 36 anI), (h3, aJ (k 1) 9 anJ), (h0, ob 8 [.int h0f0, .int h0f1, .int h0f2, .int h0f3, .int h0f4, .int h0f5, .ref h1, .ref h2, .int h0f8, .int h0f9, .ref h3, .ref h4, .ref h5, .ref h6, .ref h7, .ref h8, .ref h9, .int h0f17, .int v103, .int h0f19, .ref h10, .ref h11, .ref h12, .ref h13, .int h0f24, .int h0f25, .ref h14, .ref h15, .ref h16, .ref h17, .int h0f30, .int h0f31, .ref h18, .ref h19, .ref h20, .ref h21]), (h8, aI (k 0) 120 anI)] _ := hT
              refine lv_if_ne (tgt := 43) hx hb dX11_readsMatrix_38 (by decide) (fun _ => ?_) (fun cc => absurd cc (by decide +kernel))
              refine lv_iconst (v := 0) hx hb dX11_readsMatrix_43 (by decide) ?_
              refine lv_istore_n (lv' := [(2, .int 0), (0, .ref h0), (1, .int y7)]) hx hb dX11_readsMatrix_44 rfl hl (by decide) rfl (fun ls hl => ?_)
              exact lp45_17 ((h0f0.toInt + (-1) * (0 : Int32).toInt + 1).toNat + 1) (0) v103 _ _ _ (by have := li_0; omega) (by have := li_0; omega) (by have := li_0; omega)  (Nat.lt_succ_self _) (hT.sub [3, 0, 2, 1] (by decide) rfl) hS (lv_sub hl [1, 2, 0] rfl)
    exact lp20_9 ((3 - (0 : Int32).toInt).toNat + 1) (0) h0f18 _ _ _ (by have := li_0; omega) (by have := li_0; omega)  (Nat.lt_succ_self _) hT hS (lv_sub hl [1, 0] rfl)
  · skip
    have c_1 := ni_eq c_1 rfl li_4
    refine lv_iconst (v := 0) hx hb dX11_readsMatrix_8 (by decide) ?_
    exact tz_retZ (B := B_cX11_readsMatrix_5491f D k h0 h3 h8 h9 h1 h2 h4 h5 h6 h7 h10 h11 h12 h13 h14 h15 h16 h17 h18 h19 h20 h21 h0f0 h0f1 h0f2 h0f3 h0f4 h0f5 h0f8 h0f9 h0f17 h0f18 h0f19 h0f24 h0f25 h0f30 h0f31) (v := 0) hQ hx hb hr hlocks hS (Nat.le_of_ble_eq_true rfl) (Nat.le_of_ble_eq_true rfl) dX11_readsMatrix_9 (by have := li_0; omega) (Or.inl ⟨h0f18, (by have := li_0; omega), rfl, hT⟩)
abbrev Rm_cX11_text_6ee69 : Room := { frames := 4, cells := 0, slots := 0, locals := 91 }
abbrev B_cX11_text_6ee69 (D : va_G) (k : Nat → ClassId) (h0 h1 h3 h8 h9 h2 h4 h5 h6 h7 h10 h11 h12 h13 h14 h15 h16 h17 h18 h19 h20 h21 : Nat) (h0f0 : Int32) (h0f1 : Int32) (h0f2 : Int32) (h0f3 : Int32) (h0f4 : Int32) (h0f5 : Int32) (h0f8 : Int32) (h0f9 : Int32) (h0f17 : Int32) (h0f18 : Int32) (h0f19 : Int32) (h0f24 : Int32) (h0f25 : Int32) (h0f30 : Int32) (h0f31 : Int32) (A : Nat → Prop) (r : Int32) (H : Heap) : Prop := ∃ o0 : Int32, ∃ o1 : Int32, ∃ o2 : Int32, ∃ o3 : Int32, ∃ o4 : Int32, (0 ≤ o0.toInt ∧ o0.toInt ≤ 4) ∧ (0 ≤ o1.toInt ∧ o1.toInt ≤ 1) ∧ (0 ≤ o2.toInt ∧ o2.toInt ≤ 120) ∧ (0 ≤ o3.toInt ∧ o3.toInt ≤ 4) ∧ (0 ≤ o4.toInt ∧ o4.toInt ≤ 60) ∧ ((-220) ≤ r.toInt ∧ r.toInt ≤ 4) ∧ (o4.toInt = 0 ∨ (o4.toInt = h0f30.toInt ∧ o0.toInt = h0f1.toInt ∧ h0f31.toInt = h0f31.toInt)) ∧ (o1.toInt = 0 ∨ o1.toInt = h0f9.toInt) ∧ TP D A [(h0, ob 8 [.int h0f0, .int o0, .int h0f2, .int h0f3, .int h0f4, .int h0f5, .ref h1, .ref h2, .int h0f8, .int o1, .ref h3, .ref h4, .ref h5, .ref h6, .ref h7, .ref h8, .ref h9, .int 0, .int o2, .int o3, .ref h10, .ref h11, .ref h12, .ref h13, .int h0f24, .int h0f25, .ref h14, .ref h15, .ref h16, .ref h17, .int o4, .int h0f31, .ref h18, .ref h19, .ref h20, .ref h21]), (h1, aI (k 0) 36 anI), (h3, aJ (k 1) 9 anJ), (h8, aI (k 0) 120 anI), (h9, aI (k 0) 36 anI)] H
set_option maxHeartbeats 4000000 in
set_option maxRecDepth 100000 in
theorem cX11_text_6ee69 (l : Launch) (D : va_G) (k : Nat → ClassId) (sz : Nat) (h0 h1 h3 h8 h9 h2 h4 h5 h6 h7 h10 h11 h12 h13 h14 h15 h16 h17 h18 h19 h20 h21 : Nat) (h0f0 : Int32) (h0f1 : Int32) (h0f2 : Int32) (h0f3 : Int32) (h0f4 : Int32) (h0f5 : Int32) (h0f8 : Int32) (h0f9 : Int32) (h0f17 : Int32) (h0f18 : Int32) (h0f19 : Int32) (h0f24 : Int32) (h0f25 : Int32) (h0f30 : Int32) (h0f31 : Int32) (b_h0f0 : 1 ≤ h0f0.toInt ∧ h0f0.toInt ≤ 3) (b_h0f1 : 0 ≤ h0f1.toInt ∧ h0f1.toInt ≤ 4) (b_h0f3 : 0 ≤ h0f3.toInt ∧ h0f3.toInt ≤ 3) (b_h0f4 : 0 ≤ h0f4.toInt ∧ h0f4.toInt ≤ 4) (b_h0f8 : 0 ≤ h0f8.toInt ∧ h0f8.toInt ≤ 1) (b_h0f9 : 0 ≤ h0f9.toInt ∧ h0f9.toInt ≤ 1) (b_h0f17 : 0 ≤ h0f17.toInt ∧ h0f17.toInt ≤ 120) (b_h0f18 : 0 ≤ h0f18.toInt ∧ h0f18.toInt ≤ 120) (b_h0f19 : 0 ≤ h0f19.toInt ∧ h0f19.toInt ≤ 4) (b_h0f24 : 0 ≤ h0f24.toInt ∧ h0f24.toInt ≤ 100) (b_h0f25 : 0 ≤ h0f25.toInt ∧ h0f25.toInt ≤ 1) (b_h0f30 : 0 ≤ h0f30.toInt ∧ h0f30.toInt ≤ 60) (b_h0f31 : 0 ≤ h0f31.toInt ∧ h0f31.toInt ≤ 1) (i_0 : h0f8.toInt ≤ h0f3.toInt) (i_1 : h0f9.toInt ≤ h0f24.toInt) : Met l yX11_text (Cond.code yX11_text cX11_text 4 (some .int) :: uw) Rm_cX11_text_6ee69 (pT D k sz [.ref h0] [(h0, ob 8 [.int h0f0, .int h0f1, .int h0f2, .int h0f3, .int h0f4, .int h0f5, .ref h1, .ref h2, .int h0f8, .int h0f9, .ref h3, .ref h4, .ref h5, .ref h6, .ref h7, .ref h8, .ref h9, .int h0f17, .int h0f18, .int h0f19, .ref h10, .ref h11, .ref h12, .ref h13, .int h0f24, .int h0f25, .ref h14, .ref h15, .ref h16, .ref h17, .int h0f30, .int h0f31, .ref h18, .ref h19, .ref h20, .ref h21]), (h1, aI (k 0) 36 anI), (h3, aJ (k 1) 9 anJ), (h8, aI (k 0) 120 anI), (h9, aI (k 0) 36 anI)]) (qI (B_cX11_text_6ee69 D k h0 h1 h3 h8 h9 h2 h4 h5 h6 h7 h10 h11 h12 h13 h14 h15 h16 h17 h18 h19 h20 h21 h0f0 h0f1 h0f2 h0f3 h0f4 h0f5 h0f8 h0f9 h0f17 h0f18 h0f19 h0f24 h0f25 h0f30 h0f31 (zA [h0, h1, h3, h8, h9] sz)) (zA [h0, h1, h3, h8, h9] sz)) 0 0 (zA [h0, h1, h3, h8, h9] sz) := by
  refine tz_begin (as := [h0, h1, h3, h8, h9]) (Qc := fun A => qI (B_cX11_text_6ee69 D k h0 h1 h3 h8 h9 h2 h4 h5 h6 h7 h10 h11 h12 h13 h14 h15 h16 h17 h18 h19 h20 h21 h0f0 h0f1 h0f2 h0f3 h0f4 h0f5 h0f8 h0f9 h0f17 h0f18 h0f19 h0f24 h0f25 h0f30 h0f31 A) A) (by decide +kernel) rfl (Nat.le_of_ble_eq_true rfl) ?_
  intro p e s m args below meth c ls A Q hx hb hr hml hown hlocks hin hU hK hT hS hA hl hQ
  have hl : lv_has ls 4 [(0, .ref h0)] := hl
  have hT : TP D A [(h0, ob 8 [.int h0f0, .int h0f1, .int h0f2, .int h0f3, .int h0f4, .int h0f5, .ref h1, .ref h2, .int h0f8, .int h0f9, .ref h3, .ref h4, .ref h5, .ref h6, .ref h7, .ref h8, .ref h9, .int h0f17, .int h0f18, .int h0f19, .ref h10, .ref h11, .ref h12, .ref h13, .int h0f24, .int h0f25, .ref h14, .ref h15, .ref h16, .ref h17, .int h0f30, .int h0f31, .ref h18, .ref h19, .ref h20, .ref h21]), (h1, aI (k 0) 36 anI), (h3, aJ (k 1) 9 anJ), (h8, aI (k 0) 120 anI), (h9, aI (k 0) 36 anI)] s.heap := hT
  refine lv_aload_n hx hb dX11_text_0 rfl (lv_at hl 0 rfl) ?_
  refine lv_iconst (v := 0) hx hb dX11_text_1 (by decide) ?_
  refine tz_put (ci := 8) (v := .int 0) (ty := .int) (C := RX11) (F := TX11) (N := 36) hx hb hU iX11 tyX11 tyX11_ok nmX11 hown hK hT hS 0 rfl rfl 18 (by decide) w803 (fun _ h9 => h9) rfl (by decide +kernel) rfl rfl (Nat.le_of_ble_eq_true rfl) dX11_text_2 (fun H locs hT hS => ?_)
  have hT : TP D A [(h0, ob 8 [.int h0f0, .int h0f1, .int h0f2, .int h0f3, .int h0f4, .int h0f5, .ref h1, .ref h2, .int h0f8, .int h0f9, .ref h3, .ref h4, .ref h5, .ref h6, .ref h7, .ref h8, .ref h9, .int h0f17, .int 0, .int h0f19, .ref h10, .ref h11, .ref h12, .ref h13, .int h0f24, .int h0f25, .ref h14, .ref h15, .ref h16, .ref h17, .int h0f30, .int h0f31, .ref h18, .ref h19, .ref h20, .ref h21]), (h1, aI (k 0) 36 anI), (h3, aJ (k 1) 9 anJ), (h8, aI (k 0) 120 anI), (h9, aI (k 0) 36 anI)] _ := hT
  refine lv_aload_n hx hb dX11_text_5 rfl (lv_at hl 0 rfl) ?_
  refine lv_iconst (v := 0) hx hb dX11_text_6 (by decide) ?_
  refine tz_put (ci := 8) (v := .int 0) (ty := .int) (C := RX11) (F := TX11) (N := 36) hx hb hU iX11 tyX11 tyX11_ok nmX11 hown hK hT hS 0 rfl rfl 19 (by decide) w804 (fun _ h9 => h9) rfl (by decide +kernel) rfl rfl (Nat.le_of_ble_eq_true rfl) dX11_text_7 (fun H locs hT hS => ?_)
  have hT : TP D A [(h0, ob 8 [.int h0f0, .int h0f1, .int h0f2, .int h0f3, .int h0f4, .int h0f5, .ref h1, .ref h2, .int h0f8, .int h0f9, .ref h3, .ref h4, .ref h5, .ref h6, .ref h7, .ref h8, .ref h9, .int h0f17, .int 0, .int 0, .ref h10, .ref h11, .ref h12, .ref h13, .int h0f24, .int h0f25, .ref h14, .ref h15, .ref h16, .ref h17, .int h0f30, .int h0f31, .ref h18, .ref h19, .ref h20, .ref h21]), (h1, aI (k 0) 36 anI), (h3, aJ (k 1) 9 anJ), (h8, aI (k 0) 120 anI), (h9, aI (k 0) 36 anI)] _ := hT
  refine lv_iconst (v := 1) hx hb dX11_text_10 (by decide) ?_
  refine lv_istore_n (lv' := [(1, .int 1), (0, .ref h0)]) hx hb dX11_text_11 rfl hl (by decide) rfl (fun ls hl => ?_)
  have lp12_13 : ∀ (n : Nat) (y10 : Int32) (y11 : Int32) (y12 : Int32) (H : Heap) (locs : List Loc) (ls : Array Slot), (0 ≤ y10.toInt ∧ y10.toInt ≤ 1) → (0 ≤ y11.toInt ∧ y11.toInt ≤ 120) → (0 ≤ y12.toInt ∧ y12.toInt ≤ 4) → (5 * y10.toInt + 4 - y12.toInt).toNat < n → TP D A [(h0, ob 8 [.int h0f0, .int h0f1, .int h0f2, .int h0f3, .int h0f4, .int h0f5, .ref h1, .ref h2, .int h0f8, .int h0f9, .ref h3, .ref h4, .ref h5, .ref h6, .ref h7, .ref h8, .ref h9, .int h0f17, .int y11, .int y12, .ref h10, .ref h11, .ref h12, .ref h13, .int h0f24, .int h0f25, .ref h14, .ref h15, .ref h16, .ref h17, .int h0f30, .int h0f31, .ref h18, .ref h19, .ref h20, .ref h21]), (h1, aI (k 0) 36 anI), (h3, aJ (k 1) 9 anJ), (h8, aI (k 0) 120 anI), (h9, aI (k 0) 36 anI)] H → va_S A s.heap H locs → lv_has ls 4 [(0, .ref h0), (1, .int y10)] → W p l e Rm_cX11_text_6ee69 s m args below meth c H locs 0 0 Q (F0 m 12 ls []) := by
    intro n
    induction n with
    | zero => intro y10 y11 y12 H locs ls b_y10 b_y11 b_y12 hm hT hS hl; exact absurd hm (Nat.not_lt_zero _)
    | succ n ih =>
      intro y10 y11 y12 H locs ls b_y10 b_y11 b_y12 hm hT hS hl
      have ih12_13 := ih
      clear ih
      have lp76_37 : ∀ (n : Nat) (y35 : Int32) (y36 : Int32) (H : Heap) (locs : List Loc) (ls : Array Slot), (0 ≤ y35.toInt ∧ y35.toInt ≤ 36) → (0 ≤ y36.toInt ∧ y36.toInt ≤ 120) → ((-1) * y35.toInt + 36 + 1).toNat < n → TP D A [(h1, aI (k 0) 36 anI), (h3, aJ (k 1) 9 anJ), (h9, aI (k 0) 36 anI), (h0, ob 8 [.int h0f0, .int y12, .int h0f2, .int h0f3, .int h0f4, .int h0f5, .ref h1, .ref h2, .int h0f8, .int h0f9, .ref h3, .ref h4, .ref h5, .ref h6, .ref h7, .ref h8, .ref h9, .int 0, .int y36, .int y12, .ref h10, .ref h11, .ref h12, .ref h13, .int h0f24, .int h0f25, .ref h14, .ref h15, .ref h16, .ref h17, .int h0f30, .int h0f31, .ref h18, .ref h19, .ref h20, .ref h21]), (h8, aI (k 0) 120 anI)] H → va_S A s.heap H locs → lv_has ls 4 [(0, .ref h0), (3, .int y35)] → W p l e Rm_cX11_text_6ee69 s m args below meth c H locs 0 0 Q (F0 m 76 ls []) := by
        intro n
        induction n with
        | zero => intro y35 y36 H locs ls b_y35 b_y36 hm hT hS hl; exact absurd hm (Nat.not_lt_zero _)
        | succ n ih =>
          intro y35 y36 H locs ls b_y35 b_y36 hm hT hS hl
          have ih76_37 := ih
          clear ih
          refine lv_iload_n hx hb dX11_text_76 rfl (lv_at hl 1 rfl) ?_
          refine lv_bipush (v := 36) hx hb dX11_text_77 (by decide) ?_
          refine lv_icmp_ge (tgt := 120) hx hb dX11_text_79 (by decide) (fun c_38 => ?_) (fun c_38 => ?_)
          · skip
            have c_38 := ni_le c_38 li_36 rfl
            refine lv_aload_n hx hb dX11_text_120 rfl (lv_at hl 0 rfl) ?_
            refine lv_iconst (v := 0) hx hb dX11_text_121 (by decide) ?_
            refine tz_put (ci := 8) (v := .int 0) (ty := .boolean) (C := RX11) (F := TX11) (N := 36) hx hb hU iX11 tyX11 tyX11_ok nmX11 hown hK hT hS 3 rfl rfl 9 (by decide) w794 (fun _ h9 => h9) rfl (by decide +kernel) rfl rfl (Nat.le_of_ble_eq_true rfl) dX11_text_122 (fun H locs hT hS => ?_)
            have hT : TP D A [(h1, aI (k 0) 36 anI), (h3, aJ (k 1) 9 anJ), (h9, aI (k 0) 36 anI), (h0, ob 8 [.int h0f0, .int y12, .int h0f2, .int h0f3, .int h0f4, .int h0f5, .ref h1, .ref h2, .int h0f8, .int 0, .ref h3, .ref h4, .ref h5, .ref h6, .ref h7, .ref h8, .ref h9, .int 0, .int y36, .int y12, .ref h10, .ref h11, .ref h12, .ref h13, .int h0f24, .int h0f25, .ref h14, .ref h15, .ref h16, .ref h17, .int h0f30, .int h0f31, .ref h18, .ref h19, .ref h20, .ref h21]), (h8, aI (k 0) 120 anI)] _ := hT
            refine lv_aload_n hx hb dX11_text_125 rfl (lv_at hl 0 rfl) ?_
            refine lv_iconst (v := 0) hx hb dX11_text_126 (by decide) ?_
            refine tz_put (ci := 8) (v := .int 0) (ty := .int) (C := RX11) (F := TX11) (N := 36) hx hb hU iX11 tyX11 tyX11_ok nmX11 hown hK hT hS 3 rfl rfl 30 (by decide) w815 (fun _ h9 => h9) rfl (by decide +kernel) rfl rfl (Nat.le_of_ble_eq_true rfl) dX11_text_127 (fun H locs hT hS => ?_)
            have hT : TP D A [(h1, aI (k 0) 36 anI), (h3, aJ (k 1) 9 anJ), (h9, aI (k 0) 36 anI), (h0, ob 8 [.int h0f0, .int y12, .int h0f2, .int h0f3, .int h0f4, .int h0f5, .ref h1, .ref h2, .int h0f8, .int 0, .ref h3, .ref h4, .ref h5, .ref h6, .ref h7, .ref h8, .ref h9, .int 0, .int y36, .int y12, .ref h10, .ref h11, .ref h12, .ref h13, .int h0f24, .int h0f25, .ref h14, .ref h15, .ref h16, .ref h17, .int 0, .int h0f31, .ref h18, .ref h19, .ref h20, .ref h21]), (h8, aI (k 0) 120 anI)] _ := hT
            refine lv_aload_n hx hb dX11_text_130 rfl (lv_at hl 0 rfl) ?_
            refine tz_get (ci := 8) (v := .int y12) (C := RX11) (F := TX11) (N := 36) hx hb hU iX11 hown hK hT 3 rfl rfl 1 (by decide) w786 (fun _ h9 => h9) rfl dX11_text_131 ?_
            exact tz_retI (B := B_cX11_text_6ee69 D k h0 h1 h3 h8 h9 h2 h4 h5 h6 h7 h10 h11 h12 h13 h14 h15 h16 h17 h18 h19 h20 h21 h0f0 h0f1 h0f2 h0f3 h0f4 h0f5 h0f8 h0f9 h0f17 h0f18 h0f19 h0f24 h0f25 h0f30 h0f31) (v := y12) hQ hx hb hr hlocks hS (Nat.le_of_ble_eq_true rfl) (Nat.le_of_ble_eq_true rfl) dX11_text_134 (⟨y12, 0, y36, y12, 0, (by have := li_0; omega), (by have := li_0; omega), (by have := li_0; omega), (by have := li_0; omega), (by have := li_0; omega), (by have := li_0; omega), (by have := li_0; omega), (by have := li_0; omega), (hT.sub [3, 0, 1, 4, 2] (by decide) rfl)⟩)
          · skip
            have c_38 := ni_nle c_38 li_36 rfl
            refine lv_aload_n hx hb dX11_text_82 rfl (lv_at hl 0 rfl) ?_
            refine tz_get (ci := 8) (v := .ref h1) (C := RX11) (F := TX11) (N := 36) hx hb hU iX11 hown hK hT 3 rfl rfl 6 (by decide) w791 (fun _ h9 => h9) rfl dX11_text_83 ?_
            refine lv_iload_n hx hb dX11_text_86 rfl (lv_at hl 1 rfl) ?_
            refine lv_iload_n hx hb dX11_text_87 rfl (lv_at hl 1 rfl) ?_
            refine lv_bipush (v := 9) hx hb dX11_text_88 (by decide) ?_
            refine lv_aload_n hx hb dX11_text_90 rfl (lv_at hl 0 rfl) ?_
            refine tz_get (ci := 8) (v := .int y12) (C := RX11) (F := TX11) (N := 36) hx hb hU iX11 hown hK hT 3 rfl rfl 1 (by decide) w786 (fun _ h9 => h9) rfl dX11_text_91 ?_
            refine lv_imul hx hb dX11_text_94 (lv_topi (fun v39 e_v39 => ?_))
            have e_v39 := ai_mul e_v39 li_9 rfl (by omega)
            refine lv_icmp_ge (tgt := 107) hx hb dX11_text_95 (by decide) (fun c_40 => ?_) (fun c_40 => ?_)
            · skip
              have c_40 := ni_le c_40 rfl rfl
              refine lv_aload_n hx hb dX11_text_107 rfl (lv_at hl 0 rfl) ?_
              refine tz_get (ci := 8) (v := .ref h1) (C := RX11) (F := TX11) (N := 36) hx hb hU iX11 hown hK hT 3 rfl rfl 6 (by decide) w791 (fun _ h9 => h9) rfl dX11_text_108 ?_
              refine lv_iload_n hx hb dX11_text_111 rfl (lv_at hl 1 rfl) ?_
              refine tz_iald hx hb hK hT 0 rfl (by omega) dX11_text_112 (fun v41 e_v41 => ?_)
              clear e_v41
              refine tz_iast hx hb hK hT hS 0 rfl (by omega) (fun _ _ => trivial) dX11_text_113 (fun H locs hT hS => ?_)
              obtain ⟨v42, e_v42⟩ : ∃ x : Int32, x = y35 + Int32.ofInt 1 := ⟨_, rfl⟩
              have f_v42 := e_v42.symm
              have e_v42 : v42.toInt = y35.toInt + 1 := ai_add e_v42 rfl (show (Int32.ofInt 1).toInt = 1 from (by decide +kernel)) (by omega)
              refine lv_iinc (v := v42) (lv' := [(3, .int v42), (0, .ref h0)]) hx hb dX11_text_114 hl (k := 1) rfl f_v42 (by decide) rfl (fun ls hl => ?_)
              refine lv_goto (tgt := 76) hx hb dX11_text_117 (by decide) ?_
              exact ih76_37 v42 y36 _ _ _ (by omega) (by omega)  (by omega) hT hS (lv_sub hl [1, 0] rfl)
            · skip
              have c_40 := ni_nle c_40 rfl rfl
              refine lv_aload_n hx hb dX11_text_98 rfl (lv_at hl 0 rfl) ?_
              refine tz_get (ci := 8) (v := .ref h9) (C := RX11) (F := TX11) (N := 36) hx hb hU iX11 hown hK hT 3 rfl rfl 16 (by decide) w801 (fun _ h9 => h9) rfl dX11_text_99 ?_
              refine lv_iload_n hx hb dX11_text_102 rfl (lv_at hl 1 rfl) ?_
              refine tz_iald hx hb hK hT 2 rfl (by omega) dX11_text_103 (fun v43 e_v43 => ?_)
              clear e_v43
              refine lv_goto (tgt := 113) hx hb dX11_text_104 (by decide) ?_
              refine tz_iast hx hb hK hT hS 0 rfl (by omega) (fun _ _ => trivial) dX11_text_113 (fun H locs hT hS => ?_)
              obtain ⟨v44, e_v44⟩ : ∃ x : Int32, x = y35 + Int32.ofInt 1 := ⟨_, rfl⟩
              have f_v44 := e_v44.symm
              have e_v44 : v44.toInt = y35.toInt + 1 := ai_add e_v44 rfl (show (Int32.ofInt 1).toInt = 1 from (by decide +kernel)) (by omega)
              refine lv_iinc (v := v44) (lv' := [(3, .int v44), (0, .ref h0)]) hx hb dX11_text_114 hl (k := 1) rfl f_v44 (by decide) rfl (fun ls hl => ?_)
              refine lv_goto (tgt := 76) hx hb dX11_text_117 (by decide) ?_
              exact ih76_37 v44 y36 _ _ _ (by omega) (by omega)  (by omega) hT hS (lv_sub hl [1, 0] rfl)
      refine lv_iload_n hx hb dX11_text_12 rfl (lv_at hl 1 rfl) ?_
      refine lv_if_eq (tgt := 31) hx hb dX11_text_13 (by decide) (fun c_45 => ?_) (fun c_45 => ?_)
      · skip
        have c_45 := ni_eq c_45 rfl li_0
        refine lv_aload_n hx hb dX11_text_31 rfl (lv_at hl 0 rfl) ?_
        refine tz_get (ci := 8) (v := .int y11) (C := RX11) (F := TX11) (N := 36) hx hb hU iX11 hown hK hT 0 rfl rfl 18 (by decide) w803 (fun _ h9 => h9) rfl dX11_text_32 ?_
        refine lv_istore_n (lv' := [(2, .int y11), (0, .ref h0), (1, .int y10)]) hx hb dX11_text_35 rfl hl (by decide) rfl (fun ls hl => ?_)
        refine lv_aload_n hx hb dX11_text_36 rfl (lv_at hl 1 rfl) ?_
        refine lv_iload_n hx hb dX11_text_37 rfl (lv_at hl 2 rfl) ?_
        refine lv_if_eq (tgt := 45) hx hb dX11_text_38 (by decide) (fun c_46 => ?_) (fun c_46 => ?_)
        · skip
          have c_46 := ni_eq c_46 rfl li_0
          refine lv_aload_n hx hb dX11_text_45 rfl (lv_at hl 1 rfl) ?_
          refine tz_get (ci := 8) (v := .int h0f17) (C := RX11) (F := TX11) (N := 36) hx hb hU iX11 hown hK hT 0 rfl rfl 17 (by decide) w802 (fun _ h9 => h9) rfl dX11_text_46 ?_
          refine tz_put (ci := 8) (v := .int h0f17) (ty := .int) (C := RX11) (F := TX11) (N := 36) hx hb hU iX11 tyX11 tyX11_ok nmX11 hown hK hT hS 0 rfl rfl 17 (by decide) w802 (fun _ h9 => h9) rfl (by decide +kernel) rfl rfl (Nat.le_of_ble_eq_true rfl) dX11_text_49 (fun H locs hT hS => ?_)
          have hT : TP D A [(h0, ob 8 [.int h0f0, .int h0f1, .int h0f2, .int h0f3, .int h0f4, .int h0f5, .ref h1, .ref h2, .int h0f8, .int h0f9, .ref h3, .ref h4, .ref h5, .ref h6, .ref h7, .ref h8, .ref h9, .int h0f17, .int y11, .int y12, .ref h10, .ref h11, .ref h12, .ref h13, .int h0f24, .int h0f25, .ref h14, .ref h15, .ref h16, .ref h17, .int h0f30, .int h0f31, .ref h18, .ref h19, .ref h20, .ref h21]), (h1, aI (k 0) 36 anI), (h3, aJ (k 1) 9 anJ), (h8, aI (k 0) 120 anI), (h9, aI (k 0) 36 anI)] _ := hT
          refine lv_iload_n hx hb dX11_text_52 rfl (lv_at hl 2 rfl) ?_
          refine lv_if_ne (tgt := 66) hx hb dX11_text_53 (by decide) (fun c_47 => ?_) (fun c_47 => ?_)
          · skip
            have c_47 := ni_ne c_47 rfl li_0
            exfalso; omega
          · skip
            have c_47 := ni_eq c_47 rfl li_0
            refine lv_aload_n hx hb dX11_text_56 rfl (lv_at hl 1 rfl) ?_
            refine lv_iconst (v := 0) hx hb dX11_text_57 (by decide) ?_
            refine tz_put (ci := 8) (v := .int 0) (ty := .int) (C := RX11) (F := TX11) (N := 36) hx hb hU iX11 tyX11 tyX11_ok nmX11 hown hK hT hS 0 rfl rfl 17 (by decide) w802 (fun _ h9 => h9) rfl (by decide +kernel) rfl rfl (Nat.le_of_ble_eq_true rfl) dX11_text_58 (fun H locs hT hS => ?_)
            have hT : TP D A [(h0, ob 8 [.int h0f0, .int h0f1, .int h0f2, .int h0f3, .int h0f4, .int h0f5, .ref h1, .ref h2, .int h0f8, .int h0f9, .ref h3, .ref h4, .ref h5, .ref h6, .ref h7, .ref h8, .ref h9, .int 0, .int y11, .int y12, .ref h10, .ref h11, .ref h12, .ref h13, .int h0f24, .int h0f25, .ref h14, .ref h15, .ref h16, .ref h17, .int h0f30, .int h0f31, .ref h18, .ref h19, .ref h20, .ref h21]), (h1, aI (k 0) 36 anI), (h3, aJ (k 1) 9 anJ), (h8, aI (k 0) 120 anI), (h9, aI (k 0) 36 anI)] _ := hT
            refine lv_bipush (v := (-100)) hx hb dX11_text_61 (by decide) ?_
            refine lv_iload_n hx hb dX11_text_63 rfl (lv_at hl 0 rfl) ?_
            refine lv_isub hx hb dX11_text_64 (lv_topi (fun v48 e_v48 => ?_))
            have e_v48 := ai_sub e_v48 li_m100 rfl (by omega)
            exact tz_retI (B := B_cX11_text_6ee69 D k h0 h1 h3 h8 h9 h2 h4 h5 h6 h7 h10 h11 h12 h13 h14 h15 h16 h17 h18 h19 h20 h21 h0f0 h0f1 h0f2 h0f3 h0f4 h0f5 h0f8 h0f9 h0f17 h0f18 h0f19 h0f24 h0f25 h0f30 h0f31) (v := v48) hQ hx hb hr hlocks hS (Nat.le_of_ble_eq_true rfl) (Nat.le_of_ble_eq_true rfl) dX11_text_65 (⟨h0f1, h0f9, y11, y12, h0f30, (by omega), (by omega), (by omega), (by omega), (by omega), (by omega), (by omega), (by omega), hT⟩)
        · skip
          have c_46 := ni_ne c_46 rfl li_0
          exfalso; omega
      · skip
        have c_45 := ni_ne c_45 rfl li_0
        refine lv_aload_n hx hb dX11_text_16 rfl (lv_at hl 0 rfl) ?_
        refine tcI (Tc := [(h0, ob 8 [.int h0f0, .int h0f1, .int h0f2, .int h0f3, .int h0f4, .int h0f5, .ref h1, .ref h2, .int h0f8, .int h0f9, .ref h3, .ref h4, .ref h5, .ref h6, .ref h7, .ref h8, .ref h9, .int h0f17, .int y11, .int y12, .ref h10, .ref h11, .ref h12, .ref h13, .int h0f24, .int h0f25, .ref h14, .ref h15, .ref h16, .ref h17, .int h0f30, .int h0f31, .ref h18, .ref h19, .ref h20, .ref h21]), (h8, aI (k 0) 120 anI)]) (Tr := [(h1, aI (k 0) 36 anI), (h3, aJ (k 1) 9 anJ), (h9, aI (k 0) 36 anI)]) (as := [h0, h8]) (zcV (q0 := 0) (ci := 8) (As := []) (rest := []) (Tc := [(h0, ob 8 [.int h0f0, .int h0f1, .int h0f2, .int h0f3, .int h0f4, .int h0f5, .ref h1, .ref h2, .int h0f8, .int h0f9, .ref h3, .ref h4, .ref h5, .ref h6, .ref h7, .ref h8, .ref h9, .int h0f17, .int y11, .int y12, .ref h10, .ref h11, .ref h12, .ref h13, .int h0f24, .int h0f25, .ref h14, .ref h15, .ref h16, .ref h17, .int h0f30, .int h0f31, .ref h18, .ref h19, .ref h20, .ref h21]), (h8, aI (k 0) 120 anI)]) hx hb hml hown hU hK hT rfl rfl [0, 3] rfl (by decide) (cX11_here_78e70 l D k _ h0 h8 h1 h2 h3 h4 h5 h6 h7 h9 h10 h11 h12 h13 h14 h15 h16 h17 h18 h19 h20 h21 h0f0 h0f1 h0f2 h0f3 h0f4 h0f5 h0f8 h0f9 h0f17 y11 y12 h0f24 h0f25 h0f30 h0f31 (by omega) (by omega) (by omega) (by omega) (by omega) (by omega) (by omega) (by omega) (by omega) (by omega) (by omega) (by omega) (by omega) (by omega) (by omega)) w1013 w1010 w1012 w42 w72 hdX11_here ⟨rfl, rfl⟩ ⟨Nat.le_of_ble_eq_true rfl, Nat.le_of_ble_eq_true rfl⟩ rfl hl.1 (Nat.le_of_ble_eq_true rfl) dX11_text_17 ⟨Nat.le_of_ble_eq_true rfl, Nat.le_of_ble_eq_true rfl⟩) hT hS hA [0, 3] [1, 2, 4] rfl rfl rfl (by decide) (by decide) (fun r49 H locs hB J hS => ?_)
        rcases hB with ⟨v50, b_v50, c_51, c_52, c_53, rfl, hT1⟩ | ⟨v54, v55, b_v54, c_56, c_57, c_58, c_59, rfl, hT1⟩ | ⟨v60, v61, b_v60, c_62, c_63, c_64, c_65, c_66, rfl, hT1⟩ | ⟨v67, v68, v69, b_v67, c_70, c_71, c_72, c_73, rfl, hT1⟩
        · skip
          have hT := J _ hT1
          have hT : TP D A [(h1, aI (k 0) 36 anI), (h3, aJ (k 1) 9 anJ), (h9, aI (k 0) 36 anI), (h0, ob 8 [.int h0f0, .int h0f1, .int h0f2, .int h0f3, .int h0f4, .int h0f5, .ref h1, .ref h2, .int h0f8, .int h0f9, .ref h3, .ref h4, .ref h5, .ref h6, .ref h7, .ref h8, .ref h9, .int h0f17, .int v50, .int y12, .ref h10, .ref h11, .ref h12, .ref h13, .int h0f24, .int h0f25, .ref h14, .ref h15, .ref h16, .ref h17, .int h0f30, .int h0f31, .ref h18, .ref h19, .ref h20, .ref h21]), (h8, aI (k 0) 120 anI)] _ := hT
          refine lv_if_lt (tgt := 31) hx hb dX11_text_20 (by decide) (fun _ => ?_) (fun cc => absurd (by decide +kernel) cc)
          refine lv_aload_n hx hb dX11_text_31 rfl (lv_at hl 0 rfl) ?_
          refine tz_get (ci := 8) (v := .int v50) (C := RX11) (F := TX11) (N := 36) hx hb hU iX11 hown hK hT 3 rfl rfl 18 (by decide) w803 (fun _ h9 => h9) rfl dX11_text_32 ?_
          refine lv_istore_n (lv' := [(2, .int v50), (0, .ref h0), (1, .int y10)]) hx hb dX11_text_35 rfl hl (by decide) rfl (fun ls hl => ?_)
          refine lv_aload_n hx hb dX11_text_36 rfl (lv_at hl 1 rfl) ?_
          refine lv_iload_n hx hb dX11_text_37 rfl (lv_at hl 2 rfl) ?_
          refine lv_if_eq (tgt := 45) hx hb dX11_text_38 (by decide) (fun c_74 => ?_) (fun c_74 => ?_)
          · skip
            have c_74 := ni_eq c_74 rfl li_0
            exfalso; omega
          · skip
            have c_74 := ni_ne c_74 rfl li_0
            refine lv_iconst (v := 0) hx hb dX11_text_41 (by decide) ?_
            refine lv_goto (tgt := 49) hx hb dX11_text_42 (by decide) ?_
            refine tz_put (ci := 8) (v := .int 0) (ty := .int) (C := RX11) (F := TX11) (N := 36) hx hb hU iX11 tyX11 tyX11_ok nmX11 hown hK hT hS 3 rfl rfl 17 (by decide) w802 (fun _ h9 => h9) rfl (by decide +kernel) rfl rfl (Nat.le_of_ble_eq_true rfl) dX11_text_49 (fun H locs hT hS => ?_)
            have hT : TP D A [(h1, aI (k 0) 36 anI), (h3, aJ (k 1) 9 anJ), (h9, aI (k 0) 36 anI), (h0, ob 8 [.int h0f0, .int h0f1, .int h0f2, .int h0f3, .int h0f4, .int h0f5, .ref h1, .ref h2, .int h0f8, .int h0f9, .ref h3, .ref h4, .ref h5, .ref h6, .ref h7, .ref h8, .ref h9, .int 0, .int v50, .int y12, .ref h10, .ref h11, .ref h12, .ref h13, .int h0f24, .int h0f25, .ref h14, .ref h15, .ref h16, .ref h17, .int h0f30, .int h0f31, .ref h18, .ref h19, .ref h20, .ref h21]), (h8, aI (k 0) 120 anI)] _ := hT
            refine lv_iload_n hx hb dX11_text_52 rfl (lv_at hl 2 rfl) ?_
            refine lv_if_ne (tgt := 66) hx hb dX11_text_53 (by decide) (fun c_75 => ?_) (fun c_75 => ?_)
            · skip
              have c_75 := ni_ne c_75 rfl li_0
              refine lv_aload_n hx hb dX11_text_66 rfl (lv_at hl 1 rfl) ?_
              refine lv_aload_n hx hb dX11_text_67 rfl (lv_at hl 1 rfl) ?_
              refine tz_get (ci := 8) (v := .int y12) (C := RX11) (F := TX11) (N := 36) hx hb hU iX11 hown hK hT 3 rfl rfl 19 (by decide) w804 (fun _ h9 => h9) rfl dX11_text_68 ?_
              refine tz_put (ci := 8) (v := .int y12) (ty := .int) (C := RX11) (F := TX11) (N := 36) hx hb hU iX11 tyX11 tyX11_ok nmX11 hown hK hT hS 3 rfl rfl 1 (by decide) w786 (fun _ h9 => h9) rfl (by decide +kernel) rfl rfl (Nat.le_of_ble_eq_true rfl) dX11_text_71 (fun H locs hT hS => ?_)
              have hT : TP D A [(h1, aI (k 0) 36 anI), (h3, aJ (k 1) 9 anJ), (h9, aI (k 0) 36 anI), (h0, ob 8 [.int h0f0, .int y12, .int h0f2, .int h0f3, .int h0f4, .int h0f5, .ref h1, .ref h2, .int h0f8, .int h0f9, .ref h3, .ref h4, .ref h5, .ref h6, .ref h7, .ref h8, .ref h9, .int 0, .int v50, .int y12, .ref h10, .ref h11, .ref h12, .ref h13, .int h0f24, .int h0f25, .ref h14, .ref h15, .ref h16, .ref h17, .int h0f30, .int h0f31, .ref h18, .ref h19, .ref h20, .ref h21]), (h8, aI (k 0) 120 anI)] _ := hT
              refine lv_iconst (v := 0) hx hb dX11_text_74 (by decide) ?_
              refine lv_istore_n (lv' := [(3, .int 0), (2, .int v50), (0, .ref h0), (1, .int y10)]) hx hb dX11_text_75 rfl hl (by decide) rfl (fun ls hl => ?_)
              exact lp76_37 (((-1) * (0 : Int32).toInt + 36 + 1).toNat + 1) (0) v50 _ _ _ (by have := li_0; omega) (by have := li_0; omega)  (Nat.lt_succ_self _) hT hS (lv_sub hl [2, 0] rfl)
            · skip
              have c_75 := ni_eq c_75 rfl li_0
              exfalso; omega
        · skip
          have hT := J _ hT1
          have hT : TP D A [(h1, aI (k 0) 36 anI), (h3, aJ (k 1) 9 anJ), (h9, aI (k 0) 36 anI), (h0, ob 8 [.int h0f0, .int h0f1, .int h0f2, .int h0f3, .int h0f4, .int h0f5, .ref h1, .ref h2, .int h0f8, .int h0f9, .ref h3, .ref h4, .ref h5, .ref h6, .ref h7, .ref h8, .ref h9, .int h0f17, .int v54, .int y12, .ref h10, .ref h11, .ref h12, .ref h13, .int h0f24, .int h0f25, .ref h14, .ref h15, .ref h16, .ref h17, .int h0f30, .int h0f31, .ref h18, .ref h19, .ref h20, .ref h21]), (h8, aI (k 0) 120 anI)] _ := hT
          refine lv_if_lt (tgt := 31) hx hb dX11_text_20 (by decide) (fun c_76 => ?_) (fun c_76 => ?_)
          · skip
            have c_76 := ni_lt c_76 rfl li_0
            refine lv_aload_n hx hb dX11_text_31 rfl (lv_at hl 0 rfl) ?_
            refine tz_get (ci := 8) (v := .int v54) (C := RX11) (F := TX11) (N := 36) hx hb hU iX11 hown hK hT 3 rfl rfl 18 (by decide) w803 (fun _ h9 => h9) rfl dX11_text_32 ?_
            refine lv_istore_n (lv' := [(2, .int v54), (0, .ref h0), (1, .int y10)]) hx hb dX11_text_35 rfl hl (by decide) rfl (fun ls hl => ?_)
            refine lv_aload_n hx hb dX11_text_36 rfl (lv_at hl 1 rfl) ?_
            refine lv_iload_n hx hb dX11_text_37 rfl (lv_at hl 2 rfl) ?_
            refine lv_if_eq (tgt := 45) hx hb dX11_text_38 (by decide) (fun c_77 => ?_) (fun c_77 => ?_)
            · skip
              have c_77 := ni_eq c_77 rfl li_0
              exfalso; omega
            · skip
              have c_77 := ni_ne c_77 rfl li_0
              refine lv_iconst (v := 0) hx hb dX11_text_41 (by decide) ?_
              refine lv_goto (tgt := 49) hx hb dX11_text_42 (by decide) ?_
              refine tz_put (ci := 8) (v := .int 0) (ty := .int) (C := RX11) (F := TX11) (N := 36) hx hb hU iX11 tyX11 tyX11_ok nmX11 hown hK hT hS 3 rfl rfl 17 (by decide) w802 (fun _ h9 => h9) rfl (by decide +kernel) rfl rfl (Nat.le_of_ble_eq_true rfl) dX11_text_49 (fun H locs hT hS => ?_)
              have hT : TP D A [(h1, aI (k 0) 36 anI), (h3, aJ (k 1) 9 anJ), (h9, aI (k 0) 36 anI), (h0, ob 8 [.int h0f0, .int h0f1, .int h0f2, .int h0f3, .int h0f4, .int h0f5, .ref h1, .ref h2, .int h0f8, .int h0f9, .ref h3, .ref h4, .ref h5, .ref h6, .ref h7, .ref h8, .ref h9, .int 0, .int v54, .int y12, .ref h10, .ref h11, .ref h12, .ref h13, .int h0f24, .int h0f25, .ref h14, .ref h15, .ref h16, .ref h17, .int h0f30, .int h0f31, .ref h18, .ref h19, .ref h20, .ref h21]), (h8, aI (k 0) 120 anI)] _ := hT
              refine lv_iload_n hx hb dX11_text_52 rfl (lv_at hl 2 rfl) ?_
              refine lv_if_ne (tgt := 66) hx hb dX11_text_53 (by decide) (fun c_78 => ?_) (fun c_78 => ?_)
              · skip
                have c_78 := ni_ne c_78 rfl li_0
                refine lv_aload_n hx hb dX11_text_66 rfl (lv_at hl 1 rfl) ?_
                refine lv_aload_n hx hb dX11_text_67 rfl (lv_at hl 1 rfl) ?_
                refine tz_get (ci := 8) (v := .int y12) (C := RX11) (F := TX11) (N := 36) hx hb hU iX11 hown hK hT 3 rfl rfl 19 (by decide) w804 (fun _ h9 => h9) rfl dX11_text_68 ?_
                refine tz_put (ci := 8) (v := .int y12) (ty := .int) (C := RX11) (F := TX11) (N := 36) hx hb hU iX11 tyX11 tyX11_ok nmX11 hown hK hT hS 3 rfl rfl 1 (by decide) w786 (fun _ h9 => h9) rfl (by decide +kernel) rfl rfl (Nat.le_of_ble_eq_true rfl) dX11_text_71 (fun H locs hT hS => ?_)
                have hT : TP D A [(h1, aI (k 0) 36 anI), (h3, aJ (k 1) 9 anJ), (h9, aI (k 0) 36 anI), (h0, ob 8 [.int h0f0, .int y12, .int h0f2, .int h0f3, .int h0f4, .int h0f5, .ref h1, .ref h2, .int h0f8, .int h0f9, .ref h3, .ref h4, .ref h5, .ref h6, .ref h7, .ref h8, .ref h9, .int 0, .int v54, .int y12, .ref h10, .ref h11, .ref h12, .ref h13, .int h0f24, .int h0f25, .ref h14, .ref h15, .ref h16, .ref h17, .int h0f30, .int h0f31, .ref h18, .ref h19, .ref h20, .ref h21]), (h8, aI (k 0) 120 anI)] _ := hT
                refine lv_iconst (v := 0) hx hb dX11_text_74 (by decide) ?_
                refine lv_istore_n (lv' := [(3, .int 0), (2, .int v54), (0, .ref h0), (1, .int y10)]) hx hb dX11_text_75 rfl hl (by decide) rfl (fun ls hl => ?_)
                exact lp76_37 (((-1) * (0 : Int32).toInt + 36 + 1).toNat + 1) (0) v54 _ _ _ (by have := li_0; omega) (by have := li_0; omega)  (Nat.lt_succ_self _) hT hS (lv_sub hl [2, 0] rfl)
              · skip
                have c_78 := ni_eq c_78 rfl li_0
                exfalso; omega
          · skip
            have c_76 := ni_nlt c_76 rfl li_0
            refine lv_aload_n hx hb dX11_text_23 rfl (lv_at hl 0 rfl) ?_
            refine tcI (Tc := [(h0, ob 8 [.int h0f0, .int h0f1, .int h0f2, .int h0f3, .int h0f4, .int h0f5, .ref h1, .ref h2, .int h0f8, .int h0f9, .ref h3, .ref h4, .ref h5, .ref h6, .ref h7, .ref h8, .ref h9, .int h0f17, .int v54, .int y12, .ref h10, .ref h11, .ref h12, .ref h13, .int h0f24, .int h0f25, .ref h14, .ref h15, .ref h16, .ref h17, .int h0f30, .int h0f31, .ref h18, .ref h19, .ref h20, .ref h21]), (h3, aJ (k 1) 9 anJ), (h8, aI (k 0) 120 anI), (h9, aI (k 0) 36 anI)]) (Tr := [(h1, aI (k 0) 36 anI)]) (as := [h0, h3, h8, h9]) (zcV (q0 := 3) (ci := 8) (As := []) (rest := []) (Tc := [(h0, ob 8 [.int h0f0, .int h0f1, .int h0f2, .int h0f3, .int h0f4, .int h0f5, .ref h1, .ref h2, .int h0f8, .int h0f9, .ref h3, .ref h4, .ref h5, .ref h6, .ref h7, .ref h8, .ref h9, .int h0f17, .int v54, .int y12, .ref h10, .ref h11, .ref h12, .ref h13, .int h0f24, .int h0f25, .ref h14, .ref h15, .ref h16, .ref h17, .int h0f30, .int h0f31, .ref h18, .ref h19, .ref h20, .ref h21]), (h3, aJ (k 1) 9 anJ), (h8, aI (k 0) 120 anI), (h9, aI (k 0) 36 anI)]) hx hb hml hown hU hK hT rfl rfl [3, 1, 4, 2] rfl (by decide) (cX11_readsMatrix_5491f l D k _ h0 h3 h8 h9 h1 h2 h4 h5 h6 h7 h10 h11 h12 h13 h14 h15 h16 h17 h18 h19 h20 h21 h0f0 h0f1 h0f2 h0f3 h0f4 h0f5 h0f8 h0f9 h0f17 v54 y12 h0f24 h0f25 h0f30 h0f31 (by omega) (by omega) (by omega) (by omega) (by omega) (by omega) (by omega) (by omega) (by omega) (by omega) (by omega) (by omega) (by omega) (by omega) (by omega)) w1017 w1014 w1016 w43 w72 hdX11_readsMatrix ⟨rfl, rfl⟩ ⟨Nat.le_of_ble_eq_true rfl, Nat.le_of_ble_eq_true rfl⟩ rfl hl.1 (Nat.le_of_ble_eq_true rfl) dX11_text_24 ⟨Nat.le_of_ble_eq_true rfl, Nat.le_of_ble_eq_true rfl⟩) hT hS hA [3, 1, 4, 2] [0] rfl rfl rfl (by decide) (by decide) (fun r79 H locs hB J hS => ?_)
            rcases hB with ⟨v80, b_v80, rfl, hT1⟩ | ⟨v81, v82, v83, b_v81, b_v82, b_v83, c_84, c_85, c_86, c_87, c_88, rfl, hT1⟩
            · skip
              have hT := J _ hT1
              have hT : TP D A [(h1, aI (k 0) 36 anI), (h0, ob 8 [.int h0f0, .int h0f1, .int h0f2, .int h0f3, .int h0f4, .int h0f5, .ref h1, .ref h2, .int h0f8, .int h0f9, .ref h3, .ref h4, .ref h5, .ref h6, .ref h7, .ref h8, .ref h9, .int h0f17, .int v80, .int y12, .ref h10, .ref h11, .ref h12, .ref h13, .int h0f24, .int h0f25, .ref h14, .ref h15, .ref h16, .ref h17, .int h0f30, .int h0f31, .ref h18, .ref h19, .ref h20, .ref h21]), (h3, aJ (k 1) 9 anJ), (h8, aI (k 0) 120 anI), (h9, aI (k 0) 36 anI)] _ := hT
              refine lv_istore_n (lv' := [(1, .int 0), (0, .ref h0)]) hx hb dX11_text_27 rfl hl (by decide) rfl (fun ls hl => ?_)
              refine lv_goto (tgt := 12) hx hb dX11_text_28 (by decide) ?_
              exact ih12_13 (0) v80 y12 _ _ _ (by have := li_0; omega) (by have := li_0; omega) (by have := li_0; omega)  (by have := li_0; omega) (hT.sub [1, 0, 2, 3, 4] (by decide) rfl) hS (lv_sub hl [1, 0] rfl)
            · skip
              have hT := J _ hT1
              have hT : TP D A [(h1, aI (k 0) 36 anI), (h0, ob 8 [.int h0f0, .int h0f1, .int h0f2, .int h0f3, .int h0f4, .int h0f5, .ref h1, .ref h2, .int h0f8, .int h0f9, .ref h3, .ref h4, .ref h5, .ref h6, .ref h7, .ref h8, .ref h9, .int h0f17, .int v81, .int v82, .ref h10, .ref h11, .ref h12, .ref h13, .int h0f24, .int h0f25, .ref h14, .ref h15, .ref h16, .ref h17, .int h0f30, .int h0f31, .ref h18, .ref h19, .ref h20, .ref h21]), (h3, aJ (k 1) 9 anJ), (h8, aI (k 0) 120 anI), (h9, aI (k 0) 36 anI)] _ := hT
              refine lv_istore_n (lv' := [(1, .int 1), (0, .ref h0)]) hx hb dX11_text_27 rfl hl (by decide) rfl (fun ls hl => ?_)
              refine lv_goto (tgt := 12) hx hb dX11_text_28 (by decide) ?_
              exact ih12_13 (1) v81 v82 _ _ _ (by have := li_1; omega) (by have := li_1; omega) (by have := li_1; omega)  (by have := li_1; omega) (hT.sub [1, 0, 2, 3, 4] (by decide) rfl) hS (lv_sub hl [1, 0] rfl)
        · skip
          have hT := J _ hT1
          have hT : TP D A [(h1, aI (k 0) 36 anI), (h3, aJ (k 1) 9 anJ), (h9, aI (k 0) 36 anI), (h0, ob 8 [.int h0f0, .int h0f1, .int h0f2, .int h0f3, .int h0f4, .int h0f5, .ref h1, .ref h2, .int h0f8, .int h0f9, .ref h3, .ref h4, .ref h5, .ref h6, .ref h7, .ref h8, .ref h9, .int h0f17, .int v60, .int y12, .ref h10, .ref h11, .ref h12, .ref h13, .int h0f24, .int h0f25, .ref h14, .ref h15, .ref h16, .ref h17, .int h0f30, .int h0f31, .ref h18, .ref h19, .ref h20, .ref h21]), (h8, aI (k 0) 120 anI)] _ := hT
          refine lv_if_lt (tgt := 31) hx hb dX11_text_20 (by decide) (fun _ => ?_) (fun cc => absurd (by decide +kernel) cc)
          refine lv_aload_n hx hb dX11_text_31 rfl (lv_at hl 0 rfl) ?_
          refine tz_get (ci := 8) (v := .int v60) (C := RX11) (F := TX11) (N := 36) hx hb hU iX11 hown hK hT 3 rfl rfl 18 (by decide) w803 (fun _ h9 => h9) rfl dX11_text_32 ?_
          refine lv_istore_n (lv' := [(2, .int v60), (0, .ref h0), (1, .int y10)]) hx hb dX11_text_35 rfl hl (by decide) rfl (fun ls hl => ?_)
          refine lv_aload_n hx hb dX11_text_36 rfl (lv_at hl 1 rfl) ?_
          refine lv_iload_n hx hb dX11_text_37 rfl (lv_at hl 2 rfl) ?_
          refine lv_if_eq (tgt := 45) hx hb dX11_text_38 (by decide) (fun c_89 => ?_) (fun c_89 => ?_)
          · skip
            have c_89 := ni_eq c_89 rfl li_0
            exfalso; omega
          · skip
            have c_89 := ni_ne c_89 rfl li_0
            refine lv_iconst (v := 0) hx hb dX11_text_41 (by decide) ?_
            refine lv_goto (tgt := 49) hx hb dX11_text_42 (by decide) ?_
            refine tz_put (ci := 8) (v := .int 0) (ty := .int) (C := RX11) (F := TX11) (N := 36) hx hb hU iX11 tyX11 tyX11_ok nmX11 hown hK hT hS 3 rfl rfl 17 (by decide) w802 (fun _ h9 => h9) rfl (by decide +kernel) rfl rfl (Nat.le_of_ble_eq_true rfl) dX11_text_49 (fun H locs hT hS => ?_)
            have hT : TP D A [(h1, aI (k 0) 36 anI), (h3, aJ (k 1) 9 anJ), (h9, aI (k 0) 36 anI), (h0, ob 8 [.int h0f0, .int h0f1, .int h0f2, .int h0f3, .int h0f4, .int h0f5, .ref h1, .ref h2, .int h0f8, .int h0f9, .ref h3, .ref h4, .ref h5, .ref h6, .ref h7, .ref h8, .ref h9, .int 0, .int v60, .int y12, .ref h10, .ref h11, .ref h12, .ref h13, .int h0f24, .int h0f25, .ref h14, .ref h15, .ref h16, .ref h17, .int h0f30, .int h0f31, .ref h18, .ref h19, .ref h20, .ref h21]), (h8, aI (k 0) 120 anI)] _ := hT
            refine lv_iload_n hx hb dX11_text_52 rfl (lv_at hl 2 rfl) ?_
            refine lv_if_ne (tgt := 66) hx hb dX11_text_53 (by decide) (fun c_90 => ?_) (fun c_90 => ?_)
            · skip
              have c_90 := ni_ne c_90 rfl li_0
              refine lv_aload_n hx hb dX11_text_66 rfl (lv_at hl 1 rfl) ?_
              refine lv_aload_n hx hb dX11_text_67 rfl (lv_at hl 1 rfl) ?_
              refine tz_get (ci := 8) (v := .int y12) (C := RX11) (F := TX11) (N := 36) hx hb hU iX11 hown hK hT 3 rfl rfl 19 (by decide) w804 (fun _ h9 => h9) rfl dX11_text_68 ?_
              refine tz_put (ci := 8) (v := .int y12) (ty := .int) (C := RX11) (F := TX11) (N := 36) hx hb hU iX11 tyX11 tyX11_ok nmX11 hown hK hT hS 3 rfl rfl 1 (by decide) w786 (fun _ h9 => h9) rfl (by decide +kernel) rfl rfl (Nat.le_of_ble_eq_true rfl) dX11_text_71 (fun H locs hT hS => ?_)
              have hT : TP D A [(h1, aI (k 0) 36 anI), (h3, aJ (k 1) 9 anJ), (h9, aI (k 0) 36 anI), (h0, ob 8 [.int h0f0, .int y12, .int h0f2, .int h0f3, .int h0f4, .int h0f5, .ref h1, .ref h2, .int h0f8, .int h0f9, .ref h3, .ref h4, .ref h5, .ref h6, .ref h7, .ref h8, .ref h9, .int 0, .int v60, .int y12, .ref h10, .ref h11, .ref h12, .ref h13, .int h0f24, .int h0f25, .ref h14, .ref h15, .ref h16, .ref h17, .int h0f30, .int h0f31, .ref h18, .ref h19, .ref h20, .ref h21]), (h8, aI (k 0) 120 anI)] _ := hT
              refine lv_iconst (v := 0) hx hb dX11_text_74 (by decide) ?_
              refine lv_istore_n (lv' := [(3, .int 0), (2, .int v60), (0, .ref h0), (1, .int y10)]) hx hb dX11_text_75 rfl hl (by decide) rfl (fun ls hl => ?_)
              exact lp76_37 (((-1) * (0 : Int32).toInt + 36 + 1).toNat + 1) (0) v60 _ _ _ (by have := li_0; omega) (by have := li_0; omega)  (Nat.lt_succ_self _) hT hS (lv_sub hl [2, 0] rfl)
            · skip
              have c_90 := ni_eq c_90 rfl li_0
              exfalso; omega
        · skip
          have hT := J _ hT1
          have hT : TP D A [(h1, aI (k 0) 36 anI), (h3, aJ (k 1) 9 anJ), (h9, aI (k 0) 36 anI), (h0, ob 8 [.int h0f0, .int h0f1, .int h0f2, .int h0f3, .int h0f4, .int h0f5, .ref h1, .ref h2, .int h0f8, .int h0f9, .ref h3, .ref h4, .ref h5, .ref h6, .ref h7, .ref h8, .ref h9, .int h0f17, .int v67, .int y12, .ref h10, .ref h11, .ref h12, .ref h13, .int h0f24, .int h0f25, .ref h14, .ref h15, .ref h16, .ref h17, .int h0f30, .int h0f31, .ref h18, .ref h19, .ref h20, .ref h21]), (h8, aI (k 0) 120 anI)] _ := hT
          refine lv_if_lt (tgt := 31) hx hb dX11_text_20 (by decide) (fun c_91 => ?_) (fun c_91 => ?_)
          · skip
            have c_91 := ni_lt c_91 rfl li_0
            refine lv_aload_n hx hb dX11_text_31 rfl (lv_at hl 0 rfl) ?_
            refine tz_get (ci := 8) (v := .int v67) (C := RX11) (F := TX11) (N := 36) hx hb hU iX11 hown hK hT 3 rfl rfl 18 (by decide) w803 (fun _ h9 => h9) rfl dX11_text_32 ?_
            refine lv_istore_n (lv' := [(2, .int v67), (0, .ref h0), (1, .int y10)]) hx hb dX11_text_35 rfl hl (by decide) rfl (fun ls hl => ?_)
            refine lv_aload_n hx hb dX11_text_36 rfl (lv_at hl 1 rfl) ?_
            refine lv_iload_n hx hb dX11_text_37 rfl (lv_at hl 2 rfl) ?_
            refine lv_if_eq (tgt := 45) hx hb dX11_text_38 (by decide) (fun c_92 => ?_) (fun c_92 => ?_)
            · skip
              have c_92 := ni_eq c_92 rfl li_0
              exfalso; omega
            · skip
              have c_92 := ni_ne c_92 rfl li_0
              refine lv_iconst (v := 0) hx hb dX11_text_41 (by decide) ?_
              refine lv_goto (tgt := 49) hx hb dX11_text_42 (by decide) ?_
              refine tz_put (ci := 8) (v := .int 0) (ty := .int) (C := RX11) (F := TX11) (N := 36) hx hb hU iX11 tyX11 tyX11_ok nmX11 hown hK hT hS 3 rfl rfl 17 (by decide) w802 (fun _ h9 => h9) rfl (by decide +kernel) rfl rfl (Nat.le_of_ble_eq_true rfl) dX11_text_49 (fun H locs hT hS => ?_)
              have hT : TP D A [(h1, aI (k 0) 36 anI), (h3, aJ (k 1) 9 anJ), (h9, aI (k 0) 36 anI), (h0, ob 8 [.int h0f0, .int h0f1, .int h0f2, .int h0f3, .int h0f4, .int h0f5, .ref h1, .ref h2, .int h0f8, .int h0f9, .ref h3, .ref h4, .ref h5, .ref h6, .ref h7, .ref h8, .ref h9, .int 0, .int v67, .int y12, .ref h10, .ref h11, .ref h12, .ref h13, .int h0f24, .int h0f25, .ref h14, .ref h15, .ref h16, .ref h17, .int h0f30, .int h0f31, .ref h18, .ref h19, .ref h20, .ref h21]), (h8, aI (k 0) 120 anI)] _ := hT
              refine lv_iload_n hx hb dX11_text_52 rfl (lv_at hl 2 rfl) ?_
              refine lv_if_ne (tgt := 66) hx hb dX11_text_53 (by decide) (fun c_93 => ?_) (fun c_93 => ?_)
              · skip
                have c_93 := ni_ne c_93 rfl li_0
                refine lv_aload_n hx hb dX11_text_66 rfl (lv_at hl 1 rfl) ?_
                refine lv_aload_n hx hb dX11_text_67 rfl (lv_at hl 1 rfl) ?_
                refine tz_get (ci := 8) (v := .int y12) (C := RX11) (F := TX11) (N := 36) hx hb hU iX11 hown hK hT 3 rfl rfl 19 (by decide) w804 (fun _ h9 => h9) rfl dX11_text_68 ?_
                refine tz_put (ci := 8) (v := .int y12) (ty := .int) (C := RX11) (F := TX11) (N := 36) hx hb hU iX11 tyX11 tyX11_ok nmX11 hown hK hT hS 3 rfl rfl 1 (by decide) w786 (fun _ h9 => h9) rfl (by decide +kernel) rfl rfl (Nat.le_of_ble_eq_true rfl) dX11_text_71 (fun H locs hT hS => ?_)
                have hT : TP D A [(h1, aI (k 0) 36 anI), (h3, aJ (k 1) 9 anJ), (h9, aI (k 0) 36 anI), (h0, ob 8 [.int h0f0, .int y12, .int h0f2, .int h0f3, .int h0f4, .int h0f5, .ref h1, .ref h2, .int h0f8, .int h0f9, .ref h3, .ref h4, .ref h5, .ref h6, .ref h7, .ref h8, .ref h9, .int 0, .int v67, .int y12, .ref h10, .ref h11, .ref h12, .ref h13, .int h0f24, .int h0f25, .ref h14, .ref h15, .ref h16, .ref h17, .int h0f30, .int h0f31, .ref h18, .ref h19, .ref h20, .ref h21]), (h8, aI (k 0) 120 anI)] _ := hT
                refine lv_iconst (v := 0) hx hb dX11_text_74 (by decide) ?_
                refine lv_istore_n (lv' := [(3, .int 0), (2, .int v67), (0, .ref h0), (1, .int y10)]) hx hb dX11_text_75 rfl hl (by decide) rfl (fun ls hl => ?_)
                exact lp76_37 (((-1) * (0 : Int32).toInt + 36 + 1).toNat + 1) (0) v67 _ _ _ (by have := li_0; omega) (by have := li_0; omega)  (Nat.lt_succ_self _) hT hS (lv_sub hl [2, 0] rfl)
              · skip
                have c_93 := ni_eq c_93 rfl li_0
                exfalso; omega
          · skip
            have c_91 := ni_nlt c_91 rfl li_0
            refine lv_aload_n hx hb dX11_text_23 rfl (lv_at hl 0 rfl) ?_
            refine tcI (Tc := [(h0, ob 8 [.int h0f0, .int h0f1, .int h0f2, .int h0f3, .int h0f4, .int h0f5, .ref h1, .ref h2, .int h0f8, .int h0f9, .ref h3, .ref h4, .ref h5, .ref h6, .ref h7, .ref h8, .ref h9, .int h0f17, .int v67, .int y12, .ref h10, .ref h11, .ref h12, .ref h13, .int h0f24, .int h0f25, .ref h14, .ref h15, .ref h16, .ref h17, .int h0f30, .int h0f31, .ref h18, .ref h19, .ref h20, .ref h21]), (h3, aJ (k 1) 9 anJ), (h8, aI (k 0) 120 anI), (h9, aI (k 0) 36 anI)]) (Tr := [(h1, aI (k 0) 36 anI)]) (as := [h0, h3, h8, h9]) (zcV (q0 := 3) (ci := 8) (As := []) (rest := []) (Tc := [(h0, ob 8 [.int h0f0, .int h0f1, .int h0f2, .int h0f3, .int h0f4, .int h0f5, .ref h1, .ref h2, .int h0f8, .int h0f9, .ref h3, .ref h4, .ref h5, .ref h6, .ref h7, .ref h8, .ref h9, .int h0f17, .int v67, .int y12, .ref h10, .ref h11, .ref h12, .ref h13, .int h0f24, .int h0f25, .ref h14, .ref h15, .ref h16, .ref h17, .int h0f30, .int h0f31, .ref h18, .ref h19, .ref h20, .ref h21]), (h3, aJ (k 1) 9 anJ), (h8, aI (k 0) 120 anI), (h9, aI (k 0) 36 anI)]) hx hb hml hown hU hK hT rfl rfl [3, 1, 4, 2] rfl (by decide) (cX11_readsMatrix_5491f l D k _ h0 h3 h8 h9 h1 h2 h4 h5 h6 h7 h10 h11 h12 h13 h14 h15 h16 h17 h18 h19 h20 h21 h0f0 h0f1 h0f2 h0f3 h0f4 h0f5 h0f8 h0f9 h0f17 v67 y12 h0f24 h0f25 h0f30 h0f31 (by omega) (by omega) (by omega) (by omega) (by omega) (by omega) (by omega) (by omega) (by omega) (by omega) (by omega) (by omega) (by omega) (by omega) (by omega)) w1017 w1014 w1016 w43 w72 hdX11_readsMatrix ⟨rfl, rfl⟩ ⟨Nat.le_of_ble_eq_true rfl, Nat.le_of_ble_eq_true rfl⟩ rfl hl.1 (Nat.le_of_ble_eq_true rfl) dX11_text_24 ⟨Nat.le_of_ble_eq_true rfl, Nat.le_of_ble_eq_true rfl⟩) hT hS hA [3, 1, 4, 2] [0] rfl rfl rfl (by decide) (by decide) (fun r94 H locs hB J hS => ?_)
            rcases hB with ⟨v95, b_v95, rfl, hT1⟩ | ⟨v96, v97, v98, b_v96, b_v97, b_v98, c_99, c_100, c_101, c_102, c_103, rfl, hT1⟩
            · skip
              have hT := J _ hT1
              have hT : TP D A [(h1, aI (k 0) 36 anI), (h0, ob 8 [.int h0f0, .int h0f1, .int h0f2, .int h0f3, .int h0f4, .int h0f5, .ref h1, .ref h2, .int h0f8, .int h0f9, .ref h3, .ref h4, .ref h5, .ref h6, .ref h7, .ref h8, .ref h9, .int h0f17, .int v95, .int y12, .ref h10, .ref h11, .ref h12, .ref h13, .int h0f24, .int h0f25, .ref h14, .ref h15, .ref h16, .ref h17, .int h0f30, .int h0f31, .ref h18, .ref h19, .ref h20, .ref h21]), (h3, aJ (k 1) 9 anJ), (h8, aI (k 0) 120 anI), (h9, aI (k 0) 36 anI)] _ := hT
              refine lv_istore_n (lv' := [(1, .int 0), (0, .ref h0)]) hx hb dX11_text_27 rfl hl (by decide) rfl (fun ls hl => ?_)
              refine lv_goto (tgt := 12) hx hb dX11_text_28 (by decide) ?_
              exact ih12_13 (0) v95 y12 _ _ _ (by have := li_0; omega) (by have := li_0; omega) (by have := li_0; omega)  (by have := li_0; omega) (hT.sub [1, 0, 2, 3, 4] (by decide) rfl) hS (lv_sub hl [1, 0] rfl)
            · skip
              have hT := J _ hT1
              have hT : TP D A [(h1, aI (k 0) 36 anI), (h0, ob 8 [.int h0f0, .int h0f1, .int h0f2, .int h0f3, .int h0f4, .int h0f5, .ref h1, .ref h2, .int h0f8, .int h0f9, .ref h3, .ref h4, .ref h5, .ref h6, .ref h7, .ref h8, .ref h9, .int h0f17, .int v96, .int v97, .ref h10, .ref h11, .ref h12, .ref h13, .int h0f24, .int h0f25, .ref h14, .ref h15, .ref h16, .ref h17, .int h0f30, .int h0f31, .ref h18, .ref h19, .ref h20, .ref h21]), (h3, aJ (k 1) 9 anJ), (h8, aI (k 0) 120 anI), (h9, aI (k 0) 36 anI)] _ := hT
              refine lv_istore_n (lv' := [(1, .int 1), (0, .ref h0)]) hx hb dX11_text_27 rfl hl (by decide) rfl (fun ls hl => ?_)
              refine lv_goto (tgt := 12) hx hb dX11_text_28 (by decide) ?_
              exact ih12_13 (1) v96 v97 _ _ _ (by have := li_1; omega) (by have := li_1; omega) (by have := li_1; omega)  (by have := li_1; omega) (hT.sub [1, 0, 2, 3, 4] (by decide) rfl) hS (lv_sub hl [1, 0] rfl)
  exact lp12_13 ((5 * (1 : Int32).toInt + 4 - (0 : Int32).toInt).toNat + 1) (1) (0) (0) _ _ _ (by have := li_1; have := li_0; omega) (by have := li_1; have := li_0; omega) (by have := li_1; have := li_0; omega)  (Nat.lt_succ_self _) hT hS (lv_sub hl [1, 0] rfl)
abbrev Rm_cJ7_fill_53178_be669 : Room := { frames := 0, cells := 0, slots := 0, locals := 0 }
abbrev B_cJ7_fill_53178_be669 (D : va_G) (k : Nat → ClassId) (h0 : Nat) (x1 : Int32) (A : Nat → Prop) (H : Heap) : Prop := TP D A [(h0, aI (k 0) 256 (rgI (-1) 99))] H
set_option maxHeartbeats 4000000 in
set_option maxRecDepth 100000 in
theorem cJ7_fill_53178_be669 (l : Launch) (D : va_G) (k : Nat → ClassId) (sz : Nat) (h0 : Nat) (x1 : Int32) (b_x1 : (-1) ≤ x1.toInt ∧ x1.toInt ≤ (-1)) : Met l yJ7_fill_53178 (Cond.code yJ7_fill_53178 cJ7_fill_53178 4 none :: uw) Rm_cJ7_fill_53178_be669 (pT D k sz [.ref h0, .int x1] [(h0, aI (k 0) 256 (rgI (-1) 99))]) (qV (B_cJ7_fill_53178_be669 D k h0 x1 (zA [h0] sz)) (zA [h0] sz)) 0 0 (zA [h0] sz) := by
  refine tz_begin (as := [h0]) (Qc := fun A => qV (B_cJ7_fill_53178_be669 D k h0 x1 A) A) (by decide +kernel) rfl (Nat.le_of_ble_eq_true rfl) ?_
  intro p e s m args below meth c ls A Q hx hb hr hml hown hlocks hin hU hK hT hS hA hl hQ
  have hl : lv_has ls 4 [(0, .ref h0), (1, .int x1)] := hl
  have hT : TP D A [(h0, aI (k 0) 256 (rgI (-1) 99))] s.heap := hT
  refine lv_iconst (v := 0) hx hb dJ7_fill_53178_0 (by decide) ?_
  refine lv_istore_n (lv' := [(2, .int 0), (0, .ref h0), (1, .int x1)]) hx hb dJ7_fill_53178_1 rfl hl (by decide) rfl (fun ls hl => ?_)
  refine lv_aload_n hx hb dJ7_fill_53178_2 rfl (lv_at hl 1 rfl) ?_
  refine tz_aleni (v := 256) hx hb hK hT 0 rfl (by decide +kernel) dJ7_fill_53178_3 ?_
  refine lv_istore_n (lv' := [(3, .int 256), (2, .int 0), (0, .ref h0), (1, .int x1)]) hx hb dJ7_fill_53178_4 rfl hl (by decide) rfl (fun ls hl => ?_)
  have lp5_23 : ∀ (n : Nat) (y22 : Int32) (H : Heap) (locs : List Loc) (ls : Array Slot), (0 ≤ y22.toInt ∧ y22.toInt ≤ 256) → ((-1) * y22.toInt + 256 + 1).toNat < n → TP D A [(h0, aI (k 0) 256 (rgI (-1) 99))] H → va_S A s.heap H locs → lv_has ls 4 [(0, .ref h0), (1, .int x1), (2, .int y22), (3, .int 256)] → W p l e Rm_cJ7_fill_53178_be669 s m args below meth c H locs 0 0 Q (F0 m 5 ls []) := by
    intro n
    induction n with
    | zero => intro y22 H locs ls b_y22 hm hT hS hl; exact absurd hm (Nat.not_lt_zero _)
    | succ n ih =>
      intro y22 H locs ls b_y22 hm hT hS hl
      have ih5_23 := ih
      clear ih
      refine lv_iload_n hx hb dJ7_fill_53178_5 rfl (lv_at hl 2 rfl) ?_
      refine lv_iload_n hx hb dJ7_fill_53178_6 rfl (lv_at hl 3 rfl) ?_
      refine lv_icmp_ge (tgt := 20) hx hb dJ7_fill_53178_7 (by decide) (fun c_24 => ?_) (fun c_24 => ?_)
      · skip
        have c_24 := ni_le c_24 li_256 rfl
        exact tz_retV (B := B_cJ7_fill_53178_be669 D k h0 x1) hQ hx hb hr hlocks hS (Nat.le_of_ble_eq_true rfl) (Nat.le_of_ble_eq_true rfl) dJ7_fill_53178_20 (hT)
      · skip
        have c_24 := ni_nle c_24 li_256 rfl
        refine lv_aload_n hx hb dJ7_fill_53178_10 rfl (lv_at hl 0 rfl) ?_
        refine lv_iload_n hx hb dJ7_fill_53178_11 rfl (lv_at hl 2 rfl) ?_
        refine lv_iload_n hx hb dJ7_fill_53178_12 rfl (lv_at hl 1 rfl) ?_
        refine tz_iast hx hb hK hT hS 0 rfl (by omega) (rg_put (by omega)) dJ7_fill_53178_13 (fun H locs hT hS => ?_)
        obtain ⟨v25, e_v25⟩ : ∃ x : Int32, x = y22 + Int32.ofInt 1 := ⟨_, rfl⟩
        have f_v25 := e_v25.symm
        have e_v25 : v25.toInt = y22.toInt + 1 := ai_add e_v25 rfl (show (Int32.ofInt 1).toInt = 1 from (by decide +kernel)) (by omega)
        refine lv_iinc (v := v25) (lv' := [(2, .int v25), (0, .ref h0), (1, .int x1), (3, .int 256)]) hx hb dJ7_fill_53178_14 hl (k := 2) rfl f_v25 (by decide) rfl (fun ls hl => ?_)
        refine lv_goto (tgt := 5) hx hb dJ7_fill_53178_17 (by decide) ?_
        exact ih5_23 v25 _ _ _ (by omega)  (by omega) hT hS (lv_sub hl [1, 2, 0, 3] rfl)
  exact lp5_23 (((-1) * (0 : Int32).toInt + 256 + 1).toNat + 1) (0) _ _ _ (by have := li_0; omega)  (Nat.lt_succ_self _) hT hS (lv_sub hl [2, 3, 1, 0] rfl)
abbrev Rm_cX4_clear_4f28a : Room := { frames := 1, cells := 0, slots := 0, locals := 23 }
abbrev B_cX4_clear_4f28a (D : va_G) (k : Nat → ClassId) (h0 h6 h1 h2 h3 h4 h5 h7 h8 : Nat) (x1 : Int32) (x2 : Int32) (h0f8 : Int32) (h0f9 : Int32) (h0f10 : Int32) (h0f11 : Int32) (A : Nat → Prop) (H : Heap) : Prop := TP D A [(h0, ob 3 [.ref h1, .ref h2, .ref h3, .ref h4, .ref h5, .ref h6, .ref h7, .ref h8, .int x1, .int x2, .int 0, .int 0]), (h6, aI (k 0) 256 (rgI (-1) 99))] H
set_option maxHeartbeats 4000000 in
set_option maxRecDepth 100000 in
theorem cX4_clear_4f28a (l : Launch) (D : va_G) (k : Nat → ClassId) (sz : Nat) (h0 h6 h1 h2 h3 h4 h5 h7 h8 : Nat) (x1 : Int32) (x2 : Int32) (h0f8 : Int32) (h0f9 : Int32) (h0f10 : Int32) (h0f11 : Int32) (b_x1 : 1 ≤ x1.toInt ∧ x1.toInt ≤ 9) (b_x2 : 100 ≤ x2.toInt ∧ x2.toInt ≤ 100) (b_h0f8 : 0 ≤ h0f8.toInt ∧ h0f8.toInt ≤ 9) (b_h0f9 : 0 ≤ h0f9.toInt ∧ h0f9.toInt ≤ 100) (b_h0f10 : 0 ≤ h0f10.toInt ∧ h0f10.toInt ≤ 100) (b_h0f11 : 0 ≤ h0f11.toInt ∧ h0f11.toInt ≤ 1) : Met l yX4_clear (Cond.code yX4_clear cX4_clear 3 none :: uw) Rm_cX4_clear_4f28a (pT D k sz [.ref h0, .int x1, .int x2] [(h0, ob 3 [.ref h1, .ref h2, .ref h3, .ref h4, .ref h5, .ref h6, .ref h7, .ref h8, .int h0f8, .int h0f9, .int h0f10, .int h0f11]), (h6, aI (k 0) 256 (rgI (-1) 99))]) (qV (B_cX4_clear_4f28a D k h0 h6 h1 h2 h3 h4 h5 h7 h8 x1 x2 h0f8 h0f9 h0f10 h0f11 (zA [h0, h6] sz)) (zA [h0, h6] sz)) 0 0 (zA [h0, h6] sz) := by
  refine tz_begin (as := [h0, h6]) (Qc := fun A => qV (B_cX4_clear_4f28a D k h0 h6 h1 h2 h3 h4 h5 h7 h8 x1 x2 h0f8 h0f9 h0f10 h0f11 A) A) (by decide +kernel) rfl (Nat.le_of_ble_eq_true rfl) ?_
  intro p e s m args below meth c ls A Q hx hb hr hml hown hlocks hin hU hK hT hS hA hl hQ
  have hl : lv_has ls 3 [(0, .ref h0), (1, .int x1), (2, .int x2)] := hl
  have hT : TP D A [(h0, ob 3 [.ref h1, .ref h2, .ref h3, .ref h4, .ref h5, .ref h6, .ref h7, .ref h8, .int h0f8, .int h0f9, .int h0f10, .int h0f11]), (h6, aI (k 0) 256 (rgI (-1) 99))] s.heap := hT
  refine lv_aload_n hx hb dX4_clear_0 rfl (lv_at hl 0 rfl) ?_
  refine lv_iload_n hx hb dX4_clear_1 rfl (lv_at hl 1 rfl) ?_
  refine tz_put (ci := 3) (v := .int x1) (ty := .int) (C := RX4) (F := TX4) (N := 12) hx hb hU iX4 tyX4 tyX4_ok nmX4 hown hK hT hS 0 rfl rfl 8 (by decide) w162 (fun _ h9 => h9) rfl (by decide +kernel) rfl rfl (Nat.le_of_ble_eq_true rfl) dX4_clear_2 (fun H locs hT hS => ?_)
  have hT : TP D A [(h0, ob 3 [.ref h1, .ref h2, .ref h3, .ref h4, .ref h5, .ref h6, .ref h7, .ref h8, .int x1, .int h0f9, .int h0f10, .int h0f11]), (h6, aI (k 0) 256 (rgI (-1) 99))] _ := hT
  refine lv_aload_n hx hb dX4_clear_5 rfl (lv_at hl 0 rfl) ?_
  refine lv_iload_n hx hb dX4_clear_6 rfl (lv_at hl 2 rfl) ?_
  refine tz_put (ci := 3) (v := .int x2) (ty := .int) (C := RX4) (F := TX4) (N := 12) hx hb hU iX4 tyX4 tyX4_ok nmX4 hown hK hT hS 0 rfl rfl 9 (by decide) w163 (fun _ h9 => h9) rfl (by decide +kernel) rfl rfl (Nat.le_of_ble_eq_true rfl) dX4_clear_7 (fun H locs hT hS => ?_)
  have hT : TP D A [(h0, ob 3 [.ref h1, .ref h2, .ref h3, .ref h4, .ref h5, .ref h6, .ref h7, .ref h8, .int x1, .int x2, .int h0f10, .int h0f11]), (h6, aI (k 0) 256 (rgI (-1) 99))] _ := hT
  refine lv_aload_n hx hb dX4_clear_10 rfl (lv_at hl 0 rfl) ?_
  refine lv_iconst (v := 0) hx hb dX4_clear_11 (by decide) ?_
  refine tz_put (ci := 3) (v := .int 0) (ty := .int) (C := RX4) (F := TX4) (N := 12) hx hb hU iX4 tyX4 tyX4_ok nmX4 hown hK hT hS 0 rfl rfl 10 (by decide) w164 (fun _ h9 => h9) rfl (by decide +kernel) rfl rfl (Nat.le_of_ble_eq_true rfl) dX4_clear_12 (fun H locs hT hS => ?_)
  have hT : TP D A [(h0, ob 3 [.ref h1, .ref h2, .ref h3, .ref h4, .ref h5, .ref h6, .ref h7, .ref h8, .int x1, .int x2, .int 0, .int h0f11]), (h6, aI (k 0) 256 (rgI (-1) 99))] _ := hT
  refine lv_aload_n hx hb dX4_clear_15 rfl (lv_at hl 0 rfl) ?_
  refine lv_iconst (v := 0) hx hb dX4_clear_16 (by decide) ?_
  refine tz_put (ci := 3) (v := .int 0) (ty := .boolean) (C := RX4) (F := TX4) (N := 12) hx hb hU iX4 tyX4 tyX4_ok nmX4 hown hK hT hS 0 rfl rfl 11 (by decide) w167 (fun _ h9 => h9) rfl (by decide +kernel) rfl rfl (Nat.le_of_ble_eq_true rfl) dX4_clear_17 (fun H locs hT hS => ?_)
  have hT : TP D A [(h0, ob 3 [.ref h1, .ref h2, .ref h3, .ref h4, .ref h5, .ref h6, .ref h7, .ref h8, .int x1, .int x2, .int 0, .int 0]), (h6, aI (k 0) 256 (rgI (-1) 99))] _ := hT
  refine lv_aload_n hx hb dX4_clear_20 rfl (lv_at hl 0 rfl) ?_
  refine tz_get (ci := 3) (v := .ref h6) (C := RX4) (F := TX4) (N := 12) hx hb hU iX4 hown hK hT 0 rfl rfl 5 (by decide) w159 (fun _ h9 => h9) rfl dX4_clear_21 ?_
  refine lv_iconst (v := (-1)) hx hb dX4_clear_24 (by decide) ?_
  have q_q2 := li_m1
  refine tcV (Tc := [(h6, aI (k 0) 256 (rgI (-1) 99))]) (Tr := [(h0, ob 3 [.ref h1, .ref h2, .ref h3, .ref h4, .ref h5, .ref h6, .ref h7, .ref h8, .int x1, .int x2, .int 0, .int 0])]) (as := [h6]) (zcS (As := [.ref h6, .int (-1)]) (rest := []) (Tc := [(h6, aI (k 0) 256 (rgI (-1) 99))]) hx hb hml hown hU hK hT [1] rfl (by decide) (cJ7_fill_53178_be669 l D k _ h6 ((-1)) (by have := li_m1; omega)) w311 w497 w310 w73 hdJ7_fill_53178 ⟨rfl, rfl⟩ ⟨Nat.le_of_ble_eq_true rfl, Nat.le_of_ble_eq_true rfl⟩ rfl hl.1 (Nat.le_of_ble_eq_true rfl) dX4_clear_25 ⟨Nat.le_of_ble_eq_true rfl, Nat.le_of_ble_eq_true rfl⟩) hT hS hA [1] [0] rfl rfl rfl (by decide) (by decide) (fun H locs hB J hS => ?_)
  have hT1 := hB
  have hT := J _ hT1
  have hT : TP D A [(h0, ob 3 [.ref h1, .ref h2, .ref h3, .ref h4, .ref h5, .ref h6, .ref h7, .ref h8, .int x1, .int x2, .int 0, .int 0]), (h6, aI (k 0) 256 (rgI (-1) 99))] _ := hT
  exact tz_retV (B := B_cX4_clear_4f28a D k h0 h6 h1 h2 h3 h4 h5 h7 h8 x1 x2 h0f8 h0f9 h0f10 h0f11) hQ hx hb hr hlocks hS (Nat.le_of_ble_eq_true rfl) (Nat.le_of_ble_eq_true rfl) dX4_clear_28 (hT)
abbrev Rm_cX4_start_d01b0 : Room := { frames := 0, cells := 0, slots := 0, locals := 0 }
abbrev B_cX4_start_d01b0 (D : va_G) (k : Nat → ClassId) (h0 h1 h2 h3 h4 h5 h6 h7 h8 : Nat) (x1 : Int32) (h0f8 : Int32) (h0f9 : Int32) (h0f10 : Int32) (h0f11 : Int32) (A : Nat → Prop) (r : Int32) (H : Heap) : Prop := (0 ≤ r.toInt ∧ r.toInt ≤ 891) ∧ TP D A [(h0, ob 3 [.ref h1, .ref h2, .ref h3, .ref h4, .ref h5, .ref h6, .ref h7, .ref h8, .int h0f8, .int h0f9, .int h0f10, .int h0f11])] H
set_option maxHeartbeats 4000000 in
set_option maxRecDepth 100000 in
theorem cX4_start_d01b0 (l : Launch) (D : va_G) (k : Nat → ClassId) (sz : Nat) (h0 h1 h2 h3 h4 h5 h6 h7 h8 : Nat) (x1 : Int32) (h0f8 : Int32) (h0f9 : Int32) (h0f10 : Int32) (h0f11 : Int32) (b_x1 : 0 ≤ x1.toInt ∧ x1.toInt ≤ 99) (b_h0f8 : 0 ≤ h0f8.toInt ∧ h0f8.toInt ≤ 9) (b_h0f9 : 0 ≤ h0f9.toInt ∧ h0f9.toInt ≤ 100) (b_h0f10 : 0 ≤ h0f10.toInt ∧ h0f10.toInt ≤ 100) (b_h0f11 : 0 ≤ h0f11.toInt ∧ h0f11.toInt ≤ 1) : Met l yX4_start (Cond.code yX4_start cX4_start 2 (some .int) :: uw) Rm_cX4_start_d01b0 (pT D k sz [.ref h0, .int x1] [(h0, ob 3 [.ref h1, .ref h2, .ref h3, .ref h4, .ref h5, .ref h6, .ref h7, .ref h8, .int h0f8, .int h0f9, .int h0f10, .int h0f11])]) (qI (B_cX4_start_d01b0 D k h0 h1 h2 h3 h4 h5 h6 h7 h8 x1 h0f8 h0f9 h0f10 h0f11 (zA [h0] sz)) (zA [h0] sz)) 0 0 (zA [h0] sz) := by
  refine tz_begin (as := [h0]) (Qc := fun A => qI (B_cX4_start_d01b0 D k h0 h1 h2 h3 h4 h5 h6 h7 h8 x1 h0f8 h0f9 h0f10 h0f11 A) A) (by decide +kernel) rfl (Nat.le_of_ble_eq_true rfl) ?_
  intro p e s m args below meth c ls A Q hx hb hr hml hown hlocks hin hU hK hT hS hA hl hQ
  have hl : lv_has ls 2 [(0, .ref h0), (1, .int x1)] := hl
  have hT : TP D A [(h0, ob 3 [.ref h1, .ref h2, .ref h3, .ref h4, .ref h5, .ref h6, .ref h7, .ref h8, .int h0f8, .int h0f9, .int h0f10, .int h0f11])] s.heap := hT
  refine lv_iload_n hx hb dX4_start_0 rfl (lv_at hl 1 rfl) ?_
  refine lv_aload_n hx hb dX4_start_1 rfl (lv_at hl 0 rfl) ?_
  refine tz_get (ci := 3) (v := .int h0f8) (C := RX4) (F := TX4) (N := 12) hx hb hU iX4 hown hK hT 0 rfl rfl 8 (by decide) w162 (fun _ h9 => h9) rfl dX4_start_2 ?_
  refine lv_imul hx hb dX4_start_5 (lv_topi (fun v1 e_v1 => ?_))
  have e_v1 := ai_mm (la := 0) (ua := 99) (lb := 0) (ub := 9) e_v1 rfl rfl (by omega) (by decide)
  exact tz_retI (B := B_cX4_start_d01b0 D k h0 h1 h2 h3 h4 h5 h6 h7 h8 x1 h0f8 h0f9 h0f10 h0f11) (v := v1) hQ hx hb hr hlocks hS (Nat.le_of_ble_eq_true rfl) (Nat.le_of_ble_eq_true rfl) dX4_start_6 (⟨(by omega), hT⟩)
abbrev Rm_cX4_has_a7dbf : Room := { frames := 0, cells := 0, slots := 0, locals := 0 }
abbrev B_cX4_has_a7dbf (D : va_G) (k : Nat → ClassId) (h0 h1 h2 h3 h4 h5 h6 h7 h8 : Nat) (x1 : Int32) (h0f8 : Int32) (h0f9 : Int32) (h0f10 : Int32) (h0f11 : Int32) (A : Nat → Prop) (r : Int32) (H : Heap) : Prop := (0 = r ∧ TP D A [(h0, ob 3 [.ref h1, .ref h2, .ref h3, .ref h4, .ref h5, .ref h6, .ref h7, .ref h8, .int h0f8, .int h0f9, .int h0f10, .int h0f11])] H) ∨ (0 ≤ x1.toInt ∧ x1.toInt < h0f10.toInt ∧ 1 = r ∧ TP D A [(h0, ob 3 [.ref h1, .ref h2, .ref h3, .ref h4, .ref h5, .ref h6, .ref h7, .ref h8, .int h0f8, .int h0f9, .int h0f10, .int h0f11])] H)
set_option maxHeartbeats 4000000 in
set_option maxRecDepth 100000 in
theorem cX4_has_a7dbf (l : Launch) (D : va_G) (k : Nat → ClassId) (sz : Nat) (h0 h1 h2 h3 h4 h5 h6 h7 h8 : Nat) (x1 : Int32) (h0f8 : Int32) (h0f9 : Int32) (h0f10 : Int32) (h0f11 : Int32) (b_h0f8 : 0 ≤ h0f8.toInt ∧ h0f8.toInt ≤ 9) (b_h0f9 : 0 ≤ h0f9.toInt ∧ h0f9.toInt ≤ 100) (b_h0f10 : 0 ≤ h0f10.toInt ∧ h0f10.toInt ≤ 100) (b_h0f11 : 0 ≤ h0f11.toInt ∧ h0f11.toInt ≤ 1) : Met l yX4_has (Cond.code yX4_has cX4_has 2 (some .boolean) :: uw) Rm_cX4_has_a7dbf (pT D k sz [.ref h0, .int x1] [(h0, ob 3 [.ref h1, .ref h2, .ref h3, .ref h4, .ref h5, .ref h6, .ref h7, .ref h8, .int h0f8, .int h0f9, .int h0f10, .int h0f11])]) (qI (B_cX4_has_a7dbf D k h0 h1 h2 h3 h4 h5 h6 h7 h8 x1 h0f8 h0f9 h0f10 h0f11 (zA [h0] sz)) (zA [h0] sz)) 0 0 (zA [h0] sz) := by
  refine tz_begin (as := [h0]) (Qc := fun A => qI (B_cX4_has_a7dbf D k h0 h1 h2 h3 h4 h5 h6 h7 h8 x1 h0f8 h0f9 h0f10 h0f11 A) A) (by decide +kernel) rfl (Nat.le_of_ble_eq_true rfl) ?_
  intro p e s m args below meth c ls A Q hx hb hr hml hown hlocks hin hU hK hT hS hA hl hQ
  have hl : lv_has ls 2 [(0, .ref h0), (1, .int x1)] := hl
  have hT : TP D A [(h0, ob 3 [.ref h1, .ref h2, .ref h3, .ref h4, .ref h5, .ref h6, .ref h7, .ref h8, .int h0f8, .int h0f9, .int h0f10, .int h0f11])] s.heap := hT
  refine lv_iload_n hx hb dX4_has_0 rfl (lv_at hl 1 rfl) ?_
  refine lv_if_lt (tgt := 16) hx hb dX4_has_1 (by decide) (fun c_1 => ?_) (fun c_1 => ?_)
  · skip
    have c_1 := ni_lt c_1 rfl li_0
    refine lv_iconst (v := 0) hx hb dX4_has_16 (by decide) ?_
    exact tz_retZ (B := B_cX4_has_a7dbf D k h0 h1 h2 h3 h4 h5 h6 h7 h8 x1 h0f8 h0f9 h0f10 h0f11) (v := 0) hQ hx hb hr hlocks hS (Nat.le_of_ble_eq_true rfl) (Nat.le_of_ble_eq_true rfl) dX4_has_17 (by have := li_0; omega) (Or.inl ⟨rfl, hT⟩)
  · skip
    have c_1 := ni_nlt c_1 rfl li_0
    refine lv_iload_n hx hb dX4_has_4 rfl (lv_at hl 1 rfl) ?_
    refine lv_aload_n hx hb dX4_has_5 rfl (lv_at hl 0 rfl) ?_
    refine tz_get (ci := 3) (v := .int h0f10) (C := RX4) (F := TX4) (N := 12) hx hb hU iX4 hown hK hT 0 rfl rfl 10 (by decide) w164 (fun _ h9 => h9) rfl dX4_has_6 ?_
    refine lv_icmp_ge (tgt := 16) hx hb dX4_has_9 (by decide) (fun c_2 => ?_) (fun c_2 => ?_)
    · skip
      have c_2 := ni_le c_2 rfl rfl
      refine lv_iconst (v := 0) hx hb dX4_has_16 (by decide) ?_
      exact tz_retZ (B := B_cX4_has_a7dbf D k h0 h1 h2 h3 h4 h5 h6 h7 h8 x1 h0f8 h0f9 h0f10 h0f11) (v := 0) hQ hx hb hr hlocks hS (Nat.le_of_ble_eq_true rfl) (Nat.le_of_ble_eq_true rfl) dX4_has_17 (by have := li_0; omega) (Or.inl ⟨rfl, hT⟩)
    · skip
      have c_2 := ni_nle c_2 rfl rfl
      refine lv_iconst (v := 1) hx hb dX4_has_12 (by decide) ?_
      refine lv_goto (tgt := 17) hx hb dX4_has_13 (by decide) ?_
      exact tz_retZ (B := B_cX4_has_a7dbf D k h0 h1 h2 h3 h4 h5 h6 h7 h8 x1 h0f8 h0f9 h0f10 h0f11) (v := 1) hQ hx hb hr hlocks hS (Nat.le_of_ble_eq_true rfl) (Nat.le_of_ble_eq_true rfl) dX4_has_17 (by have := li_1; omega) (Or.inr (⟨(by have := li_1; omega), (by have := li_1; omega), rfl, hT⟩))
abbrev Rm_cX4_slotOf_958c1 : Room := { frames := 0, cells := 0, slots := 0, locals := 0 }
abbrev B_cX4_slotOf_958c1 (D : va_G) (k : Nat → ClassId) (h0 h1 h7 h2 h3 h4 h5 h6 h8 h9 : Nat) (h0f8 : Int32) (h0f9 : Int32) (h0f10 : Int32) (h0f11 : Int32) (A : Nat → Prop) (r : Int32) (H : Heap) : Prop := (0 ≤ r.toInt ∧ r.toInt ≤ 255) ∧ TP D A [(h0, ob 3 [.ref h2, .ref h3, .ref h4, .ref h5, .ref h6, .ref h7, .ref h8, .ref h9, .int h0f8, .int h0f9, .int h0f10, .int h0f11]), (h1, aJ (k 1) 9 anJ), (h7, aI (k 0) 256 (rgI (-1) 99))] H
set_option maxHeartbeats 4000000 in
set_option maxRecDepth 100000 in
theorem cX4_slotOf_958c1 (l : Launch) (D : va_G) (k : Nat → ClassId) (sz : Nat) (h0 h1 h7 h2 h3 h4 h5 h6 h8 h9 : Nat) (h0f8 : Int32) (h0f9 : Int32) (h0f10 : Int32) (h0f11 : Int32) (b_h0f8 : 0 ≤ h0f8.toInt ∧ h0f8.toInt ≤ 9) (b_h0f9 : 0 ≤ h0f9.toInt ∧ h0f9.toInt ≤ 100) (b_h0f10 : 0 ≤ h0f10.toInt ∧ h0f10.toInt ≤ 100) (b_h0f11 : 0 ≤ h0f11.toInt ∧ h0f11.toInt ≤ 1) : Met l yX4_slotOf (Cond.code yX4_slotOf cX4_slotOf 5 (some .int) :: uw) Rm_cX4_slotOf_958c1 (pT D k sz [.ref h0, .ref h1] [(h0, ob 3 [.ref h2, .ref h3, .ref h4, .ref h5, .ref h6, .ref h7, .ref h8, .ref h9, .int h0f8, .int h0f9, .int h0f10, .int h0f11]), (h1, aJ (k 1) 9 anJ), (h7, aI (k 0) 256 (rgI (-1) 99))]) (qI (B_cX4_slotOf_958c1 D k h0 h1 h7 h2 h3 h4 h5 h6 h8 h9 h0f8 h0f9 h0f10 h0f11 (zA [h0, h1, h7] sz)) (zA [h0, h1, h7] sz)) 0 0 (zA [h0, h1, h7] sz) := by
  refine tz_begin (as := [h0, h1, h7]) (Qc := fun A => qI (B_cX4_slotOf_958c1 D k h0 h1 h7 h2 h3 h4 h5 h6 h8 h9 h0f8 h0f9 h0f10 h0f11 A) A) (by decide +kernel) rfl (Nat.le_of_ble_eq_true rfl) ?_
  intro p e s m args below meth c ls A Q hx hb hr hml hown hlocks hin hU hK hT hS hA hl hQ
  have hl : lv_has ls 5 [(0, .ref h0), (1, .ref h1)] := hl
  have hT : TP D A [(h0, ob 3 [.ref h2, .ref h3, .ref h4, .ref h5, .ref h6, .ref h7, .ref h8, .ref h9, .int h0f8, .int h0f9, .int h0f10, .int h0f11]), (h1, aJ (k 1) 9 anJ), (h7, aI (k 0) 256 (rgI (-1) 99))] s.heap := hT
  refine lv_lconst (v := 0) hx hb dX4_slotOf_0 (by decide) ?_
  refine lv_lstore_n (lv' := [(2, .long 0), (0, .ref h0), (1, .ref h1)]) hx hb dX4_slotOf_1 rfl hl (by decide) rfl (fun ls hl => ?_)
  refine lv_iconst (v := 0) hx hb dX4_slotOf_2 (by decide) ?_
  refine lv_istore (lv' := [(4, .int 0), (2, .long 0), (0, .ref h0), (1, .ref h1)]) hx hb dX4_slotOf_3 hl (by decide) rfl (fun ls hl => ?_)
  have lp5_15 : ∀ (n : Nat) (y13 : Int32) (y14 : Int64) (H : Heap) (locs : List Loc) (ls : Array Slot), (0 ≤ y13.toInt ∧ y13.toInt ≤ 9) → (h0f8.toInt + (-1) * y13.toInt + 1).toNat < n → TP D A [(h0, ob 3 [.ref h2, .ref h3, .ref h4, .ref h5, .ref h6, .ref h7, .ref h8, .ref h9, .int h0f8, .int h0f9, .int h0f10, .int h0f11]), (h1, aJ (k 1) 9 anJ), (h7, aI (k 0) 256 (rgI (-1) 99))] H → va_S A s.heap H locs → lv_has ls 5 [(0, .ref h0), (1, .ref h1), (2, .long y14), (4, .int y13)] → W p l e Rm_cX4_slotOf_958c1 s m args below meth c H locs 0 0 Q (F0 m 5 ls []) := by
    intro n
    induction n with
    | zero => intro y13 y14 H locs ls b_y13 hm hT hS hl; exact absurd hm (Nat.not_lt_zero _)
    | succ n ih =>
      intro y13 y14 H locs ls b_y13 hm hT hS hl
      have ih5_15 := ih
      clear ih
      refine lv_iload hx hb dX4_slotOf_5 (lv_at hl 3 rfl) ?_
      refine lv_aload_n hx hb dX4_slotOf_7 rfl (lv_at hl 0 rfl) ?_
      refine tz_get (ci := 3) (v := .int h0f8) (C := RX4) (F := TX4) (N := 12) hx hb hU iX4 hown hK hT 0 rfl rfl 8 (by decide) w162 (fun _ h9 => h9) rfl dX4_slotOf_8 ?_
      refine lv_icmp_ge (tgt := 31) hx hb dX4_slotOf_11 (by decide) (fun c_16 => ?_) (fun c_16 => ?_)
      · skip
        have c_16 := ni_le c_16 rfl rfl
        refine lv_lload_n hx hb dX4_slotOf_31 rfl (lv_at hl 2 rfl) ?_
        refine lv_lload_n hx hb dX4_slotOf_32 rfl (lv_at hl 2 rfl) ?_
        refine lv_bipush (v := 32) hx hb dX4_slotOf_33 (by decide) ?_
        refine lv_lushr hx hb dX4_slotOf_35 rfl (lv_topl (fun v17 _ => ?_))
        refine lv_lxor hx hb dX4_slotOf_36 (lv_topl (fun v18 e_v18 => ?_))
        refine lv_lstore_n (lv' := [(2, .long v18), (0, .ref h0), (1, .ref h1), (4, .int y13)]) hx hb dX4_slotOf_37 rfl hl (by decide) rfl (fun ls hl => ?_)
        refine lv_lload_n hx hb dX4_slotOf_38 rfl (lv_at hl 0 rfl) ?_
        refine lv_lload_n hx hb dX4_slotOf_39 rfl (lv_at hl 0 rfl) ?_
        refine lv_bipush (v := 16) hx hb dX4_slotOf_40 (by decide) ?_
        refine lv_lushr hx hb dX4_slotOf_42 rfl (lv_topl (fun v19 _ => ?_))
        refine lv_lxor hx hb dX4_slotOf_43 (lv_topl (fun v20 e_v20 => ?_))
        refine lv_lstore_n (lv' := [(2, .long v20), (0, .ref h0), (1, .ref h1), (4, .int y13)]) hx hb dX4_slotOf_44 rfl hl (by decide) rfl (fun ls hl => ?_)
        refine lv_lload_n hx hb dX4_slotOf_45 rfl (lv_at hl 0 rfl) ?_
        refine lv_l2i hx hb dX4_slotOf_46 rfl (lv_topi (fun v21 _ => ?_))
        refine lv_aload_n hx hb dX4_slotOf_47 rfl (lv_at hl 1 rfl) ?_
        refine tz_get (ci := 3) (v := .ref h7) (C := RX4) (F := TX4) (N := 12) hx hb hU iX4 hown hK hT 0 rfl rfl 5 (by decide) w159 (fun _ h9 => h9) rfl dX4_slotOf_48 ?_
        refine tz_aleni (v := 256) hx hb hK hT 2 rfl (by decide +kernel) dX4_slotOf_51 ?_
        refine lv_iconst (v := 1) hx hb dX4_slotOf_52 (by decide) ?_
        refine lv_isub hx hb dX4_slotOf_53 (sv_i (v := 255) (by decide +kernel) ?_)
        refine lv_iand hx hb dX4_slotOf_54 (lv_topi (fun v22 e_v22 => ?_))
        have e_v22 := ai_and 8 e_v22 (by decide +kernel) (by decide)
        exact tz_retI (B := B_cX4_slotOf_958c1 D k h0 h1 h7 h2 h3 h4 h5 h6 h8 h9 h0f8 h0f9 h0f10 h0f11) (v := v22) hQ hx hb hr hlocks hS (Nat.le_of_ble_eq_true rfl) (Nat.le_of_ble_eq_true rfl) dX4_slotOf_55 (⟨(by omega), hT⟩)
      · skip
        have c_16 := ni_nle c_16 rfl rfl
        refine lv_lload_n hx hb dX4_slotOf_14 rfl (lv_at hl 2 rfl) ?_
        refine lv_ldc2 hx hb hown (hU _ w515) dX4_slotOf_15 ?_
        refine lv_lmul hx hb dX4_slotOf_18 (lv_topl (fun v23 e_v23 => ?_))
        refine lv_aload_n hx hb dX4_slotOf_19 rfl (lv_at hl 1 rfl) ?_
        refine lv_iload hx hb dX4_slotOf_20 (lv_at hl 3 rfl) ?_
        refine tz_lald hx hb hK hT 1 rfl (by omega) dX4_slotOf_22 (fun v24 e_v24 => ?_)
        clear e_v24
        refine lv_ladd hx hb dX4_slotOf_23 (lv_topl (fun v25 e_v25 => ?_))
        refine lv_lstore_n (lv' := [(2, .long v25), (0, .ref h0), (1, .ref h1), (4, .int y13)]) hx hb dX4_slotOf_24 rfl hl (by decide) rfl (fun ls hl => ?_)
        obtain ⟨v26, e_v26⟩ : ∃ x : Int32, x = y13 + Int32.ofInt 1 := ⟨_, rfl⟩
        have f_v26 := e_v26.symm
        have e_v26 : v26.toInt = y13.toInt + 1 := ai_add e_v26 rfl (show (Int32.ofInt 1).toInt = 1 from (by decide +kernel)) (by omega)
        refine lv_iinc (v := v26) (lv' := [(4, .int v26), (2, .long v25), (0, .ref h0), (1, .ref h1)]) hx hb dX4_slotOf_25 hl (k := 3) rfl f_v26 (by decide) rfl (fun ls hl => ?_)
        refine lv_goto (tgt := 5) hx hb dX4_slotOf_28 (by decide) ?_
        exact ih5_15 v26 v25 _ _ _ (by omega)  (by omega) hT hS (lv_sub hl [2, 3, 1, 0] rfl)
  exact lp5_15 ((h0f8.toInt + (-1) * (0 : Int32).toInt + 1).toNat + 1) (0) (0) _ _ _ (by have := li_0; have := ll_0; omega)  (Nat.lt_succ_self _) hT hS (lv_sub hl [2, 3, 1, 0] rfl)
abbrev Rm_cX4_append_9dcf5 : Room := { frames := 1, cells := 0, slots := 0, locals := 26 }
abbrev B_cX4_append_9dcf5 (D : va_G) (k : Nat → ClassId) (h0 h1 h2 h3 h4 h5 h7 h8 h6 h9 : Nat) (x2 : Int32) (x3 : Int32) (h0f8 : Int32) (h0f9 : Int32) (h0f10 : Int32) (h0f11 : Int32) (A : Nat → Prop) (r : Int32) (H : Heap) : Prop := ∃ o0 : Int32, (1 ≤ o0.toInt ∧ o0.toInt ≤ 1) ∧ h0f10 = r ∧ TP D A [(h0, ob 3 [.ref h2, .ref h3, .ref h4, .ref h5, .ref h6, .ref h7, .ref h8, .ref h9, .int h0f8, .int h0f9, .int o0, .int h0f11]), (h1, aJ (k 1) 9 anJ), (h2, aJ (k 1) 900 anJ), (h3, aI (k 0) 100 anI), (h4, aI (k 0) 100 anI), (h5, aI (k 0) 100 anI), (h7, aI (k 0) 256 (rgI (-1) 99)), (h8, aI (k 0) 100 (rgI (-1) 99))] H
set_option maxHeartbeats 4000000 in
set_option maxRecDepth 100000 in
theorem cX4_append_9dcf5 (l : Launch) (D : va_G) (k : Nat → ClassId) (sz : Nat) (h0 h1 h2 h3 h4 h5 h7 h8 h6 h9 : Nat) (x2 : Int32) (x3 : Int32) (h0f8 : Int32) (h0f9 : Int32) (h0f10 : Int32) (h0f11 : Int32) (b_x2 : (-3) ≤ x2.toInt ∧ x2.toInt ≤ (-3)) (b_x3 : (-3) ≤ x3.toInt ∧ x3.toInt ≤ (-3)) (b_h0f8 : 1 ≤ h0f8.toInt ∧ h0f8.toInt ≤ 9) (b_h0f9 : 100 ≤ h0f9.toInt ∧ h0f9.toInt ≤ 100) (b_h0f10 : 0 ≤ h0f10.toInt ∧ h0f10.toInt ≤ 0) (b_h0f11 : 0 ≤ h0f11.toInt ∧ h0f11.toInt ≤ 0) : Met l yX4_append (Cond.code yX4_append cX4_append 6 (some .int) :: uw) Rm_cX4_append_9dcf5 (pT D k sz [.ref h0, .ref h1, .int x2, .int x3] [(h0, ob 3 [.ref h2, .ref h3, .ref h4, .ref h5, .ref h6, .ref h7, .ref h8, .ref h9, .int h0f8, .int h0f9, .int h0f10, .int h0f11]), (h1, aJ (k 1) 9 anJ), (h2, aJ (k 1) 900 anJ), (h3, aI (k 0) 100 anI), (h4, aI (k 0) 100 anI), (h5, aI (k 0) 100 anI), (h7, aI (k 0) 256 (rgI (-1) 99)), (h8, aI (k 0) 100 (rgI (-1) 99))]) (qI (B_cX4_append_9dcf5 D k h0 h1 h2 h3 h4 h5 h7 h8 h6 h9 x2 x3 h0f8 h0f9 h0f10 h0f11 (zA [h0, h1, h2, h3, h4, h5, h7, h8] sz)) (zA [h0, h1, h2, h3, h4, h5, h7, h8] sz)) 0 0 (zA [h0, h1, h2, h3, h4, h5, h7, h8] sz) := by
  refine tz_begin (as := [h0, h1, h2, h3, h4, h5, h7, h8]) (Qc := fun A => qI (B_cX4_append_9dcf5 D k h0 h1 h2 h3 h4 h5 h7 h8 h6 h9 x2 x3 h0f8 h0f9 h0f10 h0f11 A) A) (by decide +kernel) rfl (Nat.le_of_ble_eq_true rfl) ?_
  intro p e s m args below meth c ls A Q hx hb hr hml hown hlocks hin hU hK hT hS hA hl hQ
  have hl : lv_has ls 6 [(0, .ref h0), (1, .ref h1), (2, .int x2), (3, .int x3)] := hl
  have hT : TP D A [(h0, ob 3 [.ref h2, .ref h3, .ref h4, .ref h5, .ref h6, .ref h7, .ref h8, .ref h9, .int h0f8, .int h0f9, .int h0f10, .int h0f11]), (h1, aJ (k 1) 9 anJ), (h2, aJ (k 1) 900 anJ), (h3, aI (k 0) 100 anI), (h4, aI (k 0) 100 anI), (h5, aI (k 0) 100 anI), (h7, aI (k 0) 256 (rgI (-1) 99)), (h8, aI (k 0) 100 (rgI (-1) 99))] s.heap := hT
  refine lv_aload_n hx hb dX4_append_0 rfl (lv_at hl 0 rfl) ?_
  refine tz_get (ci := 3) (v := .int h0f10) (C := RX4) (F := TX4) (N := 12) hx hb hU iX4 hown hK hT 0 rfl rfl 10 (by decide) w164 (fun _ h9 => h9) rfl dX4_append_1 ?_
  refine lv_aload_n hx hb dX4_append_4 rfl (lv_at hl 0 rfl) ?_
  refine tz_get (ci := 3) (v := .int h0f9) (C := RX4) (F := TX4) (N := 12) hx hb hU iX4 hown hK hT 0 rfl rfl 9 (by decide) w163 (fun _ h9 => h9) rfl dX4_append_5 ?_
  refine lv_icmp_lt (tgt := 13) hx hb dX4_append_8 (by decide) (fun c_1 => ?_) (fun c_1 => ?_)
  · skip
    have c_1 := ni_lt c_1 rfl rfl
    refine lv_aload_n hx hb dX4_append_13 rfl (lv_at hl 0 rfl) ?_
    refine tz_get (ci := 3) (v := .int h0f10) (C := RX4) (F := TX4) (N := 12) hx hb hU iX4 hown hK hT 0 rfl rfl 10 (by decide) w164 (fun _ h9 => h9) rfl dX4_append_14 ?_
    refine lv_istore (lv' := [(4, .int h0f10), (0, .ref h0), (1, .ref h1), (2, .int x2), (3, .int x3)]) hx hb dX4_append_17 hl (by decide) rfl (fun ls hl => ?_)
    refine lv_aload_n hx hb dX4_append_19 rfl (lv_at hl 2 rfl) ?_
    refine lv_iconst (v := 0) hx hb dX4_append_20 (by decide) ?_
    refine lv_aload_n hx hb dX4_append_21 rfl (lv_at hl 1 rfl) ?_
    refine tz_get (ci := 3) (v := .ref h2) (C := RX4) (F := TX4) (N := 12) hx hb hU iX4 hown hK hT 0 rfl rfl 0 (by decide) w149 (fun _ h9 => h9) rfl dX4_append_22 ?_
    refine lv_aload_n hx hb dX4_append_25 rfl (lv_at hl 1 rfl) ?_
    refine lv_iload hx hb dX4_append_26 (lv_at hl 0 rfl) ?_
    refine tcI (Tc := [(h0, ob 3 [.ref h2, .ref h3, .ref h4, .ref h5, .ref h6, .ref h7, .ref h8, .ref h9, .int h0f8, .int h0f9, .int h0f10, .int h0f11])]) (Tr := [(h1, aJ (k 1) 9 anJ), (h2, aJ (k 1) 900 anJ), (h3, aI (k 0) 100 anI), (h4, aI (k 0) 100 anI), (h5, aI (k 0) 100 anI), (h7, aI (k 0) 256 (rgI (-1) 99)), (h8, aI (k 0) 100 (rgI (-1) 99))]) (as := [h0]) (zcV (q0 := 0) (ci := 3) (As := [.int h0f10]) (rest := [.ref h2, .int 0, .ref h1]) (Tc := [(h0, ob 3 [.ref h2, .ref h3, .ref h4, .ref h5, .ref h6, .ref h7, .ref h8, .ref h9, .int h0f8, .int h0f9, .int h0f10, .int h0f11])]) hx hb hml hown hU hK hT rfl rfl [0] rfl (by decide) (cX4_start_d01b0 l D k _ h0 h2 h3 h4 h5 h6 h7 h8 h9 h0f10 h0f8 h0f9 h0f10 h0f11 (by omega) (by omega) (by omega) (by omega) (by omega)) w505 w502 w503 w504 w66 hdX4_start ⟨rfl, rfl⟩ ⟨Nat.le_of_ble_eq_true rfl, Nat.le_of_ble_eq_true rfl⟩ rfl hl.1 (Nat.le_of_ble_eq_true rfl) dX4_append_28 ⟨Nat.le_of_ble_eq_true rfl, Nat.le_of_ble_eq_true rfl⟩) hT hS hA [0] [1, 2, 3, 4, 5, 6, 7] rfl rfl rfl (by decide) (by decide) (fun r2 H locs hB J hS => ?_)
    obtain ⟨b_r2, hT1⟩ := hB
    have hT := J _ hT1
    have hT : TP D A [(h1, aJ (k 1) 9 anJ), (h2, aJ (k 1) 900 anJ), (h3, aI (k 0) 100 anI), (h4, aI (k 0) 100 anI), (h5, aI (k 0) 100 anI), (h7, aI (k 0) 256 (rgI (-1) 99)), (h8, aI (k 0) 100 (rgI (-1) 99)), (h0, ob 3 [.ref h2, .ref h3, .ref h4, .ref h5, .ref h6, .ref h7, .ref h8, .ref h9, .int h0f8, .int h0f9, .int h0f10, .int h0f11])] _ := hT
    refine lv_aload_n hx hb dX4_append_31 rfl (lv_at hl 1 rfl) ?_
    refine tz_get (ci := 3) (v := .int h0f8) (C := RX4) (F := TX4) (N := 12) hx hb hU iX4 hown hK hT 7 rfl rfl 8 (by decide) w162 (fun _ h9 => h9) rfl dX4_append_32 ?_
    refine tz_copyl hx hb (by rw [hml]; exact hl.1.symm) hown hU w506 w348 w347 w75 hK hT hS 0 1 rfl rfl (by have := li_0; omega) (fun _ _ _ _ => trivial) (Nat.le_of_ble_eq_true rfl) (Nat.le_of_ble_eq_true rfl) dX4_append_35 (fun H locs hT hS => ?_)
    refine lv_aload_n hx hb dX4_append_38 rfl (lv_at hl 1 rfl) ?_
    refine tz_get (ci := 3) (v := .ref h3) (C := RX4) (F := TX4) (N := 12) hx hb hU iX4 hown hK hT 7 rfl rfl 1 (by decide) w151 (fun _ h9 => h9) rfl dX4_append_39 ?_
    refine lv_iload hx hb dX4_append_42 (lv_at hl 0 rfl) ?_
    refine lv_iload_n hx hb dX4_append_44 rfl (lv_at hl 3 rfl) ?_
    refine tz_iast hx hb hK hT hS 2 rfl (by omega) (fun _ _ => trivial) dX4_append_45 (fun H locs hT hS => ?_)
    refine lv_aload_n hx hb dX4_append_46 rfl (lv_at hl 1 rfl) ?_
    refine tz_get (ci := 3) (v := .ref h4) (C := RX4) (F := TX4) (N := 12) hx hb hU iX4 hown hK hT 7 rfl rfl 2 (by decide) w153 (fun _ h9 => h9) rfl dX4_append_47 ?_
    refine lv_iload hx hb dX4_append_50 (lv_at hl 0 rfl) ?_
    refine lv_iload_n hx hb dX4_append_52 rfl (lv_at hl 4 rfl) ?_
    refine tz_iast hx hb hK hT hS 3 rfl (by omega) (fun _ _ => trivial) dX4_append_53 (fun H locs hT hS => ?_)
    refine lv_aload_n hx hb dX4_append_54 rfl (lv_at hl 1 rfl) ?_
    refine tz_get (ci := 3) (v := .ref h5) (C := RX4) (F := TX4) (N := 12) hx hb hU iX4 hown hK hT 7 rfl rfl 3 (by decide) w155 (fun _ h9 => h9) rfl dX4_append_55 ?_
    refine lv_iload hx hb dX4_append_58 (lv_at hl 0 rfl) ?_
    refine lv_aload_n hx hb dX4_append_60 rfl (lv_at hl 1 rfl) ?_
    refine lv_iload_n hx hb dX4_append_61 rfl (lv_at hl 3 rfl) ?_
    refine tcI (Tc := [(h0, ob 3 [.ref h2, .ref h3, .ref h4, .ref h5, .ref h6, .ref h7, .ref h8, .ref h9, .int h0f8, .int h0f9, .int h0f10, .int h0f11])]) (Tr := [(h1, aJ (k 1) 9 anJ), (h2, aJ (k 1) 900 anJ), (h3, aI (k 0) 100 anI), (h4, aI (k 0) 100 anI), (h5, aI (k 0) 100 anI), (h7, aI (k 0) 256 (rgI (-1) 99)), (h8, aI (k 0) 100 (rgI (-1) 99))]) (as := [h0]) (zcV (q0 := 7) (ci := 3) (As := [.int x2]) (rest := [.int h0f10, .ref h5]) (Tc := [(h0, ob 3 [.ref h2, .ref h3, .ref h4, .ref h5, .ref h6, .ref h7, .ref h8, .ref h9, .int h0f8, .int h0f9, .int h0f10, .int h0f11])]) hx hb hml hown hU hK hT rfl rfl [7] rfl (by decide) (cX4_has_a7dbf l D k _ h0 h2 h3 h4 h5 h6 h7 h8 h9 x2 h0f8 h0f9 h0f10 h0f11 (by omega) (by omega) (by omega) (by omega)) w510 w507 w508 w509 w66 hdX4_has ⟨rfl, rfl⟩ ⟨Nat.le_of_ble_eq_true rfl, Nat.le_of_ble_eq_true rfl⟩ rfl hl.1 (Nat.le_of_ble_eq_true rfl) dX4_append_62 ⟨Nat.le_of_ble_eq_true rfl, Nat.le_of_ble_eq_true rfl⟩) hT hS hA [7] [0, 1, 2, 3, 4, 5, 6] rfl rfl rfl (by decide) (by decide) (fun r3 H locs hB J hS => ?_)
    rcases hB with ⟨rfl, hT1⟩ | ⟨c_4, c_5, rfl, hT1⟩
    · skip
      have hT := J _ hT1
      have hT : TP D A [(h1, aJ (k 1) 9 anJ), (h2, aJ (k 1) 900 anJ), (h3, aI (k 0) 100 anI), (h4, aI (k 0) 100 anI), (h5, aI (k 0) 100 anI), (h7, aI (k 0) 256 (rgI (-1) 99)), (h8, aI (k 0) 100 (rgI (-1) 99)), (h0, ob 3 [.ref h2, .ref h3, .ref h4, .ref h5, .ref h6, .ref h7, .ref h8, .ref h9, .int h0f8, .int h0f9, .int h0f10, .int h0f11])] _ := hT
      refine lv_if_eq (tgt := 79) hx hb dX4_append_65 (by decide) (fun _ => ?_) (fun cc => absurd (by decide +kernel) cc)
      refine lv_iconst (v := 0) hx hb dX4_append_79 (by decide) ?_
      refine tz_iast hx hb hK hT hS 4 rfl (by omega) (fun _ _ => trivial) dX4_append_80 (fun H locs hT hS => ?_)
      refine lv_aload_n hx hb dX4_append_81 rfl (lv_at hl 1 rfl) ?_
      refine lv_aload_n hx hb dX4_append_82 rfl (lv_at hl 2 rfl) ?_
      refine tcI (Tc := [(h0, ob 3 [.ref h2, .ref h3, .ref h4, .ref h5, .ref h6, .ref h7, .ref h8, .ref h9, .int h0f8, .int h0f9, .int h0f10, .int h0f11]), (h1, aJ (k 1) 9 anJ), (h7, aI (k 0) 256 (rgI (-1) 99))]) (Tr := [(h2, aJ (k 1) 900 anJ), (h3, aI (k 0) 100 anI), (h4, aI (k 0) 100 anI), (h5, aI (k 0) 100 anI), (h8, aI (k 0) 100 (rgI (-1) 99))]) (as := [h0, h1, h7]) (zcV (q0 := 7) (ci := 3) (As := [.ref h1]) (rest := []) (Tc := [(h0, ob 3 [.ref h2, .ref h3, .ref h4, .ref h5, .ref h6, .ref h7, .ref h8, .ref h9, .int h0f8, .int h0f9, .int h0f10, .int h0f11]), (h1, aJ (k 1) 9 anJ), (h7, aI (k 0) 256 (rgI (-1) 99))]) hx hb hml hown hU hK hT rfl rfl [7, 0, 5] rfl (by decide) (cX4_slotOf_958c1 l D k _ h0 h1 h7 h2 h3 h4 h5 h6 h8 h9 h0f8 h0f9 h0f10 h0f11 (by omega) (by omega) (by omega) (by omega)) w514 w511 w513 w11 w66 hdX4_slotOf ⟨rfl, rfl⟩ ⟨Nat.le_of_ble_eq_true rfl, Nat.le_of_ble_eq_true rfl⟩ rfl hl.1 (Nat.le_of_ble_eq_true rfl) dX4_append_83 ⟨Nat.le_of_ble_eq_true rfl, Nat.le_of_ble_eq_true rfl⟩) hT hS hA [7, 0, 5] [1, 2, 3, 4, 6] rfl rfl rfl (by decide) (by decide) (fun r6 H locs hB J hS => ?_)
      obtain ⟨b_r6, hT1⟩ := hB
      have hT := J _ hT1
      have hT : TP D A [(h2, aJ (k 1) 900 anJ), (h3, aI (k 0) 100 anI), (h4, aI (k 0) 100 anI), (h5, aI (k 0) 100 anI), (h8, aI (k 0) 100 (rgI (-1) 99)), (h0, ob 3 [.ref h2, .ref h3, .ref h4, .ref h5, .ref h6, .ref h7, .ref h8, .ref h9, .int h0f8, .int h0f9, .int h0f10, .int h0f11]), (h1, aJ (k 1) 9 anJ), (h7, aI (k 0) 256 (rgI (-1) 99))] _ := hT
      refine lv_istore (lv' := [(5, .int r6), (4, .int h0f10), (0, .ref h0), (1, .ref h1), (2, .int x2), (3, .int x3)]) hx hb dX4_append_86 hl (by decide) rfl (fun ls hl => ?_)
      refine lv_aload_n hx hb dX4_append_88 rfl (lv_at hl 2 rfl) ?_
      refine tz_get (ci := 3) (v := .ref h8) (C := RX4) (F := TX4) (N := 12) hx hb hU iX4 hown hK hT 5 rfl rfl 6 (by decide) w160 (fun _ h9 => h9) rfl dX4_append_89 ?_
      refine lv_iload hx hb dX4_append_92 (lv_at hl 1 rfl) ?_
      refine lv_aload_n hx hb dX4_append_94 rfl (lv_at hl 2 rfl) ?_
      refine tz_get (ci := 3) (v := .ref h7) (C := RX4) (F := TX4) (N := 12) hx hb hU iX4 hown hK hT 5 rfl rfl 5 (by decide) w159 (fun _ h9 => h9) rfl dX4_append_95 ?_
      refine lv_iload hx hb dX4_append_98 (lv_at hl 0 rfl) ?_
      refine tz_iald hx hb hK hT 7 rfl (by omega) dX4_append_100 (fun v7 e_v7 => ?_)
      have e_v7 := rg_get e_v7
      refine tz_iast hx hb hK hT hS 4 rfl (by omega) (rg_put (by omega)) dX4_append_101 (fun H locs hT hS => ?_)
      refine lv_aload_n hx hb dX4_append_102 rfl (lv_at hl 2 rfl) ?_
      refine tz_get (ci := 3) (v := .ref h7) (C := RX4) (F := TX4) (N := 12) hx hb hU iX4 hown hK hT 5 rfl rfl 5 (by decide) w159 (fun _ h9 => h9) rfl dX4_append_103 ?_
      refine lv_iload hx hb dX4_append_106 (lv_at hl 0 rfl) ?_
      refine lv_iload hx hb dX4_append_108 (lv_at hl 1 rfl) ?_
      refine tz_iast hx hb hK hT hS 7 rfl (by omega) (rg_put (by omega)) dX4_append_110 (fun H locs hT hS => ?_)
      refine lv_aload_n hx hb dX4_append_111 rfl (lv_at hl 2 rfl) ?_
      refine lv_dup hx hb dX4_append_112 rfl ?_
      refine tz_get (ci := 3) (v := .int h0f10) (C := RX4) (F := TX4) (N := 12) hx hb hU iX4 hown hK hT 5 rfl rfl 10 (by decide) w164 (fun _ h9 => h9) rfl dX4_append_113 ?_
      refine lv_iconst (v := 1) hx hb dX4_append_116 (by decide) ?_
      have hq8 : h0f10.toInt = 0 := by omega
      refine lv_iadd hx hb dX4_append_117 (lv_topi (fun v9 e_v9 => ?_))
      have e_v9 := ai_add e_v9 hq8 li_1 (by omega)
      refine tz_put (ci := 3) (v := .int v9) (ty := .int) (C := RX4) (F := TX4) (N := 12) hx hb hU iX4 tyX4 tyX4_ok nmX4 hown hK hT hS 5 rfl rfl 10 (by decide) w164 (fun _ h9 => h9) rfl (by decide +kernel) rfl rfl (Nat.le_of_ble_eq_true rfl) dX4_append_118 (fun H locs hT hS => ?_)
      have hT : TP D A [(h2, aJ (k 1) 900 anJ), (h3, aI (k 0) 100 anI), (h4, aI (k 0) 100 anI), (h5, aI (k 0) 100 anI), (h8, aI (k 0) 100 (rgI (-1) 99)), (h0, ob 3 [.ref h2, .ref h3, .ref h4, .ref h5, .ref h6, .ref h7, .ref h8, .ref h9, .int h0f8, .int h0f9, .int v9, .int h0f11]), (h1, aJ (k 1) 9 anJ), (h7, aI (k 0) 256 (rgI (-1) 99))] _ := hT
      refine lv_iload hx hb dX4_append_121 (lv_at hl 1 rfl) ?_
      exact tz_retI (B := B_cX4_append_9dcf5 D k h0 h1 h2 h3 h4 h5 h7 h8 h6 h9 x2 x3 h0f8 h0f9 h0f10 h0f11) (v := h0f10) hQ hx hb hr hlocks hS (Nat.le_of_ble_eq_true rfl) (Nat.le_of_ble_eq_true rfl) dX4_append_123 (⟨v9, (by omega), rfl, (hT.sub [5, 6, 0, 1, 2, 3, 7, 4] (by decide) rfl)⟩)
    · skip
      have hT := J _ hT1
      have hT : TP D A [(h1, aJ (k 1) 9 anJ), (h2, aJ (k 1) 900 anJ), (h3, aI (k 0) 100 anI), (h4, aI (k 0) 100 anI), (h5, aI (k 0) 100 anI), (h7, aI (k 0) 256 (rgI (-1) 99)), (h8, aI (k 0) 100 (rgI (-1) 99)), (h0, ob 3 [.ref h2, .ref h3, .ref h4, .ref h5, .ref h6, .ref h7, .ref h8, .ref h9, .int h0f8, .int h0f9, .int h0f10, .int h0f11])] _ := hT
      exfalso; omega
  · skip
    have c_1 := ni_nlt c_1 rfl rfl
    exfalso; omega
