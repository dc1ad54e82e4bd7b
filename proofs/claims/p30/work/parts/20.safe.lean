abbrev Rm_cJ7_fill_53178_8cfcc : Room := { frames := 0, cells := 0, slots := 0, locals := 0 }
abbrev B_cJ7_fill_53178_8cfcc (D : va_G) (k : Nat → ClassId) (h0 : Nat) (x1 : Int32) (A : Nat → Prop) (H : Heap) : Prop := TP D A [(h0, aI (k 0) 8 anI)] H
set_option maxHeartbeats 4000000 in
set_option maxRecDepth 100000 in
theorem cJ7_fill_53178_8cfcc (l : Launch) (D : va_G) (k : Nat → ClassId) (sz : Nat) (h0 : Nat) (x1 : Int32) (b_x1 : 0 ≤ x1.toInt ∧ x1.toInt ≤ 0) : Met l yJ7_fill_53178 (Cond.code yJ7_fill_53178 cJ7_fill_53178 4 none :: uw) Rm_cJ7_fill_53178_8cfcc (pT D k sz [.ref h0, .int x1] [(h0, aI (k 0) 8 anI)]) (qV (B_cJ7_fill_53178_8cfcc D k h0 x1 (zA [h0] sz)) (zA [h0] sz)) 0 0 (zA [h0] sz) := by
  refine tz_begin (as := [h0]) (Qc := fun A => qV (B_cJ7_fill_53178_8cfcc D k h0 x1 A) A) (by decide +kernel) rfl (Nat.le_of_ble_eq_true rfl) ?_
  intro p e s m args below meth c ls A Q hx hb hr hml hown hlocks hin hU hK hT hS hA hl hQ
  have hl : lv_has ls 4 [(0, .ref h0), (1, .int x1)] := hl
  have hT : TP D A [(h0, aI (k 0) 8 anI)] s.heap := hT
  refine lv_iconst (v := 0) hx hb dJ7_fill_53178_0 (by decide) ?_
  refine lv_istore_n (lv' := [(2, .int 0), (0, .ref h0), (1, .int x1)]) hx hb dJ7_fill_53178_1 rfl hl (by decide) rfl (fun ls hl => ?_)
  refine lv_aload_n hx hb dJ7_fill_53178_2 rfl (lv_at hl 1 rfl) ?_
  refine tz_aleni (v := 8) hx hb hK hT 0 rfl (by decide +kernel) dJ7_fill_53178_3 ?_
  refine lv_istore_n (lv' := [(3, .int 8), (2, .int 0), (0, .ref h0), (1, .int x1)]) hx hb dJ7_fill_53178_4 rfl hl (by decide) rfl (fun ls hl => ?_)
  have lp5_7 : ∀ (n : Nat) (y6 : Int32) (H : Heap) (locs : List Loc) (ls : Array Slot), (0 ≤ y6.toInt ∧ y6.toInt ≤ 8) → ((-1) * y6.toInt + 8 + 1).toNat < n → TP D A [(h0, aI (k 0) 8 anI)] H → va_S A s.heap H locs → lv_has ls 4 [(0, .ref h0), (1, .int x1), (2, .int y6), (3, .int 8)] → W p l e Rm_cJ7_fill_53178_8cfcc s m args below meth c H locs 0 0 Q (F0 m 5 ls []) := by
    intro n
    induction n with
    | zero => intro y6 H locs ls b_y6 hm hT hS hl; exact absurd hm (Nat.not_lt_zero _)
    | succ n ih =>
      intro y6 H locs ls b_y6 hm hT hS hl
      have ih5_7 := ih
      clear ih
      refine lv_iload_n hx hb dJ7_fill_53178_5 rfl (lv_at hl 2 rfl) ?_
      refine lv_iload_n hx hb dJ7_fill_53178_6 rfl (lv_at hl 3 rfl) ?_
      refine lv_icmp_ge (tgt := 20) hx hb dJ7_fill_53178_7 (by decide) (fun c_8 => ?_) (fun c_8 => ?_)
      · skip
        have c_8 := ni_le c_8 li_8 rfl
        exact tz_retV (B := B_cJ7_fill_53178_8cfcc D k h0 x1) hQ hx hb hr hlocks hS (Nat.le_of_ble_eq_true rfl) (Nat.le_of_ble_eq_true rfl) dJ7_fill_53178_20 (hT)
      · skip
        have c_8 := ni_nle c_8 li_8 rfl
        refine lv_aload_n hx hb dJ7_fill_53178_10 rfl (lv_at hl 0 rfl) ?_
        refine lv_iload_n hx hb dJ7_fill_53178_11 rfl (lv_at hl 2 rfl) ?_
        refine lv_iload_n hx hb dJ7_fill_53178_12 rfl (lv_at hl 1 rfl) ?_
        refine tz_iast hx hb hK hT hS 0 rfl (by omega) (fun _ _ => trivial) dJ7_fill_53178_13 (fun H locs hT hS => ?_)
        obtain ⟨v9, e_v9⟩ : ∃ x : Int32, x = y6 + Int32.ofInt 1 := ⟨_, rfl⟩
        have f_v9 := e_v9.symm
        have e_v9 : v9.toInt = y6.toInt + 1 := ai_add e_v9 rfl (show (Int32.ofInt 1).toInt = 1 from (by decide +kernel)) (by omega)
        refine lv_iinc (v := v9) (lv' := [(2, .int v9), (0, .ref h0), (1, .int x1), (3, .int 8)]) hx hb dJ7_fill_53178_14 hl (k := 2) rfl f_v9 (by decide) rfl (fun ls hl => ?_)
        refine lv_goto (tgt := 5) hx hb dJ7_fill_53178_17 (by decide) ?_
        exact ih5_7 v9 _ _ _ (by omega)  (by omega) hT hS (lv_sub hl [1, 2, 0, 3] rfl)
  exact lp5_7 (((-1) * (0 : Int32).toInt + 8 + 1).toNat + 1) (0) _ _ _ (by have := li_0; omega)  (Nat.lt_succ_self _) hT hS (lv_sub hl [2, 3, 1, 0] rfl)
abbrev Rm_cX10_forgetWhatCame_0fe65 : Room := { frames := 1, cells := 0, slots := 0, locals := 23 }
abbrev B_cX10_forgetWhatCame_0fe65 (D : va_G) (k : Nat → ClassId) (h0 h7 h1 h2 h3 h4 h5 h6 h8 h9 h10 h11 h12 : Nat) (h0f2 : Int32) (h0f6 : Int32) (h0f8 : Int32) (h0f11 : Int32) (A : Nat → Prop) (H : Heap) : Prop := TP D A [(h0, ob 7 [.ref h1, .ref h2, .int h0f2, .ref h3, .ref h4, .ref h5, .int 0, .ref h6, .int 0, .null, .ref h7, .int h0f11, .ref h8, .ref h9, .ref h10, .ref h11, .ref h12]), (h7, aI (k 0) 8 anI)] H
set_option maxHeartbeats 4000000 in
set_option maxRecDepth 100000 in
theorem cX10_forgetWhatCame_0fe65 (l : Launch) (D : va_G) (k : Nat → ClassId) (sz : Nat) (h0 h7 h1 h2 h3 h4 h5 h6 h8 h9 h10 h11 h12 : Nat) (h0f2 : Int32) (h0f6 : Int32) (h0f8 : Int32) (h0f11 : Int32) (b_h0f2 : 0 ≤ h0f2.toInt ∧ h0f2.toInt ≤ 1) (b_h0f6 : 0 ≤ h0f6.toInt ∧ h0f6.toInt ≤ 1) (b_h0f8 : 0 ≤ h0f8.toInt ∧ h0f8.toInt ≤ 1) (b_h0f11 : 0 ≤ h0f11.toInt ∧ h0f11.toInt ≤ 200) : Met l yX10_forgetWhatCame (Cond.code yX10_forgetWhatCame cX10_forgetWhatCame 1 none :: uw) Rm_cX10_forgetWhatCame_0fe65 (pT D k sz [.ref h0] [(h0, ob 7 [.ref h1, .ref h2, .int h0f2, .ref h3, .ref h4, .ref h5, .int h0f6, .ref h6, .int h0f8, .null, .ref h7, .int h0f11, .ref h8, .ref h9, .ref h10, .ref h11, .ref h12]), (h7, aI (k 0) 8 anI)]) (qV (B_cX10_forgetWhatCame_0fe65 D k h0 h7 h1 h2 h3 h4 h5 h6 h8 h9 h10 h11 h12 h0f2 h0f6 h0f8 h0f11 (zA [h0, h7] sz)) (zA [h0, h7] sz)) 0 0 (zA [h0, h7] sz) := by
  refine tz_begin (as := [h0, h7]) (Qc := fun A => qV (B_cX10_forgetWhatCame_0fe65 D k h0 h7 h1 h2 h3 h4 h5 h6 h8 h9 h10 h11 h12 h0f2 h0f6 h0f8 h0f11 A) A) (by decide +kernel) rfl (Nat.le_of_ble_eq_true rfl) ?_
  intro p e s m args below meth c ls A Q hx hb hr hml hown hlocks hin hU hK hT hS hA hl hQ
  have hl : lv_has ls 1 [(0, .ref h0)] := hl
  have hT : TP D A [(h0, ob 7 [.ref h1, .ref h2, .int h0f2, .ref h3, .ref h4, .ref h5, .int h0f6, .ref h6, .int h0f8, .null, .ref h7, .int h0f11, .ref h8, .ref h9, .ref h10, .ref h11, .ref h12]), (h7, aI (k 0) 8 anI)] s.heap := hT
  refine lv_aload_n hx hb dX10_forgetWhatCame_0 rfl (lv_at hl 0 rfl) ?_
  refine lv_iconst (v := 0) hx hb dX10_forgetWhatCame_1 (by decide) ?_
  refine tz_put (ci := 7) (v := .int 0) (ty := .boolean) (C := RX10) (F := TX10) (N := 17) hx hb hU iX10 tyX10 tyX10_ok nmX10 hown hK hT hS 0 rfl rfl 6 (by decide) w255 (fun _ h9 => h9) rfl (by decide +kernel) rfl rfl (Nat.le_of_ble_eq_true rfl) dX10_forgetWhatCame_2 (fun H locs hT hS => ?_)
  have hT : TP D A [(h0, ob 7 [.ref h1, .ref h2, .int h0f2, .ref h3, .ref h4, .ref h5, .int 0, .ref h6, .int h0f8, .null, .ref h7, .int h0f11, .ref h8, .ref h9, .ref h10, .ref h11, .ref h12]), (h7, aI (k 0) 8 anI)] _ := hT
  refine lv_aload_n hx hb dX10_forgetWhatCame_5 rfl (lv_at hl 0 rfl) ?_
  refine lv_iconst (v := 0) hx hb dX10_forgetWhatCame_6 (by decide) ?_
  refine tz_put (ci := 7) (v := .int 0) (ty := .boolean) (C := RX10) (F := TX10) (N := 17) hx hb hU iX10 tyX10 tyX10_ok nmX10 hown hK hT hS 0 rfl rfl 8 (by decide) w257 (fun _ h9 => h9) rfl (by decide +kernel) rfl rfl (Nat.le_of_ble_eq_true rfl) dX10_forgetWhatCame_7 (fun H locs hT hS => ?_)
  have hT : TP D A [(h0, ob 7 [.ref h1, .ref h2, .int h0f2, .ref h3, .ref h4, .ref h5, .int 0, .ref h6, .int 0, .null, .ref h7, .int h0f11, .ref h8, .ref h9, .ref h10, .ref h11, .ref h12]), (h7, aI (k 0) 8 anI)] _ := hT
  refine lv_aload_n hx hb dX10_forgetWhatCame_10 rfl (lv_at hl 0 rfl) ?_
  refine tz_get (ci := 7) (v := .ref h7) (C := RX10) (F := TX10) (N := 17) hx hb hU iX10 hown hK hT 0 rfl rfl 10 (by decide) w259 (fun _ h9 => h9) rfl dX10_forgetWhatCame_11 ?_
  refine lv_iconst (v := 0) hx hb dX10_forgetWhatCame_14 (by decide) ?_
  have q_q2 := li_0
  refine tcV (Tc := [(h7, aI (k 0) 8 anI)]) (Tr := [(h0, ob 7 [.ref h1, .ref h2, .int h0f2, .ref h3, .ref h4, .ref h5, .int 0, .ref h6, .int 0, .null, .ref h7, .int h0f11, .ref h8, .ref h9, .ref h10, .ref h11, .ref h12])]) (as := [h7]) (zcS (As := [.ref h7, .int 0]) (rest := []) (Tc := [(h7, aI (k 0) 8 anI)]) hx hb hml hown hU hK hT [1] rfl (by decide) (cJ7_fill_53178_8cfcc l D k _ h7 (0) (by have := li_0; omega)) w311 w309 w310 w73 hdJ7_fill_53178 ⟨rfl, rfl⟩ ⟨Nat.le_of_ble_eq_true rfl, Nat.le_of_ble_eq_true rfl⟩ rfl hl.1 (Nat.le_of_ble_eq_true rfl) dX10_forgetWhatCame_15 ⟨Nat.le_of_ble_eq_true rfl, Nat.le_of_ble_eq_true rfl⟩) hT hS hA [1] [0] rfl rfl rfl (by decide) (by decide) (fun H locs hB J hS => ?_)
  have hT1 := hB
  have hT := J _ hT1
  have hT : TP D A [(h0, ob 7 [.ref h1, .ref h2, .int h0f2, .ref h3, .ref h4, .ref h5, .int 0, .ref h6, .int 0, .null, .ref h7, .int h0f11, .ref h8, .ref h9, .ref h10, .ref h11, .ref h12]), (h7, aI (k 0) 8 anI)] _ := hT
  exact tz_retV (B := B_cX10_forgetWhatCame_0fe65 D k h0 h7 h1 h2 h3 h4 h5 h6 h8 h9 h10 h11 h12 h0f2 h0f6 h0f8 h0f11) hQ hx hb hr hlocks hS (Nat.le_of_ble_eq_true rfl) (Nat.le_of_ble_eq_true rfl) dX10_forgetWhatCame_18 (hT)
abbrev Rm_cX10_size_0b28c : Room := { frames := 2, cells := 0, slots := 0, locals := 43 }
abbrev B_cX10_size_0b28c (D : va_G) (k : Nat → ClassId) (h0 h1 h7 h2 h3 h4 h5 h6 h8 h9 h10 h11 h12 h13 : Nat) (x1 : Int32) (h0f2 : Int32) (h0f6 : Int32) (h0f8 : Int32) (h0f11 : Int32) (h1f0 : Int32) (h1f1 : Int32) (h1f2 : Int32) (A : Nat → Prop) (r : Int32) (H : Heap) : Prop := ∃ o0 : Int32, ∃ o1 : Int32, ∃ o2 : Int32, ∃ o3 : Int32, (0 ≤ o0.toInt ∧ o0.toInt ≤ 1) ∧ (0 ≤ o1.toInt ∧ o1.toInt ≤ 1) ∧ (1 ≤ o2.toInt ∧ o2.toInt ≤ 3) ∧ (0 ≤ o3.toInt ∧ o3.toInt ≤ 4) ∧ ((-1) ≤ r.toInt ∧ r.toInt ≤ 3) ∧ TP D A [(h0, ob 7 [.ref h1, .ref h2, .int h0f2, .ref h3, .ref h4, .ref h5, .int o0, .ref h6, .int o1, .null, .ref h7, .int h0f11, .ref h8, .ref h9, .ref h10, .ref h11, .ref h12]), (h1, ob 4 [.int o2, .int o3, .int h1f2, .ref h13]), (h7, aI (k 0) 8 anI)] H
set_option maxHeartbeats 4000000 in
set_option maxRecDepth 100000 in
theorem cX10_size_0b28c (l : Launch) (D : va_G) (k : Nat → ClassId) (sz : Nat) (h0 h1 h7 h2 h3 h4 h5 h6 h8 h9 h10 h11 h12 h13 : Nat) (x1 : Int32) (h0f2 : Int32) (h0f6 : Int32) (h0f8 : Int32) (h0f11 : Int32) (h1f0 : Int32) (h1f1 : Int32) (h1f2 : Int32) (b_h0f2 : 0 ≤ h0f2.toInt ∧ h0f2.toInt ≤ 1) (b_h0f6 : 0 ≤ h0f6.toInt ∧ h0f6.toInt ≤ 1) (b_h0f8 : 0 ≤ h0f8.toInt ∧ h0f8.toInt ≤ 1) (b_h0f11 : 0 ≤ h0f11.toInt ∧ h0f11.toInt ≤ 200) (b_h1f0 : 1 ≤ h1f0.toInt ∧ h1f0.toInt ≤ 3) (b_h1f1 : 0 ≤ h1f1.toInt ∧ h1f1.toInt ≤ 4) : Met l yX10_size (Cond.code yX10_size cX10_size 3 (some .int) :: uw) Rm_cX10_size_0b28c (pT D k sz [.ref h0, .int x1] [(h0, ob 7 [.ref h1, .ref h2, .int h0f2, .ref h3, .ref h4, .ref h5, .int h0f6, .ref h6, .int h0f8, .null, .ref h7, .int h0f11, .ref h8, .ref h9, .ref h10, .ref h11, .ref h12]), (h1, ob 4 [.int h1f0, .int h1f1, .int h1f2, .ref h13]), (h7, aI (k 0) 8 anI)]) (qI (B_cX10_size_0b28c D k h0 h1 h7 h2 h3 h4 h5 h6 h8 h9 h10 h11 h12 h13 x1 h0f2 h0f6 h0f8 h0f11 h1f0 h1f1 h1f2 (zA [h0, h1, h7] sz)) (zA [h0, h1, h7] sz)) 0 0 (zA [h0, h1, h7] sz) := by
  refine tz_begin (as := [h0, h1, h7]) (Qc := fun A => qI (B_cX10_size_0b28c D k h0 h1 h7 h2 h3 h4 h5 h6 h8 h9 h10 h11 h12 h13 x1 h0f2 h0f6 h0f8 h0f11 h1f0 h1f1 h1f2 A) A) (by decide +kernel) rfl (Nat.le_of_ble_eq_true rfl) ?_
  intro p e s m args below meth c ls A Q hx hb hr hml hown hlocks hin hU hK hT hS hA hl hQ
  have hl : lv_has ls 3 [(0, .ref h0), (1, .int x1)] := hl
  have hT : TP D A [(h0, ob 7 [.ref h1, .ref h2, .int h0f2, .ref h3, .ref h4, .ref h5, .int h0f6, .ref h6, .int h0f8, .null, .ref h7, .int h0f11, .ref h8, .ref h9, .ref h10, .ref h11, .ref h12]), (h1, ob 4 [.int h1f0, .int h1f1, .int h1f2, .ref h13]), (h7, aI (k 0) 8 anI)] s.heap := hT
  refine lv_iload_n hx hb dX10_size_0 rfl (lv_at hl 1 rfl) ?_
  refine lv_iconst (v := 1) hx hb dX10_size_1 (by decide) ?_
  refine lv_icmp_lt (tgt := 10) hx hb dX10_size_2 (by decide) (fun c_1 => ?_) (fun c_1 => ?_)
  · skip
    have c_1 := ni_lt c_1 rfl li_1
    refine lv_iconst (v := (-1)) hx hb dX10_size_10 (by decide) ?_
    exact tz_retI (B := B_cX10_size_0b28c D k h0 h1 h7 h2 h3 h4 h5 h6 h8 h9 h10 h11 h12 h13 x1 h0f2 h0f6 h0f8 h0f11 h1f0 h1f1 h1f2) (v := (-1)) hQ hx hb hr hlocks hS (Nat.le_of_ble_eq_true rfl) (Nat.le_of_ble_eq_true rfl) dX10_size_11 (⟨h0f6, h0f8, h1f0, h1f1, (by have := li_m1; omega), (by have := li_m1; omega), (by have := li_m1; omega), (by have := li_m1; omega), (by have := li_m1; omega), hT⟩)
  · skip
    have c_1 := ni_nlt c_1 rfl li_1
    refine lv_iload_n hx hb dX10_size_5 rfl (lv_at hl 1 rfl) ?_
    refine lv_iconst (v := 3) hx hb dX10_size_6 (by decide) ?_
    refine lv_icmp_le (tgt := 12) hx hb dX10_size_7 (by decide) (fun c_2 => ?_) (fun c_2 => ?_)
    · skip
      have c_2 := ni_le c_2 rfl li_3
      refine lv_aload_n hx hb dX10_size_12 rfl (lv_at hl 0 rfl) ?_
      refine tz_get (ci := 7) (v := .ref h1) (C := RX10) (F := TX10) (N := 17) hx hb hU iX10 hown hK hT 0 rfl rfl 0 (by decide) w249 (fun _ h9 => h9) rfl dX10_size_13 ?_
      refine tz_get (ci := 4) (v := .int h1f0) (C := RX5) (F := TX5) (N := 4) hx hb hU iX5 hown hK hT 1 rfl rfl 0 (by decide) w93 (fun _ h9 => h9) rfl dX10_size_16 ?_
      refine lv_istore_n (lv' := [(2, .int h1f0), (0, .ref h0), (1, .int x1)]) hx hb dX10_size_19 rfl hl (by decide) rfl (fun ls hl => ?_)
      refine lv_iload_n hx hb dX10_size_20 rfl (lv_at hl 2 rfl) ?_
      refine lv_iload_n hx hb dX10_size_21 rfl (lv_at hl 0 rfl) ?_
      refine lv_icmp_eq (tgt := 45) hx hb dX10_size_22 (by decide) (fun c_3 => ?_) (fun c_3 => ?_)
      · skip
        have c_3 := ni_eq c_3 rfl rfl
        refine lv_iload_n hx hb dX10_size_45 rfl (lv_at hl 0 rfl) ?_
        exact tz_retI (B := B_cX10_size_0b28c D k h0 h1 h7 h2 h3 h4 h5 h6 h8 h9 h10 h11 h12 h13 x1 h0f2 h0f6 h0f8 h0f11 h1f0 h1f1 h1f2) (v := h1f0) hQ hx hb hr hlocks hS (Nat.le_of_ble_eq_true rfl) (Nat.le_of_ble_eq_true rfl) dX10_size_46 (⟨h0f6, h0f8, h1f0, h1f1, (by omega), (by omega), (by omega), (by omega), (by omega), hT⟩)
      · skip
        have c_3 := ni_ne c_3 rfl rfl
        refine lv_aload_n hx hb dX10_size_25 rfl (lv_at hl 1 rfl) ?_
        refine tz_get (ci := 7) (v := .ref h1) (C := RX10) (F := TX10) (N := 17) hx hb hU iX10 hown hK hT 0 rfl rfl 0 (by decide) w249 (fun _ h9 => h9) rfl dX10_size_26 ?_
        refine lv_iload_n hx hb dX10_size_29 rfl (lv_at hl 2 rfl) ?_
        refine tz_put (ci := 4) (v := .int x1) (ty := .int) (C := RX5) (F := TX5) (N := 4) hx hb hU iX5 tyX5 tyX5_ok nmX5 hown hK hT hS 1 rfl rfl 0 (by decide) w93 (fun _ h9 => h9) rfl (by decide +kernel) rfl rfl (Nat.le_of_ble_eq_true rfl) dX10_size_30 (fun H locs hT hS => ?_)
        have hT : TP D A [(h0, ob 7 [.ref h1, .ref h2, .int h0f2, .ref h3, .ref h4, .ref h5, .int h0f6, .ref h6, .int h0f8, .null, .ref h7, .int h0f11, .ref h8, .ref h9, .ref h10, .ref h11, .ref h12]), (h1, ob 4 [.int x1, .int h1f1, .int h1f2, .ref h13]), (h7, aI (k 0) 8 anI)] _ := hT
        refine lv_aload_n hx hb dX10_size_33 rfl (lv_at hl 1 rfl) ?_
        refine tz_get (ci := 7) (v := .ref h1) (C := RX10) (F := TX10) (N := 17) hx hb hU iX10 hown hK hT 0 rfl rfl 0 (by decide) w249 (fun _ h9 => h9) rfl dX10_size_34 ?_
        refine lv_iconst (v := 0) hx hb dX10_size_37 (by decide) ?_
        refine tz_put (ci := 4) (v := .int 0) (ty := .int) (C := RX5) (F := TX5) (N := 4) hx hb hU iX5 tyX5 tyX5_ok nmX5 hown hK hT hS 1 rfl rfl 1 (by decide) w97 (fun _ h9 => h9) rfl (by decide +kernel) rfl rfl (Nat.le_of_ble_eq_true rfl) dX10_size_38 (fun H locs hT hS => ?_)
        have hT : TP D A [(h0, ob 7 [.ref h1, .ref h2, .int h0f2, .ref h3, .ref h4, .ref h5, .int h0f6, .ref h6, .int h0f8, .null, .ref h7, .int h0f11, .ref h8, .ref h9, .ref h10, .ref h11, .ref h12]), (h1, ob 4 [.int x1, .int 0, .int h1f2, .ref h13]), (h7, aI (k 0) 8 anI)] _ := hT
        refine lv_aload_n hx hb dX10_size_41 rfl (lv_at hl 1 rfl) ?_
        refine tcV (Tc := [(h0, ob 7 [.ref h1, .ref h2, .int h0f2, .ref h3, .ref h4, .ref h5, .int h0f6, .ref h6, .int h0f8, .null, .ref h7, .int h0f11, .ref h8, .ref h9, .ref h10, .ref h11, .ref h12]), (h7, aI (k 0) 8 anI)]) (Tr := [(h1, ob 4 [.int x1, .int 0, .int h1f2, .ref h13])]) (as := [h0, h7]) (zcV (q0 := 0) (ci := 7) (As := []) (rest := []) (Tc := [(h0, ob 7 [.ref h1, .ref h2, .int h0f2, .ref h3, .ref h4, .ref h5, .int h0f6, .ref h6, .int h0f8, .null, .ref h7, .int h0f11, .ref h8, .ref h9, .ref h10, .ref h11, .ref h12]), (h7, aI (k 0) 8 anI)]) hx hb hml hown hU hK hT rfl rfl [0, 2] rfl (by decide) (cX10_forgetWhatCame_0fe65 l D k _ h0 h7 h1 h2 h3 h4 h5 h6 h8 h9 h10 h11 h12 h0f2 h0f6 h0f8 h0f11 (by omega) (by omega) (by omega) (by omega)) w308 w305 w307 w0 w63 hdX10_forgetWhatCame ⟨rfl, rfl⟩ ⟨Nat.le_of_ble_eq_true rfl, Nat.le_of_ble_eq_true rfl⟩ rfl hl.1 (Nat.le_of_ble_eq_true rfl) dX10_size_42 ⟨Nat.le_of_ble_eq_true rfl, Nat.le_of_ble_eq_true rfl⟩) hT hS hA [0, 2] [1] rfl rfl rfl (by decide) (by decide) (fun H locs hB J hS => ?_)
        have hT1 := hB
        have hT := J _ hT1
        have hT : TP D A [(h1, ob 4 [.int x1, .int 0, .int h1f2, .ref h13]), (h0, ob 7 [.ref h1, .ref h2, .int h0f2, .ref h3, .ref h4, .ref h5, .int 0, .ref h6, .int 0, .null, .ref h7, .int h0f11, .ref h8, .ref h9, .ref h10, .ref h11, .ref h12]), (h7, aI (k 0) 8 anI)] _ := hT
        refine lv_iload_n hx hb dX10_size_45 rfl (lv_at hl 0 rfl) ?_
        exact tz_retI (B := B_cX10_size_0b28c D k h0 h1 h7 h2 h3 h4 h5 h6 h8 h9 h10 h11 h12 h13 x1 h0f2 h0f6 h0f8 h0f11 h1f0 h1f1 h1f2) (v := h1f0) hQ hx hb hr hlocks hS (Nat.le_of_ble_eq_true rfl) (Nat.le_of_ble_eq_true rfl) dX10_size_46 (⟨0, 0, x1, 0, (by have := li_0; omega), (by have := li_0; omega), (by have := li_0; omega), (by have := li_0; omega), (by have := li_0; omega), (hT.sub [1, 0, 2] (by decide) rfl)⟩)
    · skip
      have c_2 := ni_nle c_2 rfl li_3
      refine lv_iconst (v := (-1)) hx hb dX10_size_10 (by decide) ?_
      exact tz_retI (B := B_cX10_size_0b28c D k h0 h1 h7 h2 h3 h4 h5 h6 h8 h9 h10 h11 h12 h13 x1 h0f2 h0f6 h0f8 h0f11 h1f0 h1f1 h1f2) (v := (-1)) hQ hx hb hr hlocks hS (Nat.le_of_ble_eq_true rfl) (Nat.le_of_ble_eq_true rfl) dX10_size_11 (⟨h0f6, h0f8, h1f0, h1f1, (by have := li_m1; omega), (by have := li_m1; omega), (by have := li_m1; omega), (by have := li_m1; omega), (by have := li_m1; omega), hT⟩)
abbrev Rm_cX10_forgetWhatCame_69e3b : Room := { frames := 1, cells := 0, slots := 0, locals := 23 }
abbrev B_cX10_forgetWhatCame_69e3b (D : va_G) (k : Nat → ClassId) (h0 h8 h1 h2 h3 h4 h5 h6 h7 h9 h10 h11 h12 h13 : Nat) (h0f2 : Int32) (h0f6 : Int32) (h0f8 : Int32) (h0f11 : Int32) (A : Nat → Prop) (H : Heap) : Prop := TP D A [(h0, ob 7 [.ref h1, .ref h2, .int h0f2, .ref h3, .ref h4, .ref h5, .int 0, .ref h6, .int 0, .ref h7, .ref h8, .int h0f11, .ref h9, .ref h10, .ref h11, .ref h12, .ref h13]), (h8, aI (k 0) 8 anI)] H
set_option maxHeartbeats 4000000 in
set_option maxRecDepth 100000 in
theorem cX10_forgetWhatCame_69e3b (l : Launch) (D : va_G) (k : Nat → ClassId) (sz : Nat) (h0 h8 h1 h2 h3 h4 h5 h6 h7 h9 h10 h11 h12 h13 : Nat) (h0f2 : Int32) (h0f6 : Int32) (h0f8 : Int32) (h0f11 : Int32) (b_h0f2 : 0 ≤ h0f2.toInt ∧ h0f2.toInt ≤ 1) (b_h0f6 : 0 ≤ h0f6.toInt ∧ h0f6.toInt ≤ 1) (b_h0f8 : 0 ≤ h0f8.toInt ∧ h0f8.toInt ≤ 1) (b_h0f11 : 0 ≤ h0f11.toInt ∧ h0f11.toInt ≤ 200) : Met l yX10_forgetWhatCame (Cond.code yX10_forgetWhatCame cX10_forgetWhatCame 1 none :: uw) Rm_cX10_forgetWhatCame_69e3b (pT D k sz [.ref h0] [(h0, ob 7 [.ref h1, .ref h2, .int h0f2, .ref h3, .ref h4, .ref h5, .int h0f6, .ref h6, .int h0f8, .ref h7, .ref h8, .int h0f11, .ref h9, .ref h10, .ref h11, .ref h12, .ref h13]), (h8, aI (k 0) 8 anI)]) (qV (B_cX10_forgetWhatCame_69e3b D k h0 h8 h1 h2 h3 h4 h5 h6 h7 h9 h10 h11 h12 h13 h0f2 h0f6 h0f8 h0f11 (zA [h0, h8] sz)) (zA [h0, h8] sz)) 0 0 (zA [h0, h8] sz) := by
  refine tz_begin (as := [h0, h8]) (Qc := fun A => qV (B_cX10_forgetWhatCame_69e3b D k h0 h8 h1 h2 h3 h4 h5 h6 h7 h9 h10 h11 h12 h13 h0f2 h0f6 h0f8 h0f11 A) A) (by decide +kernel) rfl (Nat.le_of_ble_eq_true rfl) ?_
  intro p e s m args below meth c ls A Q hx hb hr hml hown hlocks hin hU hK hT hS hA hl hQ
  have hl : lv_has ls 1 [(0, .ref h0)] := hl
  have hT : TP D A [(h0, ob 7 [.ref h1, .ref h2, .int h0f2, .ref h3, .ref h4, .ref h5, .int h0f6, .ref h6, .int h0f8, .ref h7, .ref h8, .int h0f11, .ref h9, .ref h10, .ref h11, .ref h12, .ref h13]), (h8, aI (k 0) 8 anI)] s.heap := hT
  refine lv_aload_n hx hb dX10_forgetWhatCame_0 rfl (lv_at hl 0 rfl) ?_
  refine lv_iconst (v := 0) hx hb dX10_forgetWhatCame_1 (by decide) ?_
  refine tz_put (ci := 7) (v := .int 0) (ty := .boolean) (C := RX10) (F := TX10) (N := 17) hx hb hU iX10 tyX10 tyX10_ok nmX10 hown hK hT hS 0 rfl rfl 6 (by decide) w255 (fun _ h9 => h9) rfl (by decide +kernel) rfl rfl (Nat.le_of_ble_eq_true rfl) dX10_forgetWhatCame_2 (fun H locs hT hS => ?_)
  have hT : TP D A [(h0, ob 7 [.ref h1, .ref h2, .int h0f2, .ref h3, .ref h4, .ref h5, .int 0, .ref h6, .int h0f8, .ref h7, .ref h8, .int h0f11, .ref h9, .ref h10, .ref h11, .ref h12, .ref h13]), (h8, aI (k 0) 8 anI)] _ := hT
  refine lv_aload_n hx hb dX10_forgetWhatCame_5 rfl (lv_at hl 0 rfl) ?_
  refine lv_iconst (v := 0) hx hb dX10_forgetWhatCame_6 (by decide) ?_
  refine tz_put (ci := 7) (v := .int 0) (ty := .boolean) (C := RX10) (F := TX10) (N := 17) hx hb hU iX10 tyX10 tyX10_ok nmX10 hown hK hT hS 0 rfl rfl 8 (by decide) w257 (fun _ h9 => h9) rfl (by decide +kernel) rfl rfl (Nat.le_of_ble_eq_true rfl) dX10_forgetWhatCame_7 (fun H locs hT hS => ?_)
  have hT : TP D A [(h0, ob 7 [.ref h1, .ref h2, .int h0f2, .ref h3, .ref h4, .ref h5, .int 0, .ref h6, .int 0, .ref h7, .ref h8, .int h0f11, .ref h9, .ref h10, .ref h11, .ref h12, .ref h13]), (h8, aI (k 0) 8 anI)] _ := hT
  refine lv_aload_n hx hb dX10_forgetWhatCame_10 rfl (lv_at hl 0 rfl) ?_
  refine tz_get (ci := 7) (v := .ref h8) (C := RX10) (F := TX10) (N := 17) hx hb hU iX10 hown hK hT 0 rfl rfl 10 (by decide) w259 (fun _ h9 => h9) rfl dX10_forgetWhatCame_11 ?_
  refine lv_iconst (v := 0) hx hb dX10_forgetWhatCame_14 (by decide) ?_
  have q_q2 := li_0
  refine tcV (Tc := [(h8, aI (k 0) 8 anI)]) (Tr := [(h0, ob 7 [.ref h1, .ref h2, .int h0f2, .ref h3, .ref h4, .ref h5, .int 0, .ref h6, .int 0, .ref h7, .ref h8, .int h0f11, .ref h9, .ref h10, .ref h11, .ref h12, .ref h13])]) (as := [h8]) (zcS (As := [.ref h8, .int 0]) (rest := []) (Tc := [(h8, aI (k 0) 8 anI)]) hx hb hml hown hU hK hT [1] rfl (by decide) (cJ7_fill_53178_8cfcc l D k _ h8 (0) (by have := li_0; omega)) w311 w309 w310 w73 hdJ7_fill_53178 ⟨rfl, rfl⟩ ⟨Nat.le_of_ble_eq_true rfl, Nat.le_of_ble_eq_true rfl⟩ rfl hl.1 (Nat.le_of_ble_eq_true rfl) dX10_forgetWhatCame_15 ⟨Nat.le_of_ble_eq_true rfl, Nat.le_of_ble_eq_true rfl⟩) hT hS hA [1] [0] rfl rfl rfl (by decide) (by decide) (fun H locs hB J hS => ?_)
  have hT1 := hB
  have hT := J _ hT1
  have hT : TP D A [(h0, ob 7 [.ref h1, .ref h2, .int h0f2, .ref h3, .ref h4, .ref h5, .int 0, .ref h6, .int 0, .ref h7, .ref h8, .int h0f11, .ref h9, .ref h10, .ref h11, .ref h12, .ref h13]), (h8, aI (k 0) 8 anI)] _ := hT
  exact tz_retV (B := B_cX10_forgetWhatCame_69e3b D k h0 h8 h1 h2 h3 h4 h5 h6 h7 h9 h10 h11 h12 h13 h0f2 h0f6 h0f8 h0f11) hQ hx hb hr hlocks hS (Nat.le_of_ble_eq_true rfl) (Nat.le_of_ble_eq_true rfl) dX10_forgetWhatCame_18 (hT)
abbrev Rm_cX10_size_3ace5 : Room := { frames := 2, cells := 0, slots := 0, locals := 43 }
abbrev B_cX10_size_3ace5 (D : va_G) (k : Nat → ClassId) (h0 h1 h8 h2 h3 h4 h5 h6 h7 h9 h10 h11 h12 h13 h14 : Nat) (x1 : Int32) (h0f2 : Int32) (h0f6 : Int32) (h0f8 : Int32) (h0f11 : Int32) (h1f0 : Int32) (h1f1 : Int32) (h1f2 : Int32) (A : Nat → Prop) (r : Int32) (H : Heap) : Prop := ∃ o0 : Int32, ∃ o1 : Int32, ∃ o2 : Int32, ∃ o3 : Int32, (0 ≤ o0.toInt ∧ o0.toInt ≤ 1) ∧ (0 ≤ o1.toInt ∧ o1.toInt ≤ 1) ∧ (1 ≤ o2.toInt ∧ o2.toInt ≤ 3) ∧ (0 ≤ o3.toInt ∧ o3.toInt ≤ 4) ∧ ((-1) ≤ r.toInt ∧ r.toInt ≤ 3) ∧ TP D A [(h0, ob 7 [.ref h1, .ref h2, .int h0f2, .ref h3, .ref h4, .ref h5, .int o0, .ref h6, .int o1, .ref h7, .ref h8, .int h0f11, .ref h9, .ref h10, .ref h11, .ref h12, .ref h13]), (h1, ob 4 [.int o2, .int o3, .int h1f2, .ref h14]), (h8, aI (k 0) 8 anI)] H
set_option maxHeartbeats 4000000 in
set_option maxRecDepth 100000 in
theorem cX10_size_3ace5 (l : Launch) (D : va_G) (k : Nat → ClassId) (sz : Nat) (h0 h1 h8 h2 h3 h4 h5 h6 h7 h9 h10 h11 h12 h13 h14 : Nat) (x1 : Int32) (h0f2 : Int32) (h0f6 : Int32) (h0f8 : Int32) (h0f11 : Int32) (h1f0 : Int32) (h1f1 : Int32) (h1f2 : Int32) (b_h0f2 : 0 ≤ h0f2.toInt ∧ h0f2.toInt ≤ 1) (b_h0f6 : 0 ≤ h0f6.toInt ∧ h0f6.toInt ≤ 1) (b_h0f8 : 0 ≤ h0f8.toInt ∧ h0f8.toInt ≤ 1) (b_h0f11 : 0 ≤ h0f11.toInt ∧ h0f11.toInt ≤ 200) (b_h1f0 : 1 ≤ h1f0.toInt ∧ h1f0.toInt ≤ 3) (b_h1f1 : 0 ≤ h1f1.toInt ∧ h1f1.toInt ≤ 4) : Met l yX10_size (Cond.code yX10_size cX10_size 3 (some .int) :: uw) Rm_cX10_size_3ace5 (pT D k sz [.ref h0, .int x1] [(h0, ob 7 [.ref h1, .ref h2, .int h0f2, .ref h3, .ref h4, .ref h5, .int h0f6, .ref h6, .int h0f8, .ref h7, .ref h8, .int h0f11, .ref h9, .ref h10, .ref h11, .ref h12, .ref h13]), (h1, ob 4 [.int h1f0, .int h1f1, .int h1f2, .ref h14]), (h8, aI (k 0) 8 anI)]) (qI (B_cX10_size_3ace5 D k h0 h1 h8 h2 h3 h4 h5 h6 h7 h9 h10 h11 h12 h13 h14 x1 h0f2 h0f6 h0f8 h0f11 h1f0 h1f1 h1f2 (zA [h0, h1, h8] sz)) (zA [h0, h1, h8] sz)) 0 0 (zA [h0, h1, h8] sz) := by
  refine tz_begin (as := [h0, h1, h8]) (Qc := fun A => qI (B_cX10_size_3ace5 D k h0 h1 h8 h2 h3 h4 h5 h6 h7 h9 h10 h11 h12 h13 h14 x1 h0f2 h0f6 h0f8 h0f11 h1f0 h1f1 h1f2 A) A) (by decide +kernel) rfl (Nat.le_of_ble_eq_true rfl) ?_
  intro p e s m args below meth c ls A Q hx hb hr hml hown hlocks hin hU hK hT hS hA hl hQ
  have hl : lv_has ls 3 [(0, .ref h0), (1, .int x1)] := hl
  have hT : TP D A [(h0, ob 7 [.ref h1, .ref h2, .int h0f2, .ref h3, .ref h4, .ref h5, .int h0f6, .ref h6, .int h0f8, .ref h7, .ref h8, .int h0f11, .ref h9, .ref h10, .ref h11, .ref h12, .ref h13]), (h1, ob 4 [.int h1f0, .int h1f1, .int h1f2, .ref h14]), (h8, aI (k 0) 8 anI)] s.heap := hT
  refine lv_iload_n hx hb dX10_size_0 rfl (lv_at hl 1 rfl) ?_
  refine lv_iconst (v := 1) hx hb dX10_size_1 (by decide) ?_
  refine lv_icmp_lt (tgt := 10) hx hb dX10_size_2 (by decide) (fun c_1 => ?_) (fun c_1 => ?_)
  · skip
    have c_1 := ni_lt c_1 rfl li_1
    refine lv_iconst (v := (-1)) hx hb dX10_size_10 (by decide) ?_
    exact tz_retI (B := B_cX10_size_3ace5 D k h0 h1 h8 h2 h3 h4 h5 h6 h7 h9 h10 h11 h12 h13 h14 x1 h0f2 h0f6 h0f8 h0f11 h1f0 h1f1 h1f2) (v := (-1)) hQ hx hb hr hlocks hS (Nat.le_of_ble_eq_true rfl) (Nat.le_of_ble_eq_true rfl) dX10_size_11 (⟨h0f6, h0f8, h1f0, h1f1, (by have := li_m1; omega), (by have := li_m1; omega), (by have := li_m1; omega), (by have := li_m1; omega), (by have := li_m1; omega), hT⟩)
  · skip
    have c_1 := ni_nlt c_1 rfl li_1
    refine lv_iload_n hx hb dX10_size_5 rfl (lv_at hl 1 rfl) ?_
    refine lv_iconst (v := 3) hx hb dX10_size_6 (by decide) ?_
    refine lv_icmp_le (tgt := 12) hx hb dX10_size_7 (by decide) (fun c_2 => ?_) (fun c_2 => ?_)
    · skip
      have c_2 := ni_le c_2 rfl li_3
      refine lv_aload_n hx hb dX10_size_12 rfl (lv_at hl 0 rfl) ?_
      refine tz_get (ci := 7) (v := .ref h1) (C := RX10) (F := TX10) (N := 17) hx hb hU iX10 hown hK hT 0 rfl rfl 0 (by decide) w249 (fun _ h9 => h9) rfl dX10_size_13 ?_
      refine tz_get (ci := 4) (v := .int h1f0) (C := RX5) (F := TX5) (N := 4) hx hb hU iX5 hown hK hT 1 rfl rfl 0 (by decide) w93 (fun _ h9 => h9) rfl dX10_size_16 ?_
      refine lv_istore_n (lv' := [(2, .int h1f0), (0, .ref h0), (1, .int x1)]) hx hb dX10_size_19 rfl hl (by decide) rfl (fun ls hl => ?_)
      refine lv_iload_n hx hb dX10_size_20 rfl (lv_at hl 2 rfl) ?_
      refine lv_iload_n hx hb dX10_size_21 rfl (lv_at hl 0 rfl) ?_
      refine lv_icmp_eq (tgt := 45) hx hb dX10_size_22 (by decide) (fun c_3 => ?_) (fun c_3 => ?_)
      · skip
        have c_3 := ni_eq c_3 rfl rfl
        refine lv_iload_n hx hb dX10_size_45 rfl (lv_at hl 0 rfl) ?_
        exact tz_retI (B := B_cX10_size_3ace5 D k h0 h1 h8 h2 h3 h4 h5 h6 h7 h9 h10 h11 h12 h13 h14 x1 h0f2 h0f6 h0f8 h0f11 h1f0 h1f1 h1f2) (v := h1f0) hQ hx hb hr hlocks hS (Nat.le_of_ble_eq_true rfl) (Nat.le_of_ble_eq_true rfl) dX10_size_46 (⟨h0f6, h0f8, h1f0, h1f1, (by omega), (by omega), (by omega), (by omega), (by omega), hT⟩)
      · skip
        have c_3 := ni_ne c_3 rfl rfl
        refine lv_aload_n hx hb dX10_size_25 rfl (lv_at hl 1 rfl) ?_
        refine tz_get (ci := 7) (v := .ref h1) (C := RX10) (F := TX10) (N := 17) hx hb hU iX10 hown hK hT 0 rfl rfl 0 (by decide) w249 (fun _ h9 => h9) rfl dX10_size_26 ?_
        refine lv_iload_n hx hb dX10_size_29 rfl (lv_at hl 2 rfl) ?_
        refine tz_put (ci := 4) (v := .int x1) (ty := .int) (C := RX5) (F := TX5) (N := 4) hx hb hU iX5 tyX5 tyX5_ok nmX5 hown hK hT hS 1 rfl rfl 0 (by decide) w93 (fun _ h9 => h9) rfl (by decide +kernel) rfl rfl (Nat.le_of_ble_eq_true rfl) dX10_size_30 (fun H locs hT hS => ?_)
        have hT : TP D A [(h0, ob 7 [.ref h1, .ref h2, .int h0f2, .ref h3, .ref h4, .ref h5, .int h0f6, .ref h6, .int h0f8, .ref h7, .ref h8, .int h0f11, .ref h9, .ref h10, .ref h11, .ref h12, .ref h13]), (h1, ob 4 [.int x1, .int h1f1, .int h1f2, .ref h14]), (h8, aI (k 0) 8 anI)] _ := hT
        refine lv_aload_n hx hb dX10_size_33 rfl (lv_at hl 1 rfl) ?_
        refine tz_get (ci := 7) (v := .ref h1) (C := RX10) (F := TX10) (N := 17) hx hb hU iX10 hown hK hT 0 rfl rfl 0 (by decide) w249 (fun _ h9 => h9) rfl dX10_size_34 ?_
        refine lv_iconst (v := 0) hx hb dX10_size_37 (by decide) ?_
        refine tz_put (ci := 4) (v := .int 0) (ty := .int) (C := RX5) (F := TX5) (N := 4) hx hb hU iX5 tyX5 tyX5_ok nmX5 hown hK hT hS 1 rfl rfl 1 (by decide) w97 (fun _ h9 => h9) rfl (by decide +kernel) rfl rfl (Nat.le_of_ble_eq_true rfl) dX10_size_38 (fun H locs hT hS => ?_)
        have hT : TP D A [(h0, ob 7 [.ref h1, .ref h2, .int h0f2, .ref h3, .ref h4, .ref h5, .int h0f6, .ref h6, .int h0f8, .ref h7, .ref h8, .int h0f11, .ref h9, .ref h10, .ref h11, .ref h12, .ref h13]), (h1, ob 4 [.int x1, .int 0, .int h1f2, .ref h14]), (h8, aI (k 0) 8 anI)] _ := hT
        refine lv_aload_n hx hb dX10_size_41 rfl (lv_at hl 1 rfl) ?_
        refine tcV (Tc := [(h0, ob 7 [.ref h1, .ref h2, .int h0f2, .ref h3, .ref h4, .ref h5, .int h0f6, .ref h6, .int h0f8, .ref h7, .ref h8, .int h0f11, .ref h9, .ref h10, .ref h11, .ref h12, .ref h13]), (h8, aI (k 0) 8 anI)]) (Tr := [(h1, ob 4 [.int x1, .int 0, .int h1f2, .ref h14])]) (as := [h0, h8]) (zcV (q0 := 0) (ci := 7) (As := []) (rest := []) (Tc := [(h0, ob 7 [.ref h1, .ref h2, .int h0f2, .ref h3, .ref h4, .ref h5, .int h0f6, .ref h6, .int h0f8, .ref h7, .ref h8, .int h0f11, .ref h9, .ref h10, .ref h11, .ref h12, .ref h13]), (h8, aI (k 0) 8 anI)]) hx hb hml hown hU hK hT rfl rfl [0, 2] rfl (by decide) (cX10_forgetWhatCame_69e3b l D k _ h0 h8 h1 h2 h3 h4 h5 h6 h7 h9 h10 h11 h12 h13 h0f2 h0f6 h0f8 h0f11 (by omega) (by omega) (by omega) (by omega)) w308 w305 w307 w0 w63 hdX10_forgetWhatCame ⟨rfl, rfl⟩ ⟨Nat.le_of_ble_eq_true rfl, Nat.le_of_ble_eq_true rfl⟩ rfl hl.1 (Nat.le_of_ble_eq_true rfl) dX10_size_42 ⟨Nat.le_of_ble_eq_true rfl, Nat.le_of_ble_eq_true rfl⟩) hT hS hA [0, 2] [1] rfl rfl rfl (by decide) (by decide) (fun H locs hB J hS => ?_)
        have hT1 := hB
        have hT := J _ hT1
        have hT : TP D A [(h1, ob 4 [.int x1, .int 0, .int h1f2, .ref h14]), (h0, ob 7 [.ref h1, .ref h2, .int h0f2, .ref h3, .ref h4, .ref h5, .int 0, .ref h6, .int 0, .ref h7, .ref h8, .int h0f11, .ref h9, .ref h10, .ref h11, .ref h12, .ref h13]), (h8, aI (k 0) 8 anI)] _ := hT
        refine lv_iload_n hx hb dX10_size_45 rfl (lv_at hl 0 rfl) ?_
        exact tz_retI (B := B_cX10_size_3ace5 D k h0 h1 h8 h2 h3 h4 h5 h6 h7 h9 h10 h11 h12 h13 h14 x1 h0f2 h0f6 h0f8 h0f11 h1f0 h1f1 h1f2) (v := h1f0) hQ hx hb hr hlocks hS (Nat.le_of_ble_eq_true rfl) (Nat.le_of_ble_eq_true rfl) dX10_size_46 (⟨0, 0, x1, 0, (by have := li_0; omega), (by have := li_0; omega), (by have := li_0; omega), (by have := li_0; omega), (by have := li_0; omega), (hT.sub [1, 0, 2] (by decide) rfl)⟩)
    · skip
      have c_2 := ni_nle c_2 rfl li_3
      refine lv_iconst (v := (-1)) hx hb dX10_size_10 (by decide) ?_
      exact tz_retI (B := B_cX10_size_3ace5 D k h0 h1 h8 h2 h3 h4 h5 h6 h7 h9 h10 h11 h12 h13 h14 x1 h0f2 h0f6 h0f8 h0f11 h1f0 h1f1 h1f2) (v := (-1)) hQ hx hb hr hlocks hS (Nat.le_of_ble_eq_true rfl) (Nat.le_of_ble_eq_true rfl) dX10_size_11 (⟨h0f6, h0f8, h1f0, h1f1, (by have := li_m1; omega), (by have := li_m1; omega), (by have := li_m1; omega), (by have := li_m1; omega), (by have := li_m1; omega), hT⟩)
abbrev Rm_cX11_in_ca3b9 : Room := { frames := 0, cells := 0, slots := 0, locals := 0 }
abbrev B_cX11_in_ca3b9 (D : va_G) (k : Nat → ClassId) (x0 : Int64) (x1 : Int64) (x2 : Int64) (A : Nat → Prop) (r : Int32) (H : Heap) : Prop := (0 = r ∧ TP D A [] H) ∨ (x1.toInt ≤ x0.toInt ∧ x0.toInt ≤ x2.toInt ∧ 1 = r ∧ TP D A [] H)
set_option maxHeartbeats 4000000 in
set_option maxRecDepth 100000 in
theorem cX11_in_ca3b9 (l : Launch) (D : va_G) (k : Nat → ClassId) (sz : Nat) (x0 : Int64) (x1 : Int64) (x2 : Int64) (b_x1 : (-1000000000) ≤ x1.toInt ∧ x1.toInt ≤ 48) (b_x2 : (-1) ≤ x2.toInt ∧ x2.toInt ≤ 1000000000) : Met l yX11_in (Cond.code yX11_in cX11_in 6 (some .boolean) :: uw) Rm_cX11_in_ca3b9 (pT D k sz [.long x0, .long x1, .long x2] []) (qI (B_cX11_in_ca3b9 D k x0 x1 x2 (zA [] sz)) (zA [] sz)) 0 0 (zA [] sz) := by
  refine tz_begin (as := []) (Qc := fun A => qI (B_cX11_in_ca3b9 D k x0 x1 x2 A) A) (by decide +kernel) rfl (Nat.le_of_ble_eq_true rfl) ?_
  intro p e s m args below meth c ls A Q hx hb hr hml hown hlocks hin hU hK hT hS hA hl hQ
  have hl : lv_has ls 6 [(0, .long x0), (2, .long x1), (4, .long x2)] := hl
  have hT : TP D A [] s.heap := hT
  refine lv_lload_n hx hb dX11_in_0 rfl (lv_at hl 0 rfl) ?_
  refine lv_lload_n hx hb dX11_in_1 rfl (lv_at hl 1 rfl) ?_
  refine W.lcmp hx hb dX11_in_2 ?_
  refine lv_if_lt (tgt := 17) hx hb dX11_in_3 (by decide) (fun c_1 => ?_) (fun c_1 => ?_)
  · skip
    have c_1 := nl_lt c_1 rfl rfl
    refine lv_iconst (v := 0) hx hb dX11_in_17 (by decide) ?_
    exact tz_retZ (B := B_cX11_in_ca3b9 D k x0 x1 x2) (v := 0) hQ hx hb hr hlocks hS (Nat.le_of_ble_eq_true rfl) (Nat.le_of_ble_eq_true rfl) dX11_in_18 (by have := li_0; omega) (Or.inl ⟨rfl, hT⟩)
  · skip
    have c_1 := nl_nlt c_1 rfl rfl
    refine lv_lload_n hx hb dX11_in_6 rfl (lv_at hl 0 rfl) ?_
    refine lv_lload hx hb dX11_in_7 (lv_at hl 2 rfl) ?_
    refine W.lcmp hx hb dX11_in_9 ?_
    refine lv_if_gt (tgt := 17) hx hb dX11_in_10 (by decide) (fun c_2 => ?_) (fun c_2 => ?_)
    · skip
      have c_2 := nl_gt c_2 rfl rfl
      refine lv_iconst (v := 0) hx hb dX11_in_17 (by decide) ?_
      exact tz_retZ (B := B_cX11_in_ca3b9 D k x0 x1 x2) (v := 0) hQ hx hb hr hlocks hS (Nat.le_of_ble_eq_true rfl) (Nat.le_of_ble_eq_true rfl) dX11_in_18 (by have := li_0; omega) (Or.inl ⟨rfl, hT⟩)
    · skip
      have c_2 := nl_ngt c_2 rfl rfl
      refine lv_iconst (v := 1) hx hb dX11_in_13 (by decide) ?_
      refine lv_goto (tgt := 18) hx hb dX11_in_14 (by decide) ?_
      exact tz_retZ (B := B_cX11_in_ca3b9 D k x0 x1 x2) (v := 1) hQ hx hb hr hlocks hS (Nat.le_of_ble_eq_true rfl) (Nat.le_of_ble_eq_true rfl) dX11_in_18 (by have := li_1; omega) (Or.inr (⟨(by have := li_1; omega), (by have := li_1; omega), rfl, hT⟩))
abbrev Rm_cX11_size_9083e : Room := { frames := 1, cells := 0, slots := 0, locals := 25 }
abbrev B_cX11_size_9083e (D : va_G) (k : Nat → ClassId) (h0 h1 h2 h3 h4 h5 h6 h7 h8 h9 h10 h11 h12 h13 h14 h15 h16 h17 h18 h19 h20 h21 : Nat) (x1 : Int32) (h0f0 : Int32) (h0f1 : Int32) (h0f2 : Int32) (h0f3 : Int32) (h0f4 : Int32) (h0f5 : Int32) (h0f8 : Int32) (h0f9 : Int32) (h0f17 : Int32) (h0f18 : Int32) (h0f19 : Int32) (h0f24 : Int32) (h0f25 : Int32) (h0f30 : Int32) (h0f31 : Int32) (A : Nat → Prop) (r : Int32) (H : Heap) : Prop := ∃ o0 : Int32, ∃ o1 : Int32, ∃ o2 : Int32, ∃ o3 : Int32, (1 ≤ o0.toInt ∧ o0.toInt ≤ 3) ∧ (0 ≤ o1.toInt ∧ o1.toInt ≤ 4) ∧ (0 ≤ o2.toInt ∧ o2.toInt ≤ 1) ∧ (0 ≤ o3.toInt ∧ o3.toInt ≤ 60) ∧ ((-1) ≤ r.toInt ∧ r.toInt ≤ 3) ∧ (o3.toInt = 0 ∨ (o3.toInt = h0f30.toInt ∧ o1.toInt = h0f1.toInt ∧ h0f31.toInt = h0f31.toInt)) ∧ (o2.toInt = 0 ∨ o2.toInt = h0f9.toInt) ∧ TP D A [(h0, ob 8 [.int o0, .int o1, .int h0f2, .int h0f3, .int h0f4, .int h0f5, .ref h1, .ref h2, .int h0f8, .int o2, .ref h3, .ref h4, .ref h5, .ref h6, .ref h7, .ref h8, .ref h9, .int h0f17, .int h0f18, .int h0f19, .ref h10, .ref h11, .ref h12, .ref h13, .int h0f24, .int h0f25, .ref h14, .ref h15, .ref h16, .ref h17, .int o3, .int h0f31, .ref h18, .ref h19, .ref h20, .ref h21])] H
set_option maxHeartbeats 4000000 in
set_option maxRecDepth 100000 in
theorem cX11_size_9083e (l : Launch) (D : va_G) (k : Nat → ClassId) (sz : Nat) (h0 h1 h2 h3 h4 h5 h6 h7 h8 h9 h10 h11 h12 h13 h14 h15 h16 h17 h18 h19 h20 h21 : Nat) (x1 : Int32) (h0f0 : Int32) (h0f1 : Int32) (h0f2 : Int32) (h0f3 : Int32) (h0f4 : Int32) (h0f5 : Int32) (h0f8 : Int32) (h0f9 : Int32) (h0f17 : Int32) (h0f18 : Int32) (h0f19 : Int32) (h0f24 : Int32) (h0f25 : Int32) (h0f30 : Int32) (h0f31 : Int32) (b_h0f0 : 1 ≤ h0f0.toInt ∧ h0f0.toInt ≤ 3) (b_h0f1 : 0 ≤ h0f1.toInt ∧ h0f1.toInt ≤ 4) (b_h0f3 : 0 ≤ h0f3.toInt ∧ h0f3.toInt ≤ 3) (b_h0f4 : 0 ≤ h0f4.toInt ∧ h0f4.toInt ≤ 4) (b_h0f8 : 0 ≤ h0f8.toInt ∧ h0f8.toInt ≤ 1) (b_h0f9 : 0 ≤ h0f9.toInt ∧ h0f9.toInt ≤ 1) (b_h0f17 : 0 ≤ h0f17.toInt ∧ h0f17.toInt ≤ 120) (b_h0f18 : 0 ≤ h0f18.toInt ∧ h0f18.toInt ≤ 120) (b_h0f19 : 0 ≤ h0f19.toInt ∧ h0f19.toInt ≤ 4) (b_h0f24 : 0 ≤ h0f24.toInt ∧ h0f24.toInt ≤ 100) (b_h0f25 : 0 ≤ h0f25.toInt ∧ h0f25.toInt ≤ 1) (b_h0f30 : 0 ≤ h0f30.toInt ∧ h0f30.toInt ≤ 60) (b_h0f31 : 0 ≤ h0f31.toInt ∧ h0f31.toInt ≤ 1) (i_0 : h0f8.toInt ≤ h0f3.toInt) (i_1 : h0f9.toInt ≤ h0f24.toInt) : Met l yX11_size (Cond.code yX11_size cX11_size 3 (some .int) :: uw) Rm_cX11_size_9083e (pT D k sz [.ref h0, .int x1] [(h0, ob 8 [.int h0f0, .int h0f1, .int h0f2, .int h0f3, .int h0f4, .int h0f5, .ref h1, .ref h2, .int h0f8, .int h0f9, .ref h3, .ref h4, .ref h5, .ref h6, .ref h7, .ref h8, .ref h9, .int h0f17, .int h0f18, .int h0f19, .ref h10, .ref h11, .ref h12, .ref h13, .int h0f24, .int h0f25, .ref h14, .ref h15, .ref h16, .ref h17, .int h0f30, .int h0f31, .ref h18, .ref h19, .ref h20, .ref h21])]) (qI (B_cX11_size_9083e D k h0 h1 h2 h3 h4 h5 h6 h7 h8 h9 h10 h11 h12 h13 h14 h15 h16 h17 h18 h19 h20 h21 x1 h0f0 h0f1 h0f2 h0f3 h0f4 h0f5 h0f8 h0f9 h0f17 h0f18 h0f19 h0f24 h0f25 h0f30 h0f31 (zA [h0] sz)) (zA [h0] sz)) 0 0 (zA [h0] sz) := by
  refine tz_begin (as := [h0]) (Qc := fun A => qI (B_cX11_size_9083e D k h0 h1 h2 h3 h4 h5 h6 h7 h8 h9 h10 h11 h12 h13 h14 h15 h16 h17 h18 h19 h20 h21 x1 h0f0 h0f1 h0f2 h0f3 h0f4 h0f5 h0f8 h0f9 h0f17 h0f18 h0f19 h0f24 h0f25 h0f30 h0f31 A) A) (by decide +kernel) rfl (Nat.le_of_ble_eq_true rfl) ?_
  intro p e s m args below meth c ls A Q hx hb hr hml hown hlocks hin hU hK hT hS hA hl hQ
  have hl : lv_has ls 3 [(0, .ref h0), (1, .int x1)] := hl
  have hT : TP D A [(h0, ob 8 [.int h0f0, .int h0f1, .int h0f2, .int h0f3, .int h0f4, .int h0f5, .ref h1, .ref h2, .int h0f8, .int h0f9, .ref h3, .ref h4, .ref h5, .ref h6, .ref h7, .ref h8, .ref h9, .int h0f17, .int h0f18, .int h0f19, .ref h10, .ref h11, .ref h12, .ref h13, .int h0f24, .int h0f25, .ref h14, .ref h15, .ref h16, .ref h17, .int h0f30, .int h0f31, .ref h18, .ref h19, .ref h20, .ref h21])] s.heap := hT
  refine lv_iload_n hx hb dX11_size_0 rfl (lv_at hl 1 rfl) ?_
  have tb_x1 := i32b x1
  obtain ⟨v1, e_v1⟩ : ∃ x : Int64, x1.toInt64 = x := ⟨_, rfl⟩
  refine lv_i2l (v := v1) hx hb dX11_size_1 e_v1 ?_
  have e_v1 := ai_i2l e_v1 rfl
  refine lv_lconst (v := 1) hx hb dX11_size_2 (by decide) ?_
  refine lv_ldc2 hx hb hown (hU _ w898) dX11_size_3 ?_
  have q_q3 := ll_1
  have q_q4 := ll_3
  refine tcI (Tc := []) (Tr := [(h0, ob 8 [.int h0f0, .int h0f1, .int h0f2, .int h0f3, .int h0f4, .int h0f5, .ref h1, .ref h2, .int h0f8, .int h0f9, .ref h3, .ref h4, .ref h5, .ref h6, .ref h7, .ref h8, .ref h9, .int h0f17, .int h0f18, .int h0f19, .ref h10, .ref h11, .ref h12, .ref h13, .int h0f24, .int h0f25, .ref h14, .ref h15, .ref h16, .ref h17, .int h0f30, .int h0f31, .ref h18, .ref h19, .ref h20, .ref h21])]) (as := []) (zcS (As := [.long v1, .long 1, .long 3]) (rest := []) (Tc := []) hx hb hml hown hU hK hT [] rfl (by decide) (cX11_in_ca3b9 l D k _ v1 (1) (3) (by have := ll_1; omega) (by have := ll_3; omega)) w901 w899 w900 w72 hdX11_in ⟨rfl, rfl⟩ ⟨Nat.le_of_ble_eq_true rfl, Nat.le_of_ble_eq_true rfl⟩ rfl hl.1 (Nat.le_of_ble_eq_true rfl) dX11_size_6 ⟨Nat.le_of_ble_eq_true rfl, Nat.le_of_ble_eq_true rfl⟩) hT hS hA [] [0] rfl rfl rfl (by decide) (by decide) (fun r2 H locs hB J hS => ?_)
  rcases hB with ⟨rfl, hT1⟩ | ⟨c_5, c_6, rfl, hT1⟩
  · skip
    have hT := J _ hT1
    have hT : TP D A [(h0, ob 8 [.int h0f0, .int h0f1, .int h0f2, .int h0f3, .int h0f4, .int h0f5, .ref h1, .ref h2, .int h0f8, .int h0f9, .ref h3, .ref h4, .ref h5, .ref h6, .ref h7, .ref h8, .ref h9, .int h0f17, .int h0f18, .int h0f19, .ref h10, .ref h11, .ref h12, .ref h13, .int h0f24, .int h0f25, .ref h14, .ref h15, .ref h16, .ref h17, .int h0f30, .int h0f31, .ref h18, .ref h19, .ref h20, .ref h21])] _ := hT
    refine lv_if_ne (tgt := 14) hx hb dX11_size_9 (by decide) (fun cc => absurd (by decide +kernel) cc) (fun _ => ?_)
    refine lv_iconst (v := (-1)) hx hb dX11_size_12 (by decide) ?_
    exact tz_retI (B := B_cX11_size_9083e D k h0 h1 h2 h3 h4 h5 h6 h7 h8 h9 h10 h11 h12 h13 h14 h15 h16 h17 h18 h19 h20 h21 x1 h0f0 h0f1 h0f2 h0f3 h0f4 h0f5 h0f8 h0f9 h0f17 h0f18 h0f19 h0f24 h0f25 h0f30 h0f31) (v := (-1)) hQ hx hb hr hlocks hS (Nat.le_of_ble_eq_true rfl) (Nat.le_of_ble_eq_true rfl) dX11_size_13 (⟨h0f0, h0f1, h0f9, h0f30, (by have := li_m1; omega), (by have := li_m1; omega), (by have := li_m1; omega), (by have := li_m1; omega), (by have := li_m1; omega), (by have := li_m1; omega), (by have := li_m1; omega), hT⟩)
  · skip
    have hT := J _ hT1
    have hT : TP D A [(h0, ob 8 [.int h0f0, .int h0f1, .int h0f2, .int h0f3, .int h0f4, .int h0f5, .ref h1, .ref h2, .int h0f8, .int h0f9, .ref h3, .ref h4, .ref h5, .ref h6, .ref h7, .ref h8, .ref h9, .int h0f17, .int h0f18, .int h0f19, .ref h10, .ref h11, .ref h12, .ref h13, .int h0f24, .int h0f25, .ref h14, .ref h15, .ref h16, .ref h17, .int h0f30, .int h0f31, .ref h18, .ref h19, .ref h20, .ref h21])] _ := hT
    refine lv_if_ne (tgt := 14) hx hb dX11_size_9 (by decide) (fun _ => ?_) (fun cc => absurd cc (by decide +kernel))
    refine lv_aload_n hx hb dX11_size_14 rfl (lv_at hl 0 rfl) ?_
    refine tz_get (ci := 8) (v := .int h0f0) (C := RX11) (F := TX11) (N := 36) hx hb hU iX11 hown hK hT 0 rfl rfl 0 (by decide) w785 (fun _ h9 => h9) rfl dX11_size_15 ?_
    refine lv_istore_n (lv' := [(2, .int h0f0), (0, .ref h0), (1, .int x1)]) hx hb dX11_size_18 rfl hl (by decide) rfl (fun ls hl => ?_)
    refine lv_iload_n hx hb dX11_size_19 rfl (lv_at hl 2 rfl) ?_
    refine lv_iload_n hx hb dX11_size_20 rfl (lv_at hl 0 rfl) ?_
    refine lv_icmp_eq (tgt := 44) hx hb dX11_size_21 (by decide) (fun c_7 => ?_) (fun c_7 => ?_)
    · skip
      have c_7 := ni_eq c_7 rfl rfl
      refine lv_iload_n hx hb dX11_size_44 rfl (lv_at hl 0 rfl) ?_
      exact tz_retI (B := B_cX11_size_9083e D k h0 h1 h2 h3 h4 h5 h6 h7 h8 h9 h10 h11 h12 h13 h14 h15 h16 h17 h18 h19 h20 h21 x1 h0f0 h0f1 h0f2 h0f3 h0f4 h0f5 h0f8 h0f9 h0f17 h0f18 h0f19 h0f24 h0f25 h0f30 h0f31) (v := h0f0) hQ hx hb hr hlocks hS (Nat.le_of_ble_eq_true rfl) (Nat.le_of_ble_eq_true rfl) dX11_size_45 (⟨h0f0, h0f1, h0f9, h0f30, (by omega), (by omega), (by omega), (by omega), (by omega), (by omega), (by omega), hT⟩)
    · skip
      have c_7 := ni_ne c_7 rfl rfl
      refine lv_aload_n hx hb dX11_size_24 rfl (lv_at hl 1 rfl) ?_
      refine lv_iload_n hx hb dX11_size_25 rfl (lv_at hl 2 rfl) ?_
      refine tz_put (ci := 8) (v := .int x1) (ty := .int) (C := RX11) (F := TX11) (N := 36) hx hb hU iX11 tyX11 tyX11_ok nmX11 hown hK hT hS 0 rfl rfl 0 (by decide) w785 (fun _ h9 => h9) rfl (by decide +kernel) rfl rfl (Nat.le_of_ble_eq_true rfl) dX11_size_26 (fun H locs hT hS => ?_)
      have hT : TP D A [(h0, ob 8 [.int x1, .int h0f1, .int h0f2, .int h0f3, .int h0f4, .int h0f5, .ref h1, .ref h2, .int h0f8, .int h0f9, .ref h3, .ref h4, .ref h5, .ref h6, .ref h7, .ref h8, .ref h9, .int h0f17, .int h0f18, .int h0f19, .ref h10, .ref h11, .ref h12, .ref h13, .int h0f24, .int h0f25, .ref h14, .ref h15, .ref h16, .ref h17, .int h0f30, .int h0f31, .ref h18, .ref h19, .ref h20, .ref h21])] _ := hT
      refine lv_aload_n hx hb dX11_size_29 rfl (lv_at hl 1 rfl) ?_
      refine lv_iconst (v := 0) hx hb dX11_size_30 (by decide) ?_
      refine tz_put (ci := 8) (v := .int 0) (ty := .int) (C := RX11) (F := TX11) (N := 36) hx hb hU iX11 tyX11 tyX11_ok nmX11 hown hK hT hS 0 rfl rfl 1 (by decide) w786 (fun _ h9 => h9) rfl (by decide +kernel) rfl rfl (Nat.le_of_ble_eq_true rfl) dX11_size_31 (fun H locs hT hS => ?_)
      have hT : TP D A [(h0, ob 8 [.int x1, .int 0, .int h0f2, .int h0f3, .int h0f4, .int h0f5, .ref h1, .ref h2, .int h0f8, .int h0f9, .ref h3, .ref h4, .ref h5, .ref h6, .ref h7, .ref h8, .ref h9, .int h0f17, .int h0f18, .int h0f19, .ref h10, .ref h11, .ref h12, .ref h13, .int h0f24, .int h0f25, .ref h14, .ref h15, .ref h16, .ref h17, .int h0f30, .int h0f31, .ref h18, .ref h19, .ref h20, .ref h21])] _ := hT
      refine lv_aload_n hx hb dX11_size_34 rfl (lv_at hl 1 rfl) ?_
      refine lv_iconst (v := 0) hx hb dX11_size_35 (by decide) ?_
      refine tz_put (ci := 8) (v := .int 0) (ty := .boolean) (C := RX11) (F := TX11) (N := 36) hx hb hU iX11 tyX11 tyX11_ok nmX11 hown hK hT hS 0 rfl rfl 9 (by decide) w794 (fun _ h9 => h9) rfl (by decide +kernel) rfl rfl (Nat.le_of_ble_eq_true rfl) dX11_size_36 (fun H locs hT hS => ?_)
      have hT : TP D A [(h0, ob 8 [.int x1, .int 0, .int h0f2, .int h0f3, .int h0f4, .int h0f5, .ref h1, .ref h2, .int h0f8, .int 0, .ref h3, .ref h4, .ref h5, .ref h6, .ref h7, .ref h8, .ref h9, .int h0f17, .int h0f18, .int h0f19, .ref h10, .ref h11, .ref h12, .ref h13, .int h0f24, .int h0f25, .ref h14, .ref h15, .ref h16, .ref h17, .int h0f30, .int h0f31, .ref h18, .ref h19, .ref h20, .ref h21])] _ := hT
      refine lv_aload_n hx hb dX11_size_39 rfl (lv_at hl 1 rfl) ?_
      refine lv_iconst (v := 0) hx hb dX11_size_40 (by decide) ?_
      refine tz_put (ci := 8) (v := .int 0) (ty := .int) (C := RX11) (F := TX11) (N := 36) hx hb hU iX11 tyX11 tyX11_ok nmX11 hown hK hT hS 0 rfl rfl 30 (by decide) w815 (fun _ h9 => h9) rfl (by decide +kernel) rfl rfl (Nat.le_of_ble_eq_true rfl) dX11_size_41 (fun H locs hT hS => ?_)
      have hT : TP D A [(h0, ob 8 [.int x1, .int 0, .int h0f2, .int h0f3, .int h0f4, .int h0f5, .ref h1, .ref h2, .int h0f8, .int 0, .ref h3, .ref h4, .ref h5, .ref h6, .ref h7, .ref h8, .ref h9, .int h0f17, .int h0f18, .int h0f19, .ref h10, .ref h11, .ref h12, .ref h13, .int h0f24, .int h0f25, .ref h14, .ref h15, .ref h16, .ref h17, .int 0, .int h0f31, .ref h18, .ref h19, .ref h20, .ref h21])] _ := hT
      refine lv_iload_n hx hb dX11_size_44 rfl (lv_at hl 0 rfl) ?_
      exact tz_retI (B := B_cX11_size_9083e D k h0 h1 h2 h3 h4 h5 h6 h7 h8 h9 h10 h11 h12 h13 h14 h15 h16 h17 h18 h19 h20 h21 x1 h0f0 h0f1 h0f2 h0f3 h0f4 h0f5 h0f8 h0f9 h0f17 h0f18 h0f19 h0f24 h0f25 h0f30 h0f31) (v := h0f0) hQ hx hb hr hlocks hS (Nat.le_of_ble_eq_true rfl) (Nat.le_of_ble_eq_true rfl) dX11_size_45 (⟨x1, 0, 0, 0, (by have := li_0; omega), (by have := li_0; omega), (by have := li_0; omega), (by have := li_0; omega), (by have := li_0; omega), (by have := li_0; omega), (by have := li_0; omega), hT⟩)
abbrev Rm_cX5_isPlace_ce953 : Room := { frames := 0, cells := 0, slots := 0, locals := 0 }
abbrev B_cX5_isPlace_ce953 (D : va_G) (k : Nat → ClassId) (h0 h1 : Nat) (x1 : Int32) (x2 : Int32) (h0f0 : Int32) (h0f1 : Int32) (h0f2 : Int32) (A : Nat → Prop) (r : Int32) (H : Heap) : Prop := (0 = r ∧ TP D A [(h0, ob 4 [.int h0f0, .int h0f1, .int h0f2, .ref h1])] H) ∨ (0 ≤ x1.toInt ∧ x1.toInt < h0f0.toInt ∧ 0 ≤ x2.toInt ∧ x2.toInt < h0f0.toInt ∧ 1 = r ∧ TP D A [(h0, ob 4 [.int h0f0, .int h0f1, .int h0f2, .ref h1])] H)
set_option maxHeartbeats 4000000 in
set_option maxRecDepth 100000 in
theorem cX5_isPlace_ce953 (l : Launch) (D : va_G) (k : Nat → ClassId) (sz : Nat) (h0 h1 : Nat) (x1 : Int32) (x2 : Int32) (h0f0 : Int32) (h0f1 : Int32) (h0f2 : Int32) (b_h0f0 : 1 ≤ h0f0.toInt ∧ h0f0.toInt ≤ 3) (b_h0f1 : 0 ≤ h0f1.toInt ∧ h0f1.toInt ≤ 4) : Met l yX5_isPlace (Cond.code yX5_isPlace cX5_isPlace 3 (some .boolean) :: uw) Rm_cX5_isPlace_ce953 (pT D k sz [.ref h0, .int x1, .int x2] [(h0, ob 4 [.int h0f0, .int h0f1, .int h0f2, .ref h1])]) (qI (B_cX5_isPlace_ce953 D k h0 h1 x1 x2 h0f0 h0f1 h0f2 (zA [h0] sz)) (zA [h0] sz)) 0 0 (zA [h0] sz) := by
  refine tz_begin (as := [h0]) (Qc := fun A => qI (B_cX5_isPlace_ce953 D k h0 h1 x1 x2 h0f0 h0f1 h0f2 A) A) (by decide +kernel) rfl (Nat.le_of_ble_eq_true rfl) ?_
  intro p e s m args below meth c ls A Q hx hb hr hml hown hlocks hin hU hK hT hS hA hl hQ
  have hl : lv_has ls 3 [(0, .ref h0), (1, .int x1), (2, .int x2)] := hl
  have hT : TP D A [(h0, ob 4 [.int h0f0, .int h0f1, .int h0f2, .ref h1])] s.heap := hT
  refine lv_iload_n hx hb dX5_isPlace_0 rfl (lv_at hl 1 rfl) ?_
  refine lv_if_lt (tgt := 28) hx hb dX5_isPlace_1 (by decide) (fun c_1 => ?_) (fun c_1 => ?_)
  · skip
    have c_1 := ni_lt c_1 rfl li_0
    refine lv_iconst (v := 0) hx hb dX5_isPlace_28 (by decide) ?_
    exact tz_retZ (B := B_cX5_isPlace_ce953 D k h0 h1 x1 x2 h0f0 h0f1 h0f2) (v := 0) hQ hx hb hr hlocks hS (Nat.le_of_ble_eq_true rfl) (Nat.le_of_ble_eq_true rfl) dX5_isPlace_29 (by have := li_0; omega) (Or.inl ⟨rfl, hT⟩)
  · skip
    have c_1 := ni_nlt c_1 rfl li_0
    refine lv_iload_n hx hb dX5_isPlace_4 rfl (lv_at hl 1 rfl) ?_
    refine lv_aload_n hx hb dX5_isPlace_5 rfl (lv_at hl 0 rfl) ?_
    refine tz_get (ci := 4) (v := .int h0f0) (C := RX5) (F := TX5) (N := 4) hx hb hU iX5 hown hK hT 0 rfl rfl 0 (by decide) w92 (fun _ h9 => h9) rfl dX5_isPlace_6 ?_
    refine lv_icmp_ge (tgt := 28) hx hb dX5_isPlace_9 (by decide) (fun c_2 => ?_) (fun c_2 => ?_)
    · skip
      have c_2 := ni_le c_2 rfl rfl
      refine lv_iconst (v := 0) hx hb dX5_isPlace_28 (by decide) ?_
      exact tz_retZ (B := B_cX5_isPlace_ce953 D k h0 h1 x1 x2 h0f0 h0f1 h0f2) (v := 0) hQ hx hb hr hlocks hS (Nat.le_of_ble_eq_true rfl) (Nat.le_of_ble_eq_true rfl) dX5_isPlace_29 (by have := li_0; omega) (Or.inl ⟨rfl, hT⟩)
    · skip
      have c_2 := ni_nle c_2 rfl rfl
      refine lv_iload_n hx hb dX5_isPlace_12 rfl (lv_at hl 2 rfl) ?_
      refine lv_if_lt (tgt := 28) hx hb dX5_isPlace_13 (by decide) (fun c_3 => ?_) (fun c_3 => ?_)
      · skip
        have c_3 := ni_lt c_3 rfl li_0
        refine lv_iconst (v := 0) hx hb dX5_isPlace_28 (by decide) ?_
        exact tz_retZ (B := B_cX5_isPlace_ce953 D k h0 h1 x1 x2 h0f0 h0f1 h0f2) (v := 0) hQ hx hb hr hlocks hS (Nat.le_of_ble_eq_true rfl) (Nat.le_of_ble_eq_true rfl) dX5_isPlace_29 (by have := li_0; omega) (Or.inl ⟨rfl, hT⟩)
      · skip
        have c_3 := ni_nlt c_3 rfl li_0
        refine lv_iload_n hx hb dX5_isPlace_16 rfl (lv_at hl 2 rfl) ?_
        refine lv_aload_n hx hb dX5_isPlace_17 rfl (lv_at hl 0 rfl) ?_
        refine tz_get (ci := 4) (v := .int h0f0) (C := RX5) (F := TX5) (N := 4) hx hb hU iX5 hown hK hT 0 rfl rfl 0 (by decide) w92 (fun _ h9 => h9) rfl dX5_isPlace_18 ?_
        refine lv_icmp_ge (tgt := 28) hx hb dX5_isPlace_21 (by decide) (fun c_4 => ?_) (fun c_4 => ?_)
        · skip
          have c_4 := ni_le c_4 rfl rfl
          refine lv_iconst (v := 0) hx hb dX5_isPlace_28 (by decide) ?_
          exact tz_retZ (B := B_cX5_isPlace_ce953 D k h0 h1 x1 x2 h0f0 h0f1 h0f2) (v := 0) hQ hx hb hr hlocks hS (Nat.le_of_ble_eq_true rfl) (Nat.le_of_ble_eq_true rfl) dX5_isPlace_29 (by have := li_0; omega) (Or.inl ⟨rfl, hT⟩)
        · skip
          have c_4 := ni_nle c_4 rfl rfl
          refine lv_iconst (v := 1) hx hb dX5_isPlace_24 (by decide) ?_
          refine lv_goto (tgt := 29) hx hb dX5_isPlace_25 (by decide) ?_
          exact tz_retZ (B := B_cX5_isPlace_ce953 D k h0 h1 x1 x2 h0f0 h0f1 h0f2) (v := 1) hQ hx hb hr hlocks hS (Nat.le_of_ble_eq_true rfl) (Nat.le_of_ble_eq_true rfl) dX5_isPlace_29 (by have := li_1; omega) (Or.inr (⟨(by have := li_1; omega), (by have := li_1; omega), (by have := li_1; omega), (by have := li_1; omega), rfl, hT⟩))
abbrev Rm_cX10_fitsUnit_ac2a1 : Room := { frames := 0, cells := 0, slots := 0, locals := 0 }
abbrev B_cX10_fitsUnit_ac2a1 (D : va_G) (k : Nat → ClassId) (x0 : Int32) (x1 : Int32) (A : Nat → Prop) (r : Int32) (H : Heap) : Prop := (0 ≤ r.toInt ∧ r.toInt ≤ 1) ∧ TP D A [] H
set_option maxHeartbeats 4000000 in
set_option maxRecDepth 100000 in
theorem cX10_fitsUnit_ac2a1 (l : Launch) (D : va_G) (k : Nat → ClassId) (sz : Nat) (x0 : Int32) (x1 : Int32) (b_x0 : 0 ≤ x0.toInt ∧ x0.toInt ≤ 1) : Met l yX10_fitsUnit (Cond.code yX10_fitsUnit cX10_fitsUnit 2 (some .boolean) :: uw) Rm_cX10_fitsUnit_ac2a1 (pT D k sz [.int x0, .int x1] []) (qI (B_cX10_fitsUnit_ac2a1 D k x0 x1 (zA [] sz)) (zA [] sz)) 0 0 (zA [] sz) := by
  refine tz_begin (as := []) (Qc := fun A => qI (B_cX10_fitsUnit_ac2a1 D k x0 x1 A) A) (by decide +kernel) rfl (Nat.le_of_ble_eq_true rfl) ?_
  intro p e s m args below meth c ls A Q hx hb hr hml hown hlocks hin hU hK hT hS hA hl hQ
  have hl : lv_has ls 2 [(0, .int x0), (1, .int x1)] := hl
  have hT : TP D A [] s.heap := hT
  refine lv_iload_n hx hb dX10_fitsUnit_0 rfl (lv_at hl 0 rfl) ?_
  refine lv_if_eq (tgt := 20) hx hb dX10_fitsUnit_1 (by decide) (fun c_1 => ?_) (fun c_1 => ?_)
  · skip
    have c_1 := ni_eq c_1 rfl li_0
    refine lv_iload_n hx hb dX10_fitsUnit_20 rfl (lv_at hl 1 rfl) ?_
    refine lv_bipush (v := (-99)) hx hb dX10_fitsUnit_21 (by decide) ?_
    refine lv_icmp_lt (tgt := 36) hx hb dX10_fitsUnit_23 (by decide) (fun c_2 => ?_) (fun c_2 => ?_)
    · skip
      have c_2 := ni_lt c_2 rfl li_m99
      refine lv_iconst (v := 0) hx hb dX10_fitsUnit_36 (by decide) ?_
      exact tz_retZ (B := B_cX10_fitsUnit_ac2a1 D k x0 x1) (v := 0) hQ hx hb hr hlocks hS (Nat.le_of_ble_eq_true rfl) (Nat.le_of_ble_eq_true rfl) dX10_fitsUnit_37 (by have := li_0; omega) (⟨(by have := li_0; omega), hT⟩)
    · skip
      have c_2 := ni_nlt c_2 rfl li_m99
      refine lv_iload_n hx hb dX10_fitsUnit_26 rfl (lv_at hl 1 rfl) ?_
      refine lv_bipush (v := 99) hx hb dX10_fitsUnit_27 (by decide) ?_
      refine lv_icmp_gt (tgt := 36) hx hb dX10_fitsUnit_29 (by decide) (fun c_3 => ?_) (fun c_3 => ?_)
      · skip
        have c_3 := ni_lt c_3 li_99 rfl
        refine lv_iconst (v := 0) hx hb dX10_fitsUnit_36 (by decide) ?_
        exact tz_retZ (B := B_cX10_fitsUnit_ac2a1 D k x0 x1) (v := 0) hQ hx hb hr hlocks hS (Nat.le_of_ble_eq_true rfl) (Nat.le_of_ble_eq_true rfl) dX10_fitsUnit_37 (by have := li_0; omega) (⟨(by have := li_0; omega), hT⟩)
      · skip
        have c_3 := ni_nlt c_3 li_99 rfl
        refine lv_iconst (v := 1) hx hb dX10_fitsUnit_32 (by decide) ?_
        refine lv_goto (tgt := 37) hx hb dX10_fitsUnit_33 (by decide) ?_
        exact tz_retZ (B := B_cX10_fitsUnit_ac2a1 D k x0 x1) (v := 1) hQ hx hb hr hlocks hS (Nat.le_of_ble_eq_true rfl) (Nat.le_of_ble_eq_true rfl) dX10_fitsUnit_37 (by have := li_1; omega) (⟨(by have := li_1; omega), hT⟩)
  · skip
    have c_1 := ni_ne c_1 rfl li_0
    refine lv_iload_n hx hb dX10_fitsUnit_4 rfl (lv_at hl 1 rfl) ?_
    refine lv_iconst (v := 1) hx hb dX10_fitsUnit_5 (by decide) ?_
    refine lv_icmp_eq (tgt := 14) hx hb dX10_fitsUnit_6 (by decide) (fun c_4 => ?_) (fun c_4 => ?_)
    · skip
      have c_4 := ni_eq c_4 rfl li_1
      refine lv_iconst (v := 1) hx hb dX10_fitsUnit_14 (by decide) ?_
      refine lv_goto (tgt := 19) hx hb dX10_fitsUnit_15 (by decide) ?_
      exact tz_retZ (B := B_cX10_fitsUnit_ac2a1 D k x0 x1) (v := 1) hQ hx hb hr hlocks hS (Nat.le_of_ble_eq_true rfl) (Nat.le_of_ble_eq_true rfl) dX10_fitsUnit_19 (by have := li_1; omega) (⟨(by have := li_1; omega), hT⟩)
    · skip
      have c_4 := ni_ne c_4 rfl li_1
      refine lv_iload_n hx hb dX10_fitsUnit_9 rfl (lv_at hl 1 rfl) ?_
      refine lv_iconst (v := (-1)) hx hb dX10_fitsUnit_10 (by decide) ?_
      refine lv_icmp_ne (tgt := 18) hx hb dX10_fitsUnit_11 (by decide) (fun c_5 => ?_) (fun c_5 => ?_)
      · skip
        have c_5 := ni_ne c_5 rfl li_m1
        refine lv_iconst (v := 0) hx hb dX10_fitsUnit_18 (by decide) ?_
        exact tz_retZ (B := B_cX10_fitsUnit_ac2a1 D k x0 x1) (v := 0) hQ hx hb hr hlocks hS (Nat.le_of_ble_eq_true rfl) (Nat.le_of_ble_eq_true rfl) dX10_fitsUnit_19 (by have := li_0; omega) (⟨(by have := li_0; omega), hT⟩)
      · skip
        have c_5 := ni_eq c_5 rfl li_m1
        refine lv_iconst (v := 1) hx hb dX10_fitsUnit_14 (by decide) ?_
        refine lv_goto (tgt := 19) hx hb dX10_fitsUnit_15 (by decide) ?_
        exact tz_retZ (B := B_cX10_fitsUnit_ac2a1 D k x0 x1) (v := 1) hQ hx hb hr hlocks hS (Nat.le_of_ble_eq_true rfl) (Nat.le_of_ble_eq_true rfl) dX10_fitsUnit_19 (by have := li_1; omega) (⟨(by have := li_1; omega), hT⟩)
abbrev Rm_cX5_isFull_cc49c : Room := { frames := 0, cells := 0, slots := 0, locals := 0 }
abbrev B_cX5_isFull_cc49c (D : va_G) (k : Nat → ClassId) (h0 h1 : Nat) (h0f0 : Int32) (h0f1 : Int32) (h0f2 : Int32) (A : Nat → Prop) (r : Int32) (H : Heap) : Prop := (h0f1.toInt < 4 ∧ 0 = r ∧ TP D A [(h0, ob 4 [.int h0f0, .int h0f1, .int h0f2, .ref h1])] H) ∨ (1 = r ∧ TP D A [(h0, ob 4 [.int h0f0, .int h0f1, .int h0f2, .ref h1])] H)
set_option maxHeartbeats 4000000 in
set_option maxRecDepth 100000 in
theorem cX5_isFull_cc49c (l : Launch) (D : va_G) (k : Nat → ClassId) (sz : Nat) (h0 h1 : Nat) (h0f0 : Int32) (h0f1 : Int32) (h0f2 : Int32) (b_h0f0 : 1 ≤ h0f0.toInt ∧ h0f0.toInt ≤ 3) (b_h0f1 : 0 ≤ h0f1.toInt ∧ h0f1.toInt ≤ 4) : Met l yX5_isFull (Cond.code yX5_isFull cX5_isFull 1 (some .boolean) :: uw) Rm_cX5_isFull_cc49c (pT D k sz [.ref h0] [(h0, ob 4 [.int h0f0, .int h0f1, .int h0f2, .ref h1])]) (qI (B_cX5_isFull_cc49c D k h0 h1 h0f0 h0f1 h0f2 (zA [h0] sz)) (zA [h0] sz)) 0 0 (zA [h0] sz) := by
  refine tz_begin (as := [h0]) (Qc := fun A => qI (B_cX5_isFull_cc49c D k h0 h1 h0f0 h0f1 h0f2 A) A) (by decide +kernel) rfl (Nat.le_of_ble_eq_true rfl) ?_
  intro p e s m args below meth c ls A Q hx hb hr hml hown hlocks hin hU hK hT hS hA hl hQ
  have hl : lv_has ls 1 [(0, .ref h0)] := hl
  have hT : TP D A [(h0, ob 4 [.int h0f0, .int h0f1, .int h0f2, .ref h1])] s.heap := hT
  refine lv_aload_n hx hb dX5_isFull_0 rfl (lv_at hl 0 rfl) ?_
  refine tz_get (ci := 4) (v := .int h0f1) (C := RX5) (F := TX5) (N := 4) hx hb hU iX5 hown hK hT 0 rfl rfl 1 (by decide) w96 (fun _ h9 => h9) rfl dX5_isFull_1 ?_
  refine lv_iconst (v := 4) hx hb dX5_isFull_4 (by decide) ?_
  refine lv_icmp_lt (tgt := 12) hx hb dX5_isFull_5 (by decide) (fun c_1 => ?_) (fun c_1 => ?_)
  · skip
    have c_1 := ni_lt c_1 rfl li_4
    refine lv_iconst (v := 0) hx hb dX5_isFull_12 (by decide) ?_
    exact tz_retZ (B := B_cX5_isFull_cc49c D k h0 h1 h0f0 h0f1 h0f2) (v := 0) hQ hx hb hr hlocks hS (Nat.le_of_ble_eq_true rfl) (Nat.le_of_ble_eq_true rfl) dX5_isFull_13 (by have := li_0; omega) (Or.inl ⟨(by have := li_0; omega), rfl, hT⟩)
  · skip
    have c_1 := ni_nlt c_1 rfl li_4
    refine lv_iconst (v := 1) hx hb dX5_isFull_8 (by decide) ?_
    refine lv_goto (tgt := 13) hx hb dX5_isFull_9 (by decide) ?_
    exact tz_retZ (B := B_cX5_isFull_cc49c D k h0 h1 h0f0 h0f1 h0f2) (v := 1) hQ hx hb hr hlocks hS (Nat.le_of_ble_eq_true rfl) (Nat.le_of_ble_eq_true rfl) dX5_isFull_13 (by have := li_1; omega) (Or.inr (⟨rfl, hT⟩))
abbrev Rm_cJ7_fill_d0a16_660e4 : Room := { frames := 0, cells := 0, slots := 0, locals := 0 }
abbrev B_cJ7_fill_d0a16_660e4 (D : va_G) (k : Nat → ClassId) (h0 : Nat) (x1 : Int64) (A : Nat → Prop) (H : Heap) : Prop := TP D A [(h0, aJ (k 1) 9 anJ)] H
set_option maxHeartbeats 4000000 in
set_option maxRecDepth 100000 in
theorem cJ7_fill_d0a16_660e4 (l : Launch) (D : va_G) (k : Nat → ClassId) (sz : Nat) (h0 : Nat) (x1 : Int64) (b_x1 : 0 ≤ x1.toInt ∧ x1.toInt ≤ 0) : Met l yJ7_fill_d0a16 (Cond.code yJ7_fill_d0a16 cJ7_fill_d0a16 5 none :: uw) Rm_cJ7_fill_d0a16_660e4 (pT D k sz [.ref h0, .long x1] [(h0, aJ (k 1) 9 anJ)]) (qV (B_cJ7_fill_d0a16_660e4 D k h0 x1 (zA [h0] sz)) (zA [h0] sz)) 0 0 (zA [h0] sz) := by
  refine tz_begin (as := [h0]) (Qc := fun A => qV (B_cJ7_fill_d0a16_660e4 D k h0 x1 A) A) (by decide +kernel) rfl (Nat.le_of_ble_eq_true rfl) ?_
  intro p e s m args below meth c ls A Q hx hb hr hml hown hlocks hin hU hK hT hS hA hl hQ
  have hl : lv_has ls 5 [(0, .ref h0), (1, .long x1)] := hl
  have hT : TP D A [(h0, aJ (k 1) 9 anJ)] s.heap := hT
  refine lv_iconst (v := 0) hx hb dJ7_fill_d0a16_0 (by decide) ?_
  refine lv_istore_n (lv' := [(3, .int 0), (0, .ref h0), (1, .long x1)]) hx hb dJ7_fill_d0a16_1 rfl hl (by decide) rfl (fun ls hl => ?_)
  refine lv_aload_n hx hb dJ7_fill_d0a16_2 rfl (lv_at hl 1 rfl) ?_
  refine tz_alenl (v := 9) hx hb hK hT 0 rfl (by decide +kernel) dJ7_fill_d0a16_3 ?_
  refine lv_istore (lv' := [(4, .int 9), (3, .int 0), (0, .ref h0), (1, .long x1)]) hx hb dJ7_fill_d0a16_4 hl (by decide) rfl (fun ls hl => ?_)
  have lp6_8 : ∀ (n : Nat) (y7 : Int32) (H : Heap) (locs : List Loc) (ls : Array Slot), (0 ≤ y7.toInt ∧ y7.toInt ≤ 9) → ((-1) * y7.toInt + 9 + 1).toNat < n → TP D A [(h0, aJ (k 1) 9 anJ)] H → va_S A s.heap H locs → lv_has ls 5 [(0, .ref h0), (1, .long x1), (3, .int y7), (4, .int 9)] → W p l e Rm_cJ7_fill_d0a16_660e4 s m args below meth c H locs 0 0 Q (F0 m 6 ls []) := by
    intro n
    induction n with
    | zero => intro y7 H locs ls b_y7 hm hT hS hl; exact absurd hm (Nat.not_lt_zero _)
    | succ n ih =>
      intro y7 H locs ls b_y7 hm hT hS hl
      have ih6_8 := ih
      clear ih
      refine lv_iload_n hx hb dJ7_fill_d0a16_6 rfl (lv_at hl 2 rfl) ?_
      refine lv_iload hx hb dJ7_fill_d0a16_7 (lv_at hl 3 rfl) ?_
      refine lv_icmp_ge (tgt := 22) hx hb dJ7_fill_d0a16_9 (by decide) (fun c_9 => ?_) (fun c_9 => ?_)
      · skip
        have c_9 := ni_le c_9 li_9 rfl
        exact tz_retV (B := B_cJ7_fill_d0a16_660e4 D k h0 x1) hQ hx hb hr hlocks hS (Nat.le_of_ble_eq_true rfl) (Nat.le_of_ble_eq_true rfl) dJ7_fill_d0a16_22 (hT)
      · skip
        have c_9 := ni_nle c_9 li_9 rfl
        refine lv_aload_n hx hb dJ7_fill_d0a16_12 rfl (lv_at hl 0 rfl) ?_
        refine lv_iload_n hx hb dJ7_fill_d0a16_13 rfl (lv_at hl 2 rfl) ?_
        refine lv_lload_n hx hb dJ7_fill_d0a16_14 rfl (lv_at hl 1 rfl) ?_
        refine tz_last hx hb hK hT hS 0 rfl (by omega) (fun _ _ => trivial) dJ7_fill_d0a16_15 (fun H locs hT hS => ?_)
        obtain ⟨v10, e_v10⟩ : ∃ x : Int32, x = y7 + Int32.ofInt 1 := ⟨_, rfl⟩
        have f_v10 := e_v10.symm
        have e_v10 : v10.toInt = y7.toInt + 1 := ai_add e_v10 rfl (show (Int32.ofInt 1).toInt = 1 from (by decide +kernel)) (by omega)
        refine lv_iinc (v := v10) (lv' := [(3, .int v10), (0, .ref h0), (1, .long x1), (4, .int 9)]) hx hb dJ7_fill_d0a16_16 hl (k := 2) rfl f_v10 (by decide) rfl (fun ls hl => ?_)
        refine lv_goto (tgt := 6) hx hb dJ7_fill_d0a16_19 (by decide) ?_
        exact ih6_8 v10 _ _ _ (by omega)  (by omega) hT hS (lv_sub hl [1, 2, 0, 3] rfl)
  exact lp6_8 (((-1) * (0 : Int32).toInt + 9 + 1).toNat + 1) (0) _ _ _ (by have := li_0; omega)  (Nat.lt_succ_self _) hT hS (lv_sub hl [2, 3, 1, 0] rfl)
abbrev Rm_cX7_becomeOne_9e486 : Room := { frames := 1, cells := 0, slots := 0, locals := 24 }
abbrev B_cX7_becomeOne_9e486 (D : va_G) (k : Nat → ClassId) (h0 : Nat) (x1 : Int32) (A : Nat → Prop) (H : Heap) : Prop := TP D A [(h0, aJ (k 1) 9 anJ)] H
set_option maxHeartbeats 4000000 in
set_option maxRecDepth 100000 in
theorem cX7_becomeOne_9e486 (l : Launch) (D : va_G) (k : Nat → ClassId) (sz : Nat) (h0 : Nat) (x1 : Int32) (b_x1 : 1 ≤ x1.toInt ∧ x1.toInt ≤ 3) : Met l yX7_becomeOne (Cond.code yX7_becomeOne cX7_becomeOne 3 none :: uw) Rm_cX7_becomeOne_9e486 (pT D k sz [.ref h0, .int x1] [(h0, aJ (k 1) 9 anJ)]) (qV (B_cX7_becomeOne_9e486 D k h0 x1 (zA [h0] sz)) (zA [h0] sz)) 0 0 (zA [h0] sz) := by
  refine tz_begin (as := [h0]) (Qc := fun A => qV (B_cX7_becomeOne_9e486 D k h0 x1 A) A) (by decide +kernel) rfl (Nat.le_of_ble_eq_true rfl) ?_
  intro p e s m args below meth c ls A Q hx hb hr hml hown hlocks hin hU hK hT hS hA hl hQ
  have hl : lv_has ls 3 [(0, .ref h0), (1, .int x1)] := hl
  have hT : TP D A [(h0, aJ (k 1) 9 anJ)] s.heap := hT
  refine lv_aload_n hx hb dX7_becomeOne_0 rfl (lv_at hl 0 rfl) ?_
  refine lv_lconst (v := 0) hx hb dX7_becomeOne_1 (by decide) ?_
  have q_q2 := ll_0
  refine tcV (Tc := [(h0, aJ (k 1) 9 anJ)]) (Tr := []) (as := [h0]) (zcS (As := [.ref h0, .long 0]) (rest := []) (Tc := [(h0, aJ (k 1) 9 anJ)]) hx hb hml hown hU hK hT [0] rfl (by decide) (cJ7_fill_d0a16_660e4 l D k _ h0 (0) (by have := ll_0; omega)) w336 w334 w335 w73 hdJ7_fill_d0a16 ⟨rfl, rfl⟩ ⟨Nat.le_of_ble_eq_true rfl, Nat.le_of_ble_eq_true rfl⟩ rfl hl.1 (Nat.le_of_ble_eq_true rfl) dX7_becomeOne_2 ⟨Nat.le_of_ble_eq_true rfl, Nat.le_of_ble_eq_true rfl⟩) hT hS hA [0] [] rfl rfl rfl (by decide) (by decide) (fun H locs hB J hS => ?_)
  have hT1 := hB
  have hT := J _ hT1
  have hT : TP D A [(h0, aJ (k 1) 9 anJ)] _ := hT
  refine lv_iconst (v := 0) hx hb dX7_becomeOne_5 (by decide) ?_
  refine lv_istore_n (lv' := [(2, .int 0), (0, .ref h0), (1, .int x1)]) hx hb dX7_becomeOne_6 rfl hl (by decide) rfl (fun ls hl => ?_)
  have lp7_6 : ∀ (n : Nat) (y5 : Int32) (H : Heap) (locs : List Loc) (ls : Array Slot), (0 ≤ y5.toInt ∧ y5.toInt ≤ 3) → (x1.toInt + (-1) * y5.toInt + 1).toNat < n → TP D A [(h0, aJ (k 1) 9 anJ)] H → va_S A s.heap H locs → lv_has ls 3 [(0, .ref h0), (1, .int x1), (2, .int y5)] → W p l e Rm_cX7_becomeOne_9e486 s m args below meth c H locs 0 0 Q (F0 m 7 ls []) := by
    intro n
    induction n with
    | zero => intro y5 H locs ls b_y5 hm hT hS hl; exact absurd hm (Nat.not_lt_zero _)
    | succ n ih =>
      intro y5 H locs ls b_y5 hm hT hS hl
      have ih7_6 := ih
      clear ih
      refine lv_iload_n hx hb dX7_becomeOne_7 rfl (lv_at hl 2 rfl) ?_
      refine lv_iload_n hx hb dX7_becomeOne_8 rfl (lv_at hl 1 rfl) ?_
      refine lv_icmp_ge (tgt := 26) hx hb dX7_becomeOne_9 (by decide) (fun c_7 => ?_) (fun c_7 => ?_)
      · skip
        have c_7 := ni_le c_7 rfl rfl
        exact tz_retV (B := B_cX7_becomeOne_9e486 D k h0 x1) hQ hx hb hr hlocks hS (Nat.le_of_ble_eq_true rfl) (Nat.le_of_ble_eq_true rfl) dX7_becomeOne_26 (hT)
      · skip
        have c_7 := ni_nle c_7 rfl rfl
        refine lv_aload_n hx hb dX7_becomeOne_12 rfl (lv_at hl 0 rfl) ?_
        refine lv_iload_n hx hb dX7_becomeOne_13 rfl (lv_at hl 2 rfl) ?_
        refine lv_iload_n hx hb dX7_becomeOne_14 rfl (lv_at hl 1 rfl) ?_
        refine lv_imul hx hb dX7_becomeOne_15 (lv_topi (fun v8 e_v8 => ?_))
        have e_v8 := ai_mm (la := 0) (ua := 2) (lb := 1) (ub := 3) e_v8 rfl rfl (by omega) (by decide)
        refine lv_iload_n hx hb dX7_becomeOne_16 rfl (lv_at hl 2 rfl) ?_
        refine lv_iadd hx hb dX7_becomeOne_17 (lv_topi (fun v9 e_v9 => ?_))
        have e_v9 := ai_add e_v9 rfl rfl (by omega)
        refine lv_lconst (v := 1) hx hb dX7_becomeOne_18 (by decide) ?_
        refine tz_last hx hb hK hT hS 0 rfl (by omega) (fun _ _ => trivial) dX7_becomeOne_19 (fun H locs hT hS => ?_)
        obtain ⟨v10, e_v10⟩ : ∃ x : Int32, x = y5 + Int32.ofInt 1 := ⟨_, rfl⟩
        have f_v10 := e_v10.symm
        have e_v10 : v10.toInt = y5.toInt + 1 := ai_add e_v10 rfl (show (Int32.ofInt 1).toInt = 1 from (by decide +kernel)) (by omega)
        refine lv_iinc (v := v10) (lv' := [(2, .int v10), (0, .ref h0), (1, .int x1)]) hx hb dX7_becomeOne_20 hl (k := 2) rfl f_v10 (by decide) rfl (fun ls hl => ?_)
        refine lv_goto (tgt := 7) hx hb dX7_becomeOne_23 (by decide) ?_
        exact ih7_6 v10 _ _ _ (by omega)  (by omega) hT hS (lv_sub hl [1, 2, 0] rfl)
  exact lp7_6 ((x1.toInt + (-1) * (0 : Int32).toInt + 1).toNat + 1) (0) _ _ _ (by have := li_0; omega)  (Nat.lt_succ_self _) hT hS (lv_sub hl [1, 2, 0] rfl)
abbrev Rm_cX5_append_eb78b : Room := { frames := 1, cells := 0, slots := 0, locals := 26 }
abbrev B_cX5_append_eb78b (D : va_G) (k : Nat → ClassId) (h0 h1 h2 : Nat) (h0f0 : Int32) (h0f1 : Int32) (h0f2 : Int32) (A : Nat → Prop) (r : Int32) (H : Heap) : Prop := ∃ o0 : Int32, (0 ≤ o0.toInt ∧ o0.toInt ≤ 4) ∧ ((-2) ≤ r.toInt ∧ r.toInt ≤ 3) ∧ TP D A [(h0, ob 4 [.int h0f0, .int o0, .int h0f2, .ref h2]), (h1, aJ (k 1) 9 anJ), (h2, aJ (k 1) 36 anJ)] H
set_option maxHeartbeats 4000000 in
set_option maxRecDepth 100000 in
theorem cX5_append_eb78b (l : Launch) (D : va_G) (k : Nat → ClassId) (sz : Nat) (h0 h1 h2 : Nat) (h0f0 : Int32) (h0f1 : Int32) (h0f2 : Int32) (b_h0f0 : 1 ≤ h0f0.toInt ∧ h0f0.toInt ≤ 3) (b_h0f1 : 0 ≤ h0f1.toInt ∧ h0f1.toInt ≤ 3) : Met l yX5_append (Cond.code yX5_append cX5_append 2 (some .int) :: uw) Rm_cX5_append_eb78b (pT D k sz [.ref h0, .ref h1] [(h0, ob 4 [.int h0f0, .int h0f1, .int h0f2, .ref h2]), (h1, aJ (k 1) 9 anJ), (h2, aJ (k 1) 36 anJ)]) (qI (B_cX5_append_eb78b D k h0 h1 h2 h0f0 h0f1 h0f2 (zA [h0, h1, h2] sz)) (zA [h0, h1, h2] sz)) 0 0 (zA [h0, h1, h2] sz) := by
  refine tz_begin (as := [h0, h1, h2]) (Qc := fun A => qI (B_cX5_append_eb78b D k h0 h1 h2 h0f0 h0f1 h0f2 A) A) (by decide +kernel) rfl (Nat.le_of_ble_eq_true rfl) ?_
  intro p e s m args below meth c ls A Q hx hb hr hml hown hlocks hin hU hK hT hS hA hl hQ
  have hl : lv_has ls 2 [(0, .ref h0), (1, .ref h1)] := hl
  have hT : TP D A [(h0, ob 4 [.int h0f0, .int h0f1, .int h0f2, .ref h2]), (h1, aJ (k 1) 9 anJ), (h2, aJ (k 1) 36 anJ)] s.heap := hT
  refine lv_aload_n hx hb dX5_append_0 rfl (lv_at hl 0 rfl) ?_
  refine tcI (Tc := [(h0, ob 4 [.int h0f0, .int h0f1, .int h0f2, .ref h2])]) (Tr := [(h1, aJ (k 1) 9 anJ), (h2, aJ (k 1) 36 anJ)]) (as := [h0]) (zcV (q0 := 0) (ci := 4) (As := []) (rest := []) (Tc := [(h0, ob 4 [.int h0f0, .int h0f1, .int h0f2, .ref h2])]) hx hb hml hown hU hK hT rfl rfl [0] rfl (by decide) (cX5_isFull_cc49c l D k _ h0 h2 h0f0 h0f1 h0f2 (by omega) (by omega)) w326 w345 w324 w325 w64 hdX5_isFull ⟨rfl, rfl⟩ ⟨Nat.le_of_ble_eq_true rfl, Nat.le_of_ble_eq_true rfl⟩ rfl hl.1 (Nat.le_of_ble_eq_true rfl) dX5_append_1 ⟨Nat.le_of_ble_eq_true rfl, Nat.le_of_ble_eq_true rfl⟩) hT hS hA [0] [1, 2] rfl rfl rfl (by decide) (by decide) (fun r1 H locs hB J hS => ?_)
  rcases hB with ⟨c_2, rfl, hT1⟩ | ⟨rfl, hT1⟩
  · skip
    have hT := J _ hT1
    have hT : TP D A [(h1, aJ (k 1) 9 anJ), (h2, aJ (k 1) 36 anJ), (h0, ob 4 [.int h0f0, .int h0f1, .int h0f2, .ref h2])] _ := hT
    refine lv_if_eq (tgt := 10) hx hb dX5_append_4 (by decide) (fun _ => ?_) (fun cc => absurd (by decide +kernel) cc)
    refine lv_aload_n hx hb dX5_append_10 rfl (lv_at hl 1 rfl) ?_
    refine lv_iconst (v := 0) hx hb dX5_append_11 (by decide) ?_
    refine lv_aload_n hx hb dX5_append_12 rfl (lv_at hl 0 rfl) ?_
    refine tz_get (ci := 4) (v := .ref h2) (C := RX5) (F := TX5) (N := 4) hx hb hU iX5 hown hK hT 2 rfl rfl 3 (by decide) w100 (fun _ h9 => h9) rfl dX5_append_13 ?_
    refine lv_aload_n hx hb dX5_append_16 rfl (lv_at hl 0 rfl) ?_
    refine tz_get (ci := 4) (v := .int h0f1) (C := RX5) (F := TX5) (N := 4) hx hb hU iX5 hown hK hT 2 rfl rfl 1 (by decide) w96 (fun _ h9 => h9) rfl dX5_append_17 ?_
    refine lv_bipush (v := 9) hx hb dX5_append_20 (by decide) ?_
    refine lv_imul hx hb dX5_append_22 (lv_topi (fun v3 e_v3 => ?_))
    have e_v3 := ai_mul e_v3 rfl li_9 (by omega)
    refine lv_bipush (v := 9) hx hb dX5_append_23 (by decide) ?_
    refine tz_copyl hx hb (by rw [hml]; exact hl.1.symm) hown hU w346 w348 w347 w75 hK hT hS 0 1 rfl rfl (by have := li_0; have := li_9; omega) (fun _ _ _ _ => trivial) (Nat.le_of_ble_eq_true rfl) (Nat.le_of_ble_eq_true rfl) dX5_append_25 (fun H locs hT hS => ?_)
    refine lv_aload_n hx hb dX5_append_28 rfl (lv_at hl 0 rfl) ?_
    refine lv_dup hx hb dX5_append_29 rfl ?_
    refine tz_get (ci := 4) (v := .int h0f1) (C := RX5) (F := TX5) (N := 4) hx hb hU iX5 hown hK hT 2 rfl rfl 1 (by decide) w96 (fun _ h9 => h9) rfl dX5_append_30 ?_
    refine lv_iconst (v := 1) hx hb dX5_append_33 (by decide) ?_
    refine lv_iadd hx hb dX5_append_34 (lv_topi (fun v4 e_v4 => ?_))
    have e_v4 := ai_add e_v4 rfl li_1 (by omega)
    refine tz_put (ci := 4) (v := .int v4) (ty := .int) (C := RX5) (F := TX5) (N := 4) hx hb hU iX5 tyX5 tyX5_ok nmX5 hown hK hT hS 2 rfl rfl 1 (by decide) w96 (fun _ h9 => h9) rfl (by decide +kernel) rfl rfl (Nat.le_of_ble_eq_true rfl) dX5_append_35 (fun H locs hT hS => ?_)
    have hT : TP D A [(h1, aJ (k 1) 9 anJ), (h2, aJ (k 1) 36 anJ), (h0, ob 4 [.int h0f0, .int v4, .int h0f2, .ref h2])] _ := hT
    refine lv_aload_n hx hb dX5_append_38 rfl (lv_at hl 0 rfl) ?_
    refine tz_get (ci := 4) (v := .int v4) (C := RX5) (F := TX5) (N := 4) hx hb hU iX5 hown hK hT 2 rfl rfl 1 (by decide) w96 (fun _ h9 => h9) rfl dX5_append_39 ?_
    refine lv_iconst (v := 1) hx hb dX5_append_42 (by decide) ?_
    refine lv_isub hx hb dX5_append_43 (lv_topi (fun v5 e_v5 => ?_))
    have e_v5 := ai_sub e_v5 rfl li_1 (by omega)
    exact tz_retI (B := B_cX5_append_eb78b D k h0 h1 h2 h0f0 h0f1 h0f2) (v := v5) hQ hx hb hr hlocks hS (Nat.le_of_ble_eq_true rfl) (Nat.le_of_ble_eq_true rfl) dX5_append_44 (⟨v4, (by omega), (by omega), (hT.sub [2, 0, 1] (by decide) rfl)⟩)
  · skip
    have hT := J _ hT1
    have hT : TP D A [(h1, aJ (k 1) 9 anJ), (h2, aJ (k 1) 36 anJ), (h0, ob 4 [.int h0f0, .int h0f1, .int h0f2, .ref h2])] _ := hT
    refine lv_if_eq (tgt := 10) hx hb dX5_append_4 (by decide) (fun cc => absurd cc (by decide +kernel)) (fun _ => ?_)
    refine lv_bipush (v := (-2)) hx hb dX5_append_7 (by decide) ?_
    exact tz_retI (B := B_cX5_append_eb78b D k h0 h1 h2 h0f0 h0f1 h0f2) (v := (-2)) hQ hx hb hr hlocks hS (Nat.le_of_ble_eq_true rfl) (Nat.le_of_ble_eq_true rfl) dX5_append_9 (⟨h0f1, (by have := li_m2; omega), (by have := li_m2; omega), (hT.sub [2, 0, 1] (by decide) rfl)⟩)
abbrev Rm_cX10_addSquare_6c1be : Room := { frames := 2, cells := 0, slots := 0, locals := 47 }
abbrev B_cX10_addSquare_6c1be (D : va_G) (k : Nat → ClassId) (h0 h1 h7 h11 h13 h2 h3 h4 h5 h6 h8 h9 h10 h12 : Nat) (h0f2 : Int32) (h0f6 : Int32) (h0f8 : Int32) (h0f11 : Int32) (h1f0 : Int32) (h1f1 : Int32) (h1f2 : Int32) (A : Nat → Prop) (r : Int32) (H : Heap) : Prop := ∃ o0 : Int32, (0 ≤ o0.toInt ∧ o0.toInt ≤ 4) ∧ ((-2) ≤ r.toInt ∧ r.toInt ≤ 3) ∧ TP D A [(h0, ob 7 [.ref h1, .ref h2, .int h0f2, .ref h3, .ref h4, .ref h5, .int 0, .ref h6, .int 0, .null, .ref h7, .int h0f11, .ref h8, .ref h9, .ref h10, .ref h11, .ref h12]), (h1, ob 4 [.int h1f0, .int o0, .int h1f2, .ref h13]), (h7, aI (k 0) 8 anI), (h11, aJ (k 1) 9 anJ), (h13, aJ (k 1) 36 anJ)] H
set_option maxHeartbeats 4000000 in
set_option maxRecDepth 100000 in
theorem cX10_addSquare_6c1be (l : Launch) (D : va_G) (k : Nat → ClassId) (sz : Nat) (h0 h1 h7 h11 h13 h2 h3 h4 h5 h6 h8 h9 h10 h12 : Nat) (h0f2 : Int32) (h0f6 : Int32) (h0f8 : Int32) (h0f11 : Int32) (h1f0 : Int32) (h1f1 : Int32) (h1f2 : Int32) (b_h0f2 : 0 ≤ h0f2.toInt ∧ h0f2.toInt ≤ 1) (b_h0f6 : 0 ≤ h0f6.toInt ∧ h0f6.toInt ≤ 1) (b_h0f8 : 0 ≤ h0f8.toInt ∧ h0f8.toInt ≤ 1) (b_h0f11 : 0 ≤ h0f11.toInt ∧ h0f11.toInt ≤ 200) (b_h1f0 : 1 ≤ h1f0.toInt ∧ h1f0.toInt ≤ 3) (b_h1f1 : 0 ≤ h1f1.toInt ∧ h1f1.toInt ≤ 3) : Met l yX10_addSquare (Cond.code yX10_addSquare cX10_addSquare 2 (some .int) :: uw) Rm_cX10_addSquare_6c1be (pT D k sz [.ref h0] [(h0, ob 7 [.ref h1, .ref h2, .int h0f2, .ref h3, .ref h4, .ref h5, .int h0f6, .ref h6, .int h0f8, .null, .ref h7, .int h0f11, .ref h8, .ref h9, .ref h10, .ref h11, .ref h12]), (h1, ob 4 [.int h1f0, .int h1f1, .int h1f2, .ref h13]), (h7, aI (k 0) 8 anI), (h11, aJ (k 1) 9 anJ), (h13, aJ (k 1) 36 anJ)]) (qI (B_cX10_addSquare_6c1be D k h0 h1 h7 h11 h13 h2 h3 h4 h5 h6 h8 h9 h10 h12 h0f2 h0f6 h0f8 h0f11 h1f0 h1f1 h1f2 (zA [h0, h1, h7, h11, h13] sz)) (zA [h0, h1, h7, h11, h13] sz)) 0 0 (zA [h0, h1, h7, h11, h13] sz) := by
  refine tz_begin (as := [h0, h1, h7, h11, h13]) (Qc := fun A => qI (B_cX10_addSquare_6c1be D k h0 h1 h7 h11 h13 h2 h3 h4 h5 h6 h8 h9 h10 h12 h0f2 h0f6 h0f8 h0f11 h1f0 h1f1 h1f2 A) A) (by decide +kernel) rfl (Nat.le_of_ble_eq_true rfl) ?_
  intro p e s m args below meth c ls A Q hx hb hr hml hown hlocks hin hU hK hT hS hA hl hQ
  have hl : lv_has ls 2 [(0, .ref h0)] := hl
  have hT : TP D A [(h0, ob 7 [.ref h1, .ref h2, .int h0f2, .ref h3, .ref h4, .ref h5, .int h0f6, .ref h6, .int h0f8, .null, .ref h7, .int h0f11, .ref h8, .ref h9, .ref h10, .ref h11, .ref h12]), (h1, ob 4 [.int h1f0, .int h1f1, .int h1f2, .ref h13]), (h7, aI (k 0) 8 anI), (h11, aJ (k 1) 9 anJ), (h13, aJ (k 1) 36 anJ)] s.heap := hT
  refine lv_aload_n hx hb dX10_addSquare_0 rfl (lv_at hl 0 rfl) ?_
  refine tz_get (ci := 7) (v := .ref h1) (C := RX10) (F := TX10) (N := 17) hx hb hU iX10 hown hK hT 0 rfl rfl 0 (by decide) w249 (fun _ h9 => h9) rfl dX10_addSquare_1 ?_
  refine lv_aload_n hx hb dX10_addSquare_4 rfl (lv_at hl 0 rfl) ?_
  refine tz_get (ci := 7) (v := .ref h11) (C := RX10) (F := TX10) (N := 17) hx hb hU iX10 hown hK hT 0 rfl rfl 15 (by decide) w264 (fun _ h9 => h9) rfl dX10_addSquare_5 ?_
  refine tcI (Tc := [(h1, ob 4 [.int h1f0, .int h1f1, .int h1f2, .ref h13]), (h11, aJ (k 1) 9 anJ), (h13, aJ (k 1) 36 anJ)]) (Tr := [(h0, ob 7 [.ref h1, .ref h2, .int h0f2, .ref h3, .ref h4, .ref h5, .int h0f6, .ref h6, .int h0f8, .null, .ref h7, .int h0f11, .ref h8, .ref h9, .ref h10, .ref h11, .ref h12]), (h7, aI (k 0) 8 anI)]) (as := [h1, h11, h13]) (zcV (q0 := 1) (ci := 4) (As := [.ref h11]) (rest := []) (Tc := [(h1, ob 4 [.int h1f0, .int h1f1, .int h1f2, .ref h13]), (h11, aJ (k 1) 9 anJ), (h13, aJ (k 1) 36 anJ)]) hx hb hml hown hU hK hT rfl rfl [1, 3, 4] rfl (by decide) (cX5_append_eb78b l D k _ h1 h11 h13 h1f0 h1f1 h1f2 (by omega) (by omega)) w344 w341 w342 w343 w64 hdX5_append ⟨rfl, rfl⟩ ⟨Nat.le_of_ble_eq_true rfl, Nat.le_of_ble_eq_true rfl⟩ rfl hl.1 (Nat.le_of_ble_eq_true rfl) dX10_addSquare_8 ⟨Nat.le_of_ble_eq_true rfl, Nat.le_of_ble_eq_true rfl⟩) hT hS hA [1, 3, 4] [0, 2] rfl rfl rfl (by decide) (by decide) (fun r1 H locs hB J hS => ?_)
  obtain ⟨v2, b_v2, b_r1, hT1⟩ := hB
  have hT := J _ hT1
  have hT : TP D A [(h0, ob 7 [.ref h1, .ref h2, .int h0f2, .ref h3, .ref h4, .ref h5, .int h0f6, .ref h6, .int h0f8, .null, .ref h7, .int h0f11, .ref h8, .ref h9, .ref h10, .ref h11, .ref h12]), (h7, aI (k 0) 8 anI), (h1, ob 4 [.int h1f0, .int v2, .int h1f2, .ref h13]), (h11, aJ (k 1) 9 anJ), (h13, aJ (k 1) 36 anJ)] _ := hT
  refine lv_istore_n (lv' := [(1, .int r1), (0, .ref h0)]) hx hb dX10_addSquare_11 rfl hl (by decide) rfl (fun ls hl => ?_)
  refine lv_aload_n hx hb dX10_addSquare_12 rfl (lv_at hl 1 rfl) ?_
  refine tcV (Tc := [(h0, ob 7 [.ref h1, .ref h2, .int h0f2, .ref h3, .ref h4, .ref h5, .int h0f6, .ref h6, .int h0f8, .null, .ref h7, .int h0f11, .ref h8, .ref h9, .ref h10, .ref h11, .ref h12]), (h7, aI (k 0) 8 anI)]) (Tr := [(h1, ob 4 [.int h1f0, .int v2, .int h1f2, .ref h13]), (h11, aJ (k 1) 9 anJ), (h13, aJ (k 1) 36 anJ)]) (as := [h0, h7]) (zcV (q0 := 0) (ci := 7) (As := []) (rest := []) (Tc := [(h0, ob 7 [.ref h1, .ref h2, .int h0f2, .ref h3, .ref h4, .ref h5, .int h0f6, .ref h6, .int h0f8, .null, .ref h7, .int h0f11, .ref h8, .ref h9, .ref h10, .ref h11, .ref h12]), (h7, aI (k 0) 8 anI)]) hx hb hml hown hU hK hT rfl rfl [0, 1] rfl (by decide) (cX10_forgetWhatCame_0fe65 l D k _ h0 h7 h1 h2 h3 h4 h5 h6 h8 h9 h10 h11 h12 h0f2 h0f6 h0f8 h0f11 (by omega) (by omega) (by omega) (by omega)) w308 w305 w307 w0 w63 hdX10_forgetWhatCame ⟨rfl, rfl⟩ ⟨Nat.le_of_ble_eq_true rfl, Nat.le_of_ble_eq_true rfl⟩ rfl hl.1 (Nat.le_of_ble_eq_true rfl) dX10_addSquare_13 ⟨Nat.le_of_ble_eq_true rfl, Nat.le_of_ble_eq_true rfl⟩) hT hS hA [0, 1] [2, 3, 4] rfl rfl rfl (by decide) (by decide) (fun H locs hB J hS => ?_)
  have hT1 := hB
  have hT := J _ hT1
  have hT : TP D A [(h1, ob 4 [.int h1f0, .int v2, .int h1f2, .ref h13]), (h11, aJ (k 1) 9 anJ), (h13, aJ (k 1) 36 anJ), (h0, ob 7 [.ref h1, .ref h2, .int h0f2, .ref h3, .ref h4, .ref h5, .int 0, .ref h6, .int 0, .null, .ref h7, .int h0f11, .ref h8, .ref h9, .ref h10, .ref h11, .ref h12]), (h7, aI (k 0) 8 anI)] _ := hT
  refine lv_iload_n hx hb dX10_addSquare_16 rfl (lv_at hl 0 rfl) ?_
  exact tz_retI (B := B_cX10_addSquare_6c1be D k h0 h1 h7 h11 h13 h2 h3 h4 h5 h6 h8 h9 h10 h12 h0f2 h0f6 h0f8 h0f11 h1f0 h1f1 h1f2) (v := r1) hQ hx hb hr hlocks hS (Nat.le_of_ble_eq_true rfl) (Nat.le_of_ble_eq_true rfl) dX10_addSquare_17 (⟨v2, (by omega), (by omega), (hT.sub [3, 0, 4, 1, 2] (by decide) rfl)⟩)
abbrev Rm_cX10_addUnit_1025d : Room := { frames := 3, cells := 0, slots := 0, locals := 68 }
abbrev B_cX10_addUnit_1025d (D : va_G) (k : Nat → ClassId) (h0 h1 h7 h11 h13 h2 h3 h4 h5 h6 h8 h9 h10 h12 : Nat) (x1 : Int32) (x2 : Int32) (x3 : Int32) (h0f2 : Int32) (h0f6 : Int32) (h0f8 : Int32) (h0f11 : Int32) (h1f0 : Int32) (h1f1 : Int32) (h1f2 : Int32) (A : Nat → Prop) (r : Int32) (H : Heap) : Prop := ∃ o0 : Int32, (0 ≤ o0.toInt ∧ o0.toInt ≤ 4) ∧ ((-2) ≤ r.toInt ∧ r.toInt ≤ 3) ∧ TP D A [(h0, ob 7 [.ref h1, .ref h2, .int h0f2, .ref h3, .ref h4, .ref h5, .int 0, .ref h6, .int 0, .null, .ref h7, .int h0f11, .ref h8, .ref h9, .ref h10, .ref h11, .ref h12]), (h1, ob 4 [.int h1f0, .int o0, .int h1f2, .ref h13]), (h7, aI (k 0) 8 anI), (h11, aJ (k 1) 9 anJ), (h13, aJ (k 1) 36 anJ)] H
set_option maxHeartbeats 4000000 in
set_option maxRecDepth 100000 in
theorem cX10_addUnit_1025d (l : Launch) (D : va_G) (k : Nat → ClassId) (sz : Nat) (h0 h1 h7 h11 h13 h2 h3 h4 h5 h6 h8 h9 h10 h12 : Nat) (x1 : Int32) (x2 : Int32) (x3 : Int32) (h0f2 : Int32) (h0f6 : Int32) (h0f8 : Int32) (h0f11 : Int32) (h1f0 : Int32) (h1f1 : Int32) (h1f2 : Int32) (b_x1 : 0 ≤ x1.toInt ∧ x1.toInt ≤ 2) (b_x2 : 0 ≤ x2.toInt ∧ x2.toInt ≤ 2) (b_h0f2 : 0 ≤ h0f2.toInt ∧ h0f2.toInt ≤ 1) (b_h0f6 : 0 ≤ h0f6.toInt ∧ h0f6.toInt ≤ 1) (b_h0f8 : 0 ≤ h0f8.toInt ∧ h0f8.toInt ≤ 1) (b_h0f11 : 0 ≤ h0f11.toInt ∧ h0f11.toInt ≤ 200) (b_h1f0 : 1 ≤ h1f0.toInt ∧ h1f0.toInt ≤ 3) (b_h1f1 : 0 ≤ h1f1.toInt ∧ h1f1.toInt ≤ 3) : Met l yX10_addUnit (Cond.code yX10_addUnit cX10_addUnit 4 (some .int) :: uw) Rm_cX10_addUnit_1025d (pT D k sz [.ref h0, .int x1, .int x2, .int x3] [(h0, ob 7 [.ref h1, .ref h2, .int h0f2, .ref h3, .ref h4, .ref h5, .int h0f6, .ref h6, .int h0f8, .null, .ref h7, .int h0f11, .ref h8, .ref h9, .ref h10, .ref h11, .ref h12]), (h1, ob 4 [.int h1f0, .int h1f1, .int h1f2, .ref h13]), (h7, aI (k 0) 8 anI), (h11, aJ (k 1) 9 anJ), (h13, aJ (k 1) 36 anJ)]) (qI (B_cX10_addUnit_1025d D k h0 h1 h7 h11 h13 h2 h3 h4 h5 h6 h8 h9 h10 h12 x1 x2 x3 h0f2 h0f6 h0f8 h0f11 h1f0 h1f1 h1f2 (zA [h0, h1, h7, h11, h13] sz)) (zA [h0, h1, h7, h11, h13] sz)) 0 0 (zA [h0, h1, h7, h11, h13] sz) := by
  refine tz_begin (as := [h0, h1, h7, h11, h13]) (Qc := fun A => qI (B_cX10_addUnit_1025d D k h0 h1 h7 h11 h13 h2 h3 h4 h5 h6 h8 h9 h10 h12 x1 x2 x3 h0f2 h0f6 h0f8 h0f11 h1f0 h1f1 h1f2 A) A) (by decide +kernel) rfl (Nat.le_of_ble_eq_true rfl) ?_
  intro p e s m args below meth c ls A Q hx hb hr hml hown hlocks hin hU hK hT hS hA hl hQ
  have hl : lv_has ls 4 [(0, .ref h0), (1, .int x1), (2, .int x2), (3, .int x3)] := hl
  have hT : TP D A [(h0, ob 7 [.ref h1, .ref h2, .int h0f2, .ref h3, .ref h4, .ref h5, .int h0f6, .ref h6, .int h0f8, .null, .ref h7, .int h0f11, .ref h8, .ref h9, .ref h10, .ref h11, .ref h12]), (h1, ob 4 [.int h1f0, .int h1f1, .int h1f2, .ref h13]), (h7, aI (k 0) 8 anI), (h11, aJ (k 1) 9 anJ), (h13, aJ (k 1) 36 anJ)] s.heap := hT
  refine lv_aload_n hx hb dX10_addUnit_0 rfl (lv_at hl 0 rfl) ?_
  refine tz_get (ci := 7) (v := .ref h11) (C := RX10) (F := TX10) (N := 17) hx hb hU iX10 hown hK hT 0 rfl rfl 15 (by decide) w264 (fun _ h9 => h9) rfl dX10_addUnit_1 ?_
  refine lv_aload_n hx hb dX10_addUnit_4 rfl (lv_at hl 0 rfl) ?_
  refine tz_get (ci := 7) (v := .ref h1) (C := RX10) (F := TX10) (N := 17) hx hb hU iX10 hown hK hT 0 rfl rfl 0 (by decide) w249 (fun _ h9 => h9) rfl dX10_addUnit_5 ?_
  refine tz_get (ci := 4) (v := .int h1f0) (C := RX5) (F := TX5) (N := 4) hx hb hU iX5 hown hK hT 1 rfl rfl 0 (by decide) w93 (fun _ h9 => h9) rfl dX10_addUnit_8 ?_
  refine tcV (Tc := [(h11, aJ (k 1) 9 anJ)]) (Tr := [(h0, ob 7 [.ref h1, .ref h2, .int h0f2, .ref h3, .ref h4, .ref h5, .int h0f6, .ref h6, .int h0f8, .null, .ref h7, .int h0f11, .ref h8, .ref h9, .ref h10, .ref h11, .ref h12]), (h1, ob 4 [.int h1f0, .int h1f1, .int h1f2, .ref h13]), (h7, aI (k 0) 8 anI), (h13, aJ (k 1) 36 anJ)]) (as := [h11]) (zcS (As := [.ref h11, .int h1f0]) (rest := []) (Tc := [(h11, aJ (k 1) 9 anJ)]) hx hb hml hown hU hK hT [3] rfl (by decide) (cX7_becomeOne_9e486 l D k _ h11 h1f0 (by omega)) w333 w331 w332 w74 hdX7_becomeOne ⟨rfl, rfl⟩ ⟨Nat.le_of_ble_eq_true rfl, Nat.le_of_ble_eq_true rfl⟩ rfl hl.1 (Nat.le_of_ble_eq_true rfl) dX10_addUnit_11 ⟨Nat.le_of_ble_eq_true rfl, Nat.le_of_ble_eq_true rfl⟩) hT hS hA [3] [0, 1, 2, 4] rfl rfl rfl (by decide) (by decide) (fun H locs hB J hS => ?_)
  have hT1 := hB
  have hT := J _ hT1
  have hT : TP D A [(h0, ob 7 [.ref h1, .ref h2, .int h0f2, .ref h3, .ref h4, .ref h5, .int h0f6, .ref h6, .int h0f8, .null, .ref h7, .int h0f11, .ref h8, .ref h9, .ref h10, .ref h11, .ref h12]), (h1, ob 4 [.int h1f0, .int h1f1, .int h1f2, .ref h13]), (h7, aI (k 0) 8 anI), (h13, aJ (k 1) 36 anJ), (h11, aJ (k 1) 9 anJ)] _ := hT
  refine lv_aload_n hx hb dX10_addUnit_14 rfl (lv_at hl 0 rfl) ?_
  refine tz_get (ci := 7) (v := .ref h11) (C := RX10) (F := TX10) (N := 17) hx hb hU iX10 hown hK hT 0 rfl rfl 15 (by decide) w264 (fun _ h9 => h9) rfl dX10_addUnit_15 ?_
  refine lv_iload_n hx hb dX10_addUnit_18 rfl (lv_at hl 1 rfl) ?_
  refine lv_aload_n hx hb dX10_addUnit_19 rfl (lv_at hl 0 rfl) ?_
  refine tz_get (ci := 7) (v := .ref h1) (C := RX10) (F := TX10) (N := 17) hx hb hU iX10 hown hK hT 0 rfl rfl 0 (by decide) w249 (fun _ h9 => h9) rfl dX10_addUnit_20 ?_
  refine tz_get (ci := 4) (v := .int h1f0) (C := RX5) (F := TX5) (N := 4) hx hb hU iX5 hown hK hT 1 rfl rfl 0 (by decide) w93 (fun _ h9 => h9) rfl dX10_addUnit_23 ?_
  refine lv_imul hx hb dX10_addUnit_26 (lv_topi (fun v2 e_v2 => ?_))
  have e_v2 := ai_mm (la := 0) (ua := 2) (lb := 1) (ub := 3) e_v2 rfl rfl (by omega) (by decide)
  refine lv_iload_n hx hb dX10_addUnit_27 rfl (lv_at hl 2 rfl) ?_
  refine lv_iadd hx hb dX10_addUnit_28 (lv_topi (fun v3 e_v3 => ?_))
  have e_v3 := ai_add e_v3 rfl rfl (by omega)
  refine lv_iload_n hx hb dX10_addUnit_29 rfl (lv_at hl 3 rfl) ?_
  have tb_x3 := i32b x3
  obtain ⟨v4, e_v4⟩ : ∃ x : Int64, x3.toInt64 = x := ⟨_, rfl⟩
  refine lv_i2l (v := v4) hx hb dX10_addUnit_30 e_v4 ?_
  have e_v4 := ai_i2l e_v4 rfl
  refine tz_last hx hb hK hT hS 4 rfl (by omega) (fun _ _ => trivial) dX10_addUnit_31 (fun H locs hT hS => ?_)
  refine lv_aload_n hx hb dX10_addUnit_32 rfl (lv_at hl 0 rfl) ?_
  refine tcI (Tc := [(h0, ob 7 [.ref h1, .ref h2, .int h0f2, .ref h3, .ref h4, .ref h5, .int h0f6, .ref h6, .int h0f8, .null, .ref h7, .int h0f11, .ref h8, .ref h9, .ref h10, .ref h11, .ref h12]), (h1, ob 4 [.int h1f0, .int h1f1, .int h1f2, .ref h13]), (h7, aI (k 0) 8 anI), (h11, aJ (k 1) 9 anJ), (h13, aJ (k 1) 36 anJ)]) (Tr := []) (as := [h0, h1, h7, h11, h13]) (zcV (q0 := 0) (ci := 7) (As := []) (rest := []) (Tc := [(h0, ob 7 [.ref h1, .ref h2, .int h0f2, .ref h3, .ref h4, .ref h5, .int h0f6, .ref h6, .int h0f8, .null, .ref h7, .int h0f11, .ref h8, .ref h9, .ref h10, .ref h11, .ref h12]), (h1, ob 4 [.int h1f0, .int h1f1, .int h1f2, .ref h13]), (h7, aI (k 0) 8 anI), (h11, aJ (k 1) 9 anJ), (h13, aJ (k 1) 36 anJ)]) hx hb hml hown hU hK hT rfl rfl [0, 1, 2, 4, 3] rfl (by decide) (cX10_addSquare_6c1be l D k _ h0 h1 h7 h11 h13 h2 h3 h4 h5 h6 h8 h9 h10 h12 h0f2 h0f6 h0f8 h0f11 h1f0 h1f1 h1f2 (by omega) (by omega) (by omega) (by omega) (by omega) (by omega)) w340 w337 w339 w2 w63 hdX10_addSquare ⟨rfl, rfl⟩ ⟨Nat.le_of_ble_eq_true rfl, Nat.le_of_ble_eq_true rfl⟩ rfl hl.1 (Nat.le_of_ble_eq_true rfl) dX10_addUnit_33 ⟨Nat.le_of_ble_eq_true rfl, Nat.le_of_ble_eq_true rfl⟩) hT hS hA [0, 1, 2, 4, 3] [] rfl rfl rfl (by decide) (by decide) (fun r5 H locs hB J hS => ?_)
  obtain ⟨v6, b_v6, b_r5, hT1⟩ := hB
  have hT := J _ hT1
  have hT : TP D A [(h0, ob 7 [.ref h1, .ref h2, .int h0f2, .ref h3, .ref h4, .ref h5, .int 0, .ref h6, .int 0, .null, .ref h7, .int h0f11, .ref h8, .ref h9, .ref h10, .ref h11, .ref h12]), (h1, ob 4 [.int h1f0, .int v6, .int h1f2, .ref h13]), (h7, aI (k 0) 8 anI), (h11, aJ (k 1) 9 anJ), (h13, aJ (k 1) 36 anJ)] _ := hT
  exact tz_retI (B := B_cX10_addUnit_1025d D k h0 h1 h7 h11 h13 h2 h3 h4 h5 h6 h8 h9 h10 h12 x1 x2 x3 h0f2 h0f6 h0f8 h0f11 h1f0 h1f1 h1f2) (v := r5) hQ hx hb hr hlocks hS (Nat.le_of_ble_eq_true rfl) (Nat.le_of_ble_eq_true rfl) dX10_addUnit_36 (⟨v6, (by omega), (by omega), hT⟩)
abbrev Rm_cX10_unit_7ca42 : Room := { frames := 4, cells := 0, slots := 0, locals := 91 }
abbrev B_cX10_unit_7ca42 (D : va_G) (k : Nat → ClassId) (h0 h1 h7 h11 h13 h2 h3 h4 h5 h6 h8 h9 h10 h12 : Nat) (x1 : Int32) (x2 : Int32) (x3 : Int32) (h0f2 : Int32) (h0f6 : Int32) (h0f8 : Int32) (h0f11 : Int32) (h1f0 : Int32) (h1f1 : Int32) (h1f2 : Int32) (A : Nat → Prop) (r : Int32) (H : Heap) : Prop := ∃ o0 : Int32, ∃ o1 : Int32, ∃ o2 : Int32, (0 ≤ o0.toInt ∧ o0.toInt ≤ 1) ∧ (0 ≤ o1.toInt ∧ o1.toInt ≤ 1) ∧ (0 ≤ o2.toInt ∧ o2.toInt ≤ 4) ∧ ((-2) ≤ r.toInt ∧ r.toInt ≤ 3) ∧ TP D A [(h0, ob 7 [.ref h1, .ref h2, .int h0f2, .ref h3, .ref h4, .ref h5, .int o0, .ref h6, .int o1, .null, .ref h7, .int h0f11, .ref h8, .ref h9, .ref h10, .ref h11, .ref h12]), (h1, ob 4 [.int h1f0, .int o2, .int h1f2, .ref h13]), (h7, aI (k 0) 8 anI), (h11, aJ (k 1) 9 anJ), (h13, aJ (k 1) 36 anJ)] H
set_option maxHeartbeats 4000000 in
set_option maxRecDepth 100000 in
theorem cX10_unit_7ca42 (l : Launch) (D : va_G) (k : Nat → ClassId) (sz : Nat) (h0 h1 h7 h11 h13 h2 h3 h4 h5 h6 h8 h9 h10 h12 : Nat) (x1 : Int32) (x2 : Int32) (x3 : Int32) (h0f2 : Int32) (h0f6 : Int32) (h0f8 : Int32) (h0f11 : Int32) (h1f0 : Int32) (h1f1 : Int32) (h1f2 : Int32) (b_h0f2 : 0 ≤ h0f2.toInt ∧ h0f2.toInt ≤ 1) (b_h0f6 : 0 ≤ h0f6.toInt ∧ h0f6.toInt ≤ 1) (b_h0f8 : 0 ≤ h0f8.toInt ∧ h0f8.toInt ≤ 1) (b_h0f11 : 0 ≤ h0f11.toInt ∧ h0f11.toInt ≤ 200) (b_h1f0 : 1 ≤ h1f0.toInt ∧ h1f0.toInt ≤ 3) (b_h1f1 : 0 ≤ h1f1.toInt ∧ h1f1.toInt ≤ 4) : Met l yX10_unit (Cond.code yX10_unit cX10_unit 4 (some .int) :: uw) Rm_cX10_unit_7ca42 (pT D k sz [.ref h0, .int x1, .int x2, .int x3] [(h0, ob 7 [.ref h1, .ref h2, .int h0f2, .ref h3, .ref h4, .ref h5, .int h0f6, .ref h6, .int h0f8, .null, .ref h7, .int h0f11, .ref h8, .ref h9, .ref h10, .ref h11, .ref h12]), (h1, ob 4 [.int h1f0, .int h1f1, .int h1f2, .ref h13]), (h7, aI (k 0) 8 anI), (h11, aJ (k 1) 9 anJ), (h13, aJ (k 1) 36 anJ)]) (qI (B_cX10_unit_7ca42 D k h0 h1 h7 h11 h13 h2 h3 h4 h5 h6 h8 h9 h10 h12 x1 x2 x3 h0f2 h0f6 h0f8 h0f11 h1f0 h1f1 h1f2 (zA [h0, h1, h7, h11, h13] sz)) (zA [h0, h1, h7, h11, h13] sz)) 0 0 (zA [h0, h1, h7, h11, h13] sz) := by
  refine tz_begin (as := [h0, h1, h7, h11, h13]) (Qc := fun A => qI (B_cX10_unit_7ca42 D k h0 h1 h7 h11 h13 h2 h3 h4 h5 h6 h8 h9 h10 h12 x1 x2 x3 h0f2 h0f6 h0f8 h0f11 h1f0 h1f1 h1f2 A) A) (by decide +kernel) rfl (Nat.le_of_ble_eq_true rfl) ?_
  intro p e s m args below meth c ls A Q hx hb hr hml hown hlocks hin hU hK hT hS hA hl hQ
  have hl : lv_has ls 4 [(0, .ref h0), (1, .int x1), (2, .int x2), (3, .int x3)] := hl
  have hT : TP D A [(h0, ob 7 [.ref h1, .ref h2, .int h0f2, .ref h3, .ref h4, .ref h5, .int h0f6, .ref h6, .int h0f8, .null, .ref h7, .int h0f11, .ref h8, .ref h9, .ref h10, .ref h11, .ref h12]), (h1, ob 4 [.int h1f0, .int h1f1, .int h1f2, .ref h13]), (h7, aI (k 0) 8 anI), (h11, aJ (k 1) 9 anJ), (h13, aJ (k 1) 36 anJ)] s.heap := hT
  refine lv_aload_n hx hb dX10_unit_0 rfl (lv_at hl 0 rfl) ?_
  refine tz_get (ci := 7) (v := .ref h1) (C := RX10) (F := TX10) (N := 17) hx hb hU iX10 hown hK hT 0 rfl rfl 0 (by decide) w249 (fun _ h9 => h9) rfl dX10_unit_1 ?_
  refine lv_iload_n hx hb dX10_unit_4 rfl (lv_at hl 1 rfl) ?_
  refine lv_iload_n hx hb dX10_unit_5 rfl (lv_at hl 2 rfl) ?_
  refine tcI (Tc := [(h1, ob 4 [.int h1f0, .int h1f1, .int h1f2, .ref h13])]) (Tr := [(h0, ob 7 [.ref h1, .ref h2, .int h0f2, .ref h3, .ref h4, .ref h5, .int h0f6, .ref h6, .int h0f8, .null, .ref h7, .int h0f11, .ref h8, .ref h9, .ref h10, .ref h11, .ref h12]), (h7, aI (k 0) 8 anI), (h11, aJ (k 1) 9 anJ), (h13, aJ (k 1) 36 anJ)]) (as := [h1]) (zcV (q0 := 1) (ci := 4) (As := [.int x1, .int x2]) (rest := []) (Tc := [(h1, ob 4 [.int h1f0, .int h1f1, .int h1f2, .ref h13])]) hx hb hml hown hU hK hT rfl rfl [1] rfl (by decide) (cX5_isPlace_ce953 l D k _ h1 h13 x1 x2 h1f0 h1f1 h1f2 (by omega) (by omega)) w319 w316 w317 w318 w64 hdX5_isPlace ⟨rfl, rfl⟩ ⟨Nat.le_of_ble_eq_true rfl, Nat.le_of_ble_eq_true rfl⟩ rfl hl.1 (Nat.le_of_ble_eq_true rfl) dX10_unit_6 ⟨Nat.le_of_ble_eq_true rfl, Nat.le_of_ble_eq_true rfl⟩) hT hS hA [1] [0, 2, 3, 4] rfl rfl rfl (by decide) (by decide) (fun r1 H locs hB J hS => ?_)
  rcases hB with ⟨rfl, hT1⟩ | ⟨c_2, c_3, c_4, c_5, rfl, hT1⟩
  · skip
    have hT := J _ hT1
    have hT : TP D A [(h0, ob 7 [.ref h1, .ref h2, .int h0f2, .ref h3, .ref h4, .ref h5, .int h0f6, .ref h6, .int h0f8, .null, .ref h7, .int h0f11, .ref h8, .ref h9, .ref h10, .ref h11, .ref h12]), (h7, aI (k 0) 8 anI), (h11, aJ (k 1) 9 anJ), (h13, aJ (k 1) 36 anJ), (h1, ob 4 [.int h1f0, .int h1f1, .int h1f2, .ref h13])] _ := hT
    refine lv_if_eq (tgt := 29) hx hb dX10_unit_9 (by decide) (fun _ => ?_) (fun cc => absurd (by decide +kernel) cc)
    refine lv_iconst (v := (-1)) hx hb dX10_unit_29 (by decide) ?_
    exact tz_retI (B := B_cX10_unit_7ca42 D k h0 h1 h7 h11 h13 h2 h3 h4 h5 h6 h8 h9 h10 h12 x1 x2 x3 h0f2 h0f6 h0f8 h0f11 h1f0 h1f1 h1f2) (v := (-1)) hQ hx hb hr hlocks hS (Nat.le_of_ble_eq_true rfl) (Nat.le_of_ble_eq_true rfl) dX10_unit_30 (⟨h0f6, h0f8, h1f1, (by have := li_m1; omega), (by have := li_m1; omega), (by have := li_m1; omega), (by have := li_m1; omega), (hT.sub [0, 4, 1, 2, 3] (by decide) rfl)⟩)
  · skip
    have hT := J _ hT1
    have hT : TP D A [(h0, ob 7 [.ref h1, .ref h2, .int h0f2, .ref h3, .ref h4, .ref h5, .int h0f6, .ref h6, .int h0f8, .null, .ref h7, .int h0f11, .ref h8, .ref h9, .ref h10, .ref h11, .ref h12]), (h7, aI (k 0) 8 anI), (h11, aJ (k 1) 9 anJ), (h13, aJ (k 1) 36 anJ), (h1, ob 4 [.int h1f0, .int h1f1, .int h1f2, .ref h13])] _ := hT
    refine lv_if_eq (tgt := 29) hx hb dX10_unit_9 (by decide) (fun cc => absurd cc (by decide +kernel)) (fun _ => ?_)
    refine lv_iload_n hx hb dX10_unit_12 rfl (lv_at hl 1 rfl) ?_
    refine lv_iload_n hx hb dX10_unit_13 rfl (lv_at hl 2 rfl) ?_
    refine lv_icmp_ne (tgt := 21) hx hb dX10_unit_14 (by decide) (fun c_6 => ?_) (fun c_6 => ?_)
    · skip
      have c_6 := ni_ne c_6 rfl rfl
      refine lv_iconst (v := 0) hx hb dX10_unit_21 (by decide) ?_
      refine lv_iload_n hx hb dX10_unit_22 rfl (lv_at hl 3 rfl) ?_
      have q_q8 := li_0
      refine tcI (Tc := []) (Tr := [(h0, ob 7 [.ref h1, .ref h2, .int h0f2, .ref h3, .ref h4, .ref h5, .int h0f6, .ref h6, .int h0f8, .null, .ref h7, .int h0f11, .ref h8, .ref h9, .ref h10, .ref h11, .ref h12]), (h7, aI (k 0) 8 anI), (h11, aJ (k 1) 9 anJ), (h13, aJ (k 1) 36 anJ), (h1, ob 4 [.int h1f0, .int h1f1, .int h1f2, .ref h13])]) (as := []) (zcS (As := [.int 0, .int x3]) (rest := []) (Tc := []) hx hb hml hown hU hK hT [] rfl (by decide) (cX10_fitsUnit_ac2a1 l D k _ (0) x3 (by have := li_0; omega)) w322 w320 w321 w63 hdX10_fitsUnit ⟨rfl, rfl⟩ ⟨Nat.le_of_ble_eq_true rfl, Nat.le_of_ble_eq_true rfl⟩ rfl hl.1 (Nat.le_of_ble_eq_true rfl) dX10_unit_23 ⟨Nat.le_of_ble_eq_true rfl, Nat.le_of_ble_eq_true rfl⟩) hT hS hA [] [0, 1, 2, 3, 4] rfl rfl rfl (by decide) (by decide) (fun r7 H locs hB J hS => ?_)
      obtain ⟨b_r7, hT1⟩ := hB
      have hT := J _ hT1
      have hT : TP D A [(h0, ob 7 [.ref h1, .ref h2, .int h0f2, .ref h3, .ref h4, .ref h5, .int h0f6, .ref h6, .int h0f8, .null, .ref h7, .int h0f11, .ref h8, .ref h9, .ref h10, .ref h11, .ref h12]), (h7, aI (k 0) 8 anI), (h11, aJ (k 1) 9 anJ), (h13, aJ (k 1) 36 anJ), (h1, ob 4 [.int h1f0, .int h1f1, .int h1f2, .ref h13])] _ := hT
      refine lv_if_ne (tgt := 31) hx hb dX10_unit_26 (by decide) (fun c_9 => ?_) (fun c_9 => ?_)
      · skip
        have c_9 := ni_ne c_9 rfl li_0
        refine lv_aload_n hx hb dX10_unit_31 rfl (lv_at hl 0 rfl) ?_
        refine tz_get (ci := 7) (v := .ref h1) (C := RX10) (F := TX10) (N := 17) hx hb hU iX10 hown hK hT 0 rfl rfl 0 (by decide) w249 (fun _ h9 => h9) rfl dX10_unit_32 ?_
        refine tcI (Tc := [(h1, ob 4 [.int h1f0, .int h1f1, .int h1f2, .ref h13])]) (Tr := [(h0, ob 7 [.ref h1, .ref h2, .int h0f2, .ref h3, .ref h4, .ref h5, .int h0f6, .ref h6, .int h0f8, .null, .ref h7, .int h0f11, .ref h8, .ref h9, .ref h10, .ref h11, .ref h12]), (h7, aI (k 0) 8 anI), (h11, aJ (k 1) 9 anJ), (h13, aJ (k 1) 36 anJ)]) (as := [h1]) (zcV (q0 := 4) (ci := 4) (As := []) (rest := []) (Tc := [(h1, ob 4 [.int h1f0, .int h1f1, .int h1f2, .ref h13])]) hx hb hml hown hU hK hT rfl rfl [4] rfl (by decide) (cX5_isFull_cc49c l D k _ h1 h13 h1f0 h1f1 h1f2 (by omega) (by omega)) w326 w323 w324 w325 w64 hdX5_isFull ⟨rfl, rfl⟩ ⟨Nat.le_of_ble_eq_true rfl, Nat.le_of_ble_eq_true rfl⟩ rfl hl.1 (Nat.le_of_ble_eq_true rfl) dX10_unit_35 ⟨Nat.le_of_ble_eq_true rfl, Nat.le_of_ble_eq_true rfl⟩) hT hS hA [4] [0, 1, 2, 3] rfl rfl rfl (by decide) (by decide) (fun r10 H locs hB J hS => ?_)
        rcases hB with ⟨c_11, rfl, hT1⟩ | ⟨rfl, hT1⟩
        · skip
          have hT := J _ hT1
          have hT : TP D A [(h0, ob 7 [.ref h1, .ref h2, .int h0f2, .ref h3, .ref h4, .ref h5, .int h0f6, .ref h6, .int h0f8, .null, .ref h7, .int h0f11, .ref h8, .ref h9, .ref h10, .ref h11, .ref h12]), (h7, aI (k 0) 8 anI), (h11, aJ (k 1) 9 anJ), (h13, aJ (k 1) 36 anJ), (h1, ob 4 [.int h1f0, .int h1f1, .int h1f2, .ref h13])] _ := hT
          refine lv_if_eq (tgt := 44) hx hb dX10_unit_38 (by decide) (fun _ => ?_) (fun cc => absurd (by decide +kernel) cc)
          refine lv_aload_n hx hb dX10_unit_44 rfl (lv_at hl 0 rfl) ?_
          refine lv_iload_n hx hb dX10_unit_45 rfl (lv_at hl 1 rfl) ?_
          refine lv_iload_n hx hb dX10_unit_46 rfl (lv_at hl 2 rfl) ?_
          refine lv_iload_n hx hb dX10_unit_47 rfl (lv_at hl 3 rfl) ?_
          refine tcI (Tc := [(h0, ob 7 [.ref h1, .ref h2, .int h0f2, .ref h3, .ref h4, .ref h5, .int h0f6, .ref h6, .int h0f8, .null, .ref h7, .int h0f11, .ref h8, .ref h9, .ref h10, .ref h11, .ref h12]), (h1, ob 4 [.int h1f0, .int h1f1, .int h1f2, .ref h13]), (h7, aI (k 0) 8 anI), (h11, aJ (k 1) 9 anJ), (h13, aJ (k 1) 36 anJ)]) (Tr := []) (as := [h0, h1, h7, h11, h13]) (zcV (q0 := 0) (ci := 7) (As := [.int x1, .int x2, .int x3]) (rest := []) (Tc := [(h0, ob 7 [.ref h1, .ref h2, .int h0f2, .ref h3, .ref h4, .ref h5, .int h0f6, .ref h6, .int h0f8, .null, .ref h7, .int h0f11, .ref h8, .ref h9, .ref h10, .ref h11, .ref h12]), (h1, ob 4 [.int h1f0, .int h1f1, .int h1f2, .ref h13]), (h7, aI (k 0) 8 anI), (h11, aJ (k 1) 9 anJ), (h13, aJ (k 1) 36 anJ)]) hx hb hml hown hU hK hT rfl rfl [0, 4, 1, 2, 3] rfl (by decide) (cX10_addUnit_1025d l D k _ h0 h1 h7 h11 h13 h2 h3 h4 h5 h6 h8 h9 h10 h12 x1 x2 x3 h0f2 h0f6 h0f8 h0f11 h1f0 h1f1 h1f2 (by omega) (by omega) (by omega) (by omega) (by omega) (by omega) (by omega) (by omega)) w330 w327 w329 w1 w63 hdX10_addUnit ⟨rfl, rfl⟩ ⟨Nat.le_of_ble_eq_true rfl, Nat.le_of_ble_eq_true rfl⟩ rfl hl.1 (Nat.le_of_ble_eq_true rfl) dX10_unit_48 ⟨Nat.le_of_ble_eq_true rfl, Nat.le_of_ble_eq_true rfl⟩) hT hS hA [0, 4, 1, 2, 3] [] rfl rfl rfl (by decide) (by decide) (fun r12 H locs hB J hS => ?_)
          obtain ⟨v13, b_v13, b_r12, hT1⟩ := hB
          have hT := J _ hT1
          have hT : TP D A [(h0, ob 7 [.ref h1, .ref h2, .int h0f2, .ref h3, .ref h4, .ref h5, .int 0, .ref h6, .int 0, .null, .ref h7, .int h0f11, .ref h8, .ref h9, .ref h10, .ref h11, .ref h12]), (h1, ob 4 [.int h1f0, .int v13, .int h1f2, .ref h13]), (h7, aI (k 0) 8 anI), (h11, aJ (k 1) 9 anJ), (h13, aJ (k 1) 36 anJ)] _ := hT
          exact tz_retI (B := B_cX10_unit_7ca42 D k h0 h1 h7 h11 h13 h2 h3 h4 h5 h6 h8 h9 h10 h12 x1 x2 x3 h0f2 h0f6 h0f8 h0f11 h1f0 h1f1 h1f2) (v := r12) hQ hx hb hr hlocks hS (Nat.le_of_ble_eq_true rfl) (Nat.le_of_ble_eq_true rfl) dX10_unit_51 (⟨0, 0, v13, (by have := li_0; omega), (by have := li_0; omega), (by have := li_0; omega), (by have := li_0; omega), hT⟩)
        · skip
          have hT := J _ hT1
          have hT : TP D A [(h0, ob 7 [.ref h1, .ref h2, .int h0f2, .ref h3, .ref h4, .ref h5, .int h0f6, .ref h6, .int h0f8, .null, .ref h7, .int h0f11, .ref h8, .ref h9, .ref h10, .ref h11, .ref h12]), (h7, aI (k 0) 8 anI), (h11, aJ (k 1) 9 anJ), (h13, aJ (k 1) 36 anJ), (h1, ob 4 [.int h1f0, .int h1f1, .int h1f2, .ref h13])] _ := hT
          refine lv_if_eq (tgt := 44) hx hb dX10_unit_38 (by decide) (fun cc => absurd cc (by decide +kernel)) (fun _ => ?_)
          refine lv_bipush (v := (-2)) hx hb dX10_unit_41 (by decide) ?_
          exact tz_retI (B := B_cX10_unit_7ca42 D k h0 h1 h7 h11 h13 h2 h3 h4 h5 h6 h8 h9 h10 h12 x1 x2 x3 h0f2 h0f6 h0f8 h0f11 h1f0 h1f1 h1f2) (v := (-2)) hQ hx hb hr hlocks hS (Nat.le_of_ble_eq_true rfl) (Nat.le_of_ble_eq_true rfl) dX10_unit_43 (⟨h0f6, h0f8, h1f1, (by have := li_m2; omega), (by have := li_m2; omega), (by have := li_m2; omega), (by have := li_m2; omega), (hT.sub [0, 4, 1, 2, 3] (by decide) rfl)⟩)
      · skip
        have c_9 := ni_eq c_9 rfl li_0
        refine lv_iconst (v := (-1)) hx hb dX10_unit_29 (by decide) ?_
        exact tz_retI (B := B_cX10_unit_7ca42 D k h0 h1 h7 h11 h13 h2 h3 h4 h5 h6 h8 h9 h10 h12 x1 x2 x3 h0f2 h0f6 h0f8 h0f11 h1f0 h1f1 h1f2) (v := (-1)) hQ hx hb hr hlocks hS (Nat.le_of_ble_eq_true rfl) (Nat.le_of_ble_eq_true rfl) dX10_unit_30 (⟨h0f6, h0f8, h1f1, (by have := li_m1; omega), (by have := li_m1; omega), (by have := li_m1; omega), (by have := li_m1; omega), (hT.sub [0, 4, 1, 2, 3] (by decide) rfl)⟩)
    · skip
      have c_6 := ni_eq c_6 rfl rfl
      refine lv_iconst (v := 1) hx hb dX10_unit_17 (by decide) ?_
      refine lv_goto (tgt := 22) hx hb dX10_unit_18 (by decide) ?_
      refine lv_iload_n hx hb dX10_unit_22 rfl (lv_at hl 3 rfl) ?_
      have q_q15 := li_1
      refine tcI (Tc := []) (Tr := [(h0, ob 7 [.ref h1, .ref h2, .int h0f2, .ref h3, .ref h4, .ref h5, .int h0f6, .ref h6, .int h0f8, .null, .ref h7, .int h0f11, .ref h8, .ref h9, .ref h10, .ref h11, .ref h12]), (h7, aI (k 0) 8 anI), (h11, aJ (k 1) 9 anJ), (h13, aJ (k 1) 36 anJ), (h1, ob 4 [.int h1f0, .int h1f1, .int h1f2, .ref h13])]) (as := []) (zcS (As := [.int 1, .int x3]) (rest := []) (Tc := []) hx hb hml hown hU hK hT [] rfl (by decide) (cX10_fitsUnit_ac2a1 l D k _ (1) x3 (by have := li_1; omega)) w322 w320 w321 w63 hdX10_fitsUnit ⟨rfl, rfl⟩ ⟨Nat.le_of_ble_eq_true rfl, Nat.le_of_ble_eq_true rfl⟩ rfl hl.1 (Nat.le_of_ble_eq_true rfl) dX10_unit_23 ⟨Nat.le_of_ble_eq_true rfl, Nat.le_of_ble_eq_true rfl⟩) hT hS hA [] [0, 1, 2, 3, 4] rfl rfl rfl (by decide) (by decide) (fun r14 H locs hB J hS => ?_)
      obtain ⟨b_r14, hT1⟩ := hB
      have hT := J _ hT1
      have hT : TP D A [(h0, ob 7 [.ref h1, .ref h2, .int h0f2, .ref h3, .ref h4, .ref h5, .int h0f6, .ref h6, .int h0f8, .null, .ref h7, .int h0f11, .ref h8, .ref h9, .ref h10, .ref h11, .ref h12]), (h7, aI (k 0) 8 anI), (h11, aJ (k 1) 9 anJ), (h13, aJ (k 1) 36 anJ), (h1, ob 4 [.int h1f0, .int h1f1, .int h1f2, .ref h13])] _ := hT
      refine lv_if_ne (tgt := 31) hx hb dX10_unit_26 (by decide) (fun c_16 => ?_) (fun c_16 => ?_)
      · skip
        have c_16 := ni_ne c_16 rfl li_0
        refine lv_aload_n hx hb dX10_unit_31 rfl (lv_at hl 0 rfl) ?_
        refine tz_get (ci := 7) (v := .ref h1) (C := RX10) (F := TX10) (N := 17) hx hb hU iX10 hown hK hT 0 rfl rfl 0 (by decide) w249 (fun _ h9 => h9) rfl dX10_unit_32 ?_
        refine tcI (Tc := [(h1, ob 4 [.int h1f0, .int h1f1, .int h1f2, .ref h13])]) (Tr := [(h0, ob 7 [.ref h1, .ref h2, .int h0f2, .ref h3, .ref h4, .ref h5, .int h0f6, .ref h6, .int h0f8, .null, .ref h7, .int h0f11, .ref h8, .ref h9, .ref h10, .ref h11, .ref h12]), (h7, aI (k 0) 8 anI), (h11, aJ (k 1) 9 anJ), (h13, aJ (k 1) 36 anJ)]) (as := [h1]) (zcV (q0 := 4) (ci := 4) (As := []) (rest := []) (Tc := [(h1, ob 4 [.int h1f0, .int h1f1, .int h1f2, .ref h13])]) hx hb hml hown hU hK hT rfl rfl [4] rfl (by decide) (cX5_isFull_cc49c l D k _ h1 h13 h1f0 h1f1 h1f2 (by omega) (by omega)) w326 w323 w324 w325 w64 hdX5_isFull ⟨rfl, rfl⟩ ⟨Nat.le_of_ble_eq_true rfl, Nat.le_of_ble_eq_true rfl⟩ rfl hl.1 (Nat.le_of_ble_eq_true rfl) dX10_unit_35 ⟨Nat.le_of_ble_eq_true rfl, Nat.le_of_ble_eq_true rfl⟩) hT hS hA [4] [0, 1, 2, 3] rfl rfl rfl (by decide) (by decide) (fun r17 H locs hB J hS => ?_)
        rcases hB with ⟨c_18, rfl, hT1⟩ | ⟨rfl, hT1⟩
        · skip
          have hT := J _ hT1
          have hT : TP D A [(h0, ob 7 [.ref h1, .ref h2, .int h0f2, .ref h3, .ref h4, .ref h5, .int h0f6, .ref h6, .int h0f8, .null, .ref h7, .int h0f11, .ref h8, .ref h9, .ref h10, .ref h11, .ref h12]), (h7, aI (k 0) 8 anI), (h11, aJ (k 1) 9 anJ), (h13, aJ (k 1) 36 anJ), (h1, ob 4 [.int h1f0, .int h1f1, .int h1f2, .ref h13])] _ := hT
          refine lv_if_eq (tgt := 44) hx hb dX10_unit_38 (by decide) (fun _ => ?_) (fun cc => absurd (by decide +kernel) cc)
          refine lv_aload_n hx hb dX10_unit_44 rfl (lv_at hl 0 rfl) ?_
          refine lv_iload_n hx hb dX10_unit_45 rfl (lv_at hl 1 rfl) ?_
          refine lv_iload_n hx hb dX10_unit_46 rfl (lv_at hl 2 rfl) ?_
          refine lv_iload_n hx hb dX10_unit_47 rfl (lv_at hl 3 rfl) ?_
          refine tcI (Tc := [(h0, ob 7 [.ref h1, .ref h2, .int h0f2, .ref h3, .ref h4, .ref h5, .int h0f6, .ref h6, .int h0f8, .null, .ref h7, .int h0f11, .ref h8, .ref h9, .ref h10, .ref h11, .ref h12]), (h1, ob 4 [.int h1f0, .int h1f1, .int h1f2, .ref h13]), (h7, aI (k 0) 8 anI), (h11, aJ (k 1) 9 anJ), (h13, aJ (k 1) 36 anJ)]) (Tr := []) (as := [h0, h1, h7, h11, h13]) (zcV (q0 := 0) (ci := 7) (As := [.int x1, .int x2, .int x3]) (rest := []) (Tc := [(h0, ob 7 [.ref h1, .ref h2, .int h0f2, .ref h3, .ref h4, .ref h5, .int h0f6, .ref h6, .int h0f8, .null, .ref h7, .int h0f11, .ref h8, .ref h9, .ref h10, .ref h11, .ref h12]), (h1, ob 4 [.int h1f0, .int h1f1, .int h1f2, .ref h13]), (h7, aI (k 0) 8 anI), (h11, aJ (k 1) 9 anJ), (h13, aJ (k 1) 36 anJ)]) hx hb hml hown hU hK hT rfl rfl [0, 4, 1, 2, 3] rfl (by decide) (cX10_addUnit_1025d l D k _ h0 h1 h7 h11 h13 h2 h3 h4 h5 h6 h8 h9 h10 h12 x1 x2 x3 h0f2 h0f6 h0f8 h0f11 h1f0 h1f1 h1f2 (by omega) (by omega) (by omega) (by omega) (by omega) (by omega) (by omega) (by omega)) w330 w327 w329 w1 w63 hdX10_addUnit ⟨rfl, rfl⟩ ⟨Nat.le_of_ble_eq_true rfl, Nat.le_of_ble_eq_true rfl⟩ rfl hl.1 (Nat.le_of_ble_eq_true rfl) dX10_unit_48 ⟨Nat.le_of_ble_eq_true rfl, Nat.le_of_ble_eq_true rfl⟩) hT hS hA [0, 4, 1, 2, 3] [] rfl rfl rfl (by decide) (by decide) (fun r19 H locs hB J hS => ?_)
          obtain ⟨v20, b_v20, b_r19, hT1⟩ := hB
          have hT := J _ hT1
          have hT : TP D A [(h0, ob 7 [.ref h1, .ref h2, .int h0f2, .ref h3, .ref h4, .ref h5, .int 0, .ref h6, .int 0, .null, .ref h7, .int h0f11, .ref h8, .ref h9, .ref h10, .ref h11, .ref h12]), (h1, ob 4 [.int h1f0, .int v20, .int h1f2, .ref h13]), (h7, aI (k 0) 8 anI), (h11, aJ (k 1) 9 anJ), (h13, aJ (k 1) 36 anJ)] _ := hT
          exact tz_retI (B := B_cX10_unit_7ca42 D k h0 h1 h7 h11 h13 h2 h3 h4 h5 h6 h8 h9 h10 h12 x1 x2 x3 h0f2 h0f6 h0f8 h0f11 h1f0 h1f1 h1f2) (v := r19) hQ hx hb hr hlocks hS (Nat.le_of_ble_eq_true rfl) (Nat.le_of_ble_eq_true rfl) dX10_unit_51 (⟨0, 0, v20, (by have := li_0; omega), (by have := li_0; omega), (by have := li_0; omega), (by have := li_0; omega), hT⟩)
        · skip
          have hT := J _ hT1
          have hT : TP D A [(h0, ob 7 [.ref h1, .ref h2, .int h0f2, .ref h3, .ref h4, .ref h5, .int h0f6, .ref h6, .int h0f8, .null, .ref h7, .int h0f11, .ref h8, .ref h9, .ref h10, .ref h11, .ref h12]), (h7, aI (k 0) 8 anI), (h11, aJ (k 1) 9 anJ), (h13, aJ (k 1) 36 anJ), (h1, ob 4 [.int h1f0, .int h1f1, .int h1f2, .ref h13])] _ := hT
          refine lv_if_eq (tgt := 44) hx hb dX10_unit_38 (by decide) (fun cc => absurd cc (by decide +kernel)) (fun _ => ?_)
          refine lv_bipush (v := (-2)) hx hb dX10_unit_41 (by decide) ?_
          exact tz_retI (B := B_cX10_unit_7ca42 D k h0 h1 h7 h11 h13 h2 h3 h4 h5 h6 h8 h9 h10 h12 x1 x2 x3 h0f2 h0f6 h0f8 h0f11 h1f0 h1f1 h1f2) (v := (-2)) hQ hx hb hr hlocks hS (Nat.le_of_ble_eq_true rfl) (Nat.le_of_ble_eq_true rfl) dX10_unit_43 (⟨h0f6, h0f8, h1f1, (by have := li_m2; omega), (by have := li_m2; omega), (by have := li_m2; omega), (by have := li_m2; omega), (hT.sub [0, 4, 1, 2, 3] (by decide) rfl)⟩)
      · skip
        have c_16 := ni_eq c_16 rfl li_0
        refine lv_iconst (v := (-1)) hx hb dX10_unit_29 (by decide) ?_
        exact tz_retI (B := B_cX10_unit_7ca42 D k h0 h1 h7 h11 h13 h2 h3 h4 h5 h6 h8 h9 h10 h12 x1 x2 x3 h0f2 h0f6 h0f8 h0f11 h1f0 h1f1 h1f2) (v := (-1)) hQ hx hb hr hlocks hS (Nat.le_of_ble_eq_true rfl) (Nat.le_of_ble_eq_true rfl) dX10_unit_30 (⟨h0f6, h0f8, h1f1, (by have := li_m1; omega), (by have := li_m1; omega), (by have := li_m1; omega), (by have := li_m1; omega), (hT.sub [0, 4, 1, 2, 3] (by decide) rfl)⟩)
abbrev Rm_cX10_addSquare_786bd : Room := { frames := 2, cells := 0, slots := 0, locals := 47 }
abbrev B_cX10_addSquare_786bd (D : va_G) (k : Nat → ClassId) (h0 h1 h8 h12 h14 h2 h3 h4 h5 h6 h7 h9 h10 h11 h13 : Nat) (h0f2 : Int32) (h0f6 : Int32) (h0f8 : Int32) (h0f11 : Int32) (h1f0 : Int32) (h1f1 : Int32) (h1f2 : Int32) (A : Nat → Prop) (r : Int32) (H : Heap) : Prop := ∃ o0 : Int32, (0 ≤ o0.toInt ∧ o0.toInt ≤ 4) ∧ ((-2) ≤ r.toInt ∧ r.toInt ≤ 3) ∧ TP D A [(h0, ob 7 [.ref h1, .ref h2, .int h0f2, .ref h3, .ref h4, .ref h5, .int 0, .ref h6, .int 0, .ref h7, .ref h8, .int h0f11, .ref h9, .ref h10, .ref h11, .ref h12, .ref h13]), (h1, ob 4 [.int h1f0, .int o0, .int h1f2, .ref h14]), (h8, aI (k 0) 8 anI), (h12, aJ (k 1) 9 anJ), (h14, aJ (k 1) 36 anJ)] H
set_option maxHeartbeats 4000000 in
set_option maxRecDepth 100000 in
theorem cX10_addSquare_786bd (l : Launch) (D : va_G) (k : Nat → ClassId) (sz : Nat) (h0 h1 h8 h12 h14 h2 h3 h4 h5 h6 h7 h9 h10 h11 h13 : Nat) (h0f2 : Int32) (h0f6 : Int32) (h0f8 : Int32) (h0f11 : Int32) (h1f0 : Int32) (h1f1 : Int32) (h1f2 : Int32) (b_h0f2 : 0 ≤ h0f2.toInt ∧ h0f2.toInt ≤ 1) (b_h0f6 : 0 ≤ h0f6.toInt ∧ h0f6.toInt ≤ 1) (b_h0f8 : 0 ≤ h0f8.toInt ∧ h0f8.toInt ≤ 1) (b_h0f11 : 0 ≤ h0f11.toInt ∧ h0f11.toInt ≤ 200) (b_h1f0 : 1 ≤ h1f0.toInt ∧ h1f0.toInt ≤ 3) (b_h1f1 : 0 ≤ h1f1.toInt ∧ h1f1.toInt ≤ 3) : Met l yX10_addSquare (Cond.code yX10_addSquare cX10_addSquare 2 (some .int) :: uw) Rm_cX10_addSquare_786bd (pT D k sz [.ref h0] [(h0, ob 7 [.ref h1, .ref h2, .int h0f2, .ref h3, .ref h4, .ref h5, .int h0f6, .ref h6, .int h0f8, .ref h7, .ref h8, .int h0f11, .ref h9, .ref h10, .ref h11, .ref h12, .ref h13]), (h1, ob 4 [.int h1f0, .int h1f1, .int h1f2, .ref h14]), (h8, aI (k 0) 8 anI), (h12, aJ (k 1) 9 anJ), (h14, aJ (k 1) 36 anJ)]) (qI (B_cX10_addSquare_786bd D k h0 h1 h8 h12 h14 h2 h3 h4 h5 h6 h7 h9 h10 h11 h13 h0f2 h0f6 h0f8 h0f11 h1f0 h1f1 h1f2 (zA [h0, h1, h8, h12, h14] sz)) (zA [h0, h1, h8, h12, h14] sz)) 0 0 (zA [h0, h1, h8, h12, h14] sz) := by
  refine tz_begin (as := [h0, h1, h8, h12, h14]) (Qc := fun A => qI (B_cX10_addSquare_786bd D k h0 h1 h8 h12 h14 h2 h3 h4 h5 h6 h7 h9 h10 h11 h13 h0f2 h0f6 h0f8 h0f11 h1f0 h1f1 h1f2 A) A) (by decide +kernel) rfl (Nat.le_of_ble_eq_true rfl) ?_
  intro p e s m args below meth c ls A Q hx hb hr hml hown hlocks hin hU hK hT hS hA hl hQ
  have hl : lv_has ls 2 [(0, .ref h0)] := hl
  have hT : TP D A [(h0, ob 7 [.ref h1, .ref h2, .int h0f2, .ref h3, .ref h4, .ref h5, .int h0f6, .ref h6, .int h0f8, .ref h7, .ref h8, .int h0f11, .ref h9, .ref h10, .ref h11, .ref h12, .ref h13]), (h1, ob 4 [.int h1f0, .int h1f1, .int h1f2, .ref h14]), (h8, aI (k 0) 8 anI), (h12, aJ (k 1) 9 anJ), (h14, aJ (k 1) 36 anJ)] s.heap := hT
  refine lv_aload_n hx hb dX10_addSquare_0 rfl (lv_at hl 0 rfl) ?_
  refine tz_get (ci := 7) (v := .ref h1) (C := RX10) (F := TX10) (N := 17) hx hb hU iX10 hown hK hT 0 rfl rfl 0 (by decide) w249 (fun _ h9 => h9) rfl dX10_addSquare_1 ?_
  refine lv_aload_n hx hb dX10_addSquare_4 rfl (lv_at hl 0 rfl) ?_
  refine tz_get (ci := 7) (v := .ref h12) (C := RX10) (F := TX10) (N := 17) hx hb hU iX10 hown hK hT 0 rfl rfl 15 (by decide) w264 (fun _ h9 => h9) rfl dX10_addSquare_5 ?_
  refine tcI (Tc := [(h1, ob 4 [.int h1f0, .int h1f1, .int h1f2, .ref h14]), (h12, aJ (k 1) 9 anJ), (h14, aJ (k 1) 36 anJ)]) (Tr := [(h0, ob 7 [.ref h1, .ref h2, .int h0f2, .ref h3, .ref h4, .ref h5, .int h0f6, .ref h6, .int h0f8, .ref h7, .ref h8, .int h0f11, .ref h9, .ref h10, .ref h11, .ref h12, .ref h13]), (h8, aI (k 0) 8 anI)]) (as := [h1, h12, h14]) (zcV (q0 := 1) (ci := 4) (As := [.ref h12]) (rest := []) (Tc := [(h1, ob 4 [.int h1f0, .int h1f1, .int h1f2, .ref h14]), (h12, aJ (k 1) 9 anJ), (h14, aJ (k 1) 36 anJ)]) hx hb hml hown hU hK hT rfl rfl [1, 3, 4] rfl (by decide) (cX5_append_eb78b l D k _ h1 h12 h14 h1f0 h1f1 h1f2 (by omega) (by omega)) w344 w341 w342 w343 w64 hdX5_append ⟨rfl, rfl⟩ ⟨Nat.le_of_ble_eq_true rfl, Nat.le_of_ble_eq_true rfl⟩ rfl hl.1 (Nat.le_of_ble_eq_true rfl) dX10_addSquare_8 ⟨Nat.le_of_ble_eq_true rfl, Nat.le_of_ble_eq_true rfl⟩) hT hS hA [1, 3, 4] [0, 2] rfl rfl rfl (by decide) (by decide) (fun r1 H locs hB J hS => ?_)
  obtain ⟨v2, b_v2, b_r1, hT1⟩ := hB
  have hT := J _ hT1
  have hT : TP D A [(h0, ob 7 [.ref h1, .ref h2, .int h0f2, .ref h3, .ref h4, .ref h5, .int h0f6, .ref h6, .int h0f8, .ref h7, .ref h8, .int h0f11, .ref h9, .ref h10, .ref h11, .ref h12, .ref h13]), (h8, aI (k 0) 8 anI), (h1, ob 4 [.int h1f0, .int v2, .int h1f2, .ref h14]), (h12, aJ (k 1) 9 anJ), (h14, aJ (k 1) 36 anJ)] _ := hT
  refine lv_istore_n (lv' := [(1, .int r1), (0, .ref h0)]) hx hb dX10_addSquare_11 rfl hl (by decide) rfl (fun ls hl => ?_)
  refine lv_aload_n hx hb dX10_addSquare_12 rfl (lv_at hl 1 rfl) ?_
  refine tcV (Tc := [(h0, ob 7 [.ref h1, .ref h2, .int h0f2, .ref h3, .ref h4, .ref h5, .int h0f6, .ref h6, .int h0f8, .ref h7, .ref h8, .int h0f11, .ref h9, .ref h10, .ref h11, .ref h12, .ref h13]), (h8, aI (k 0) 8 anI)]) (Tr := [(h1, ob 4 [.int h1f0, .int v2, .int h1f2, .ref h14]), (h12, aJ (k 1) 9 anJ), (h14, aJ (k 1) 36 anJ)]) (as := [h0, h8]) (zcV (q0 := 0) (ci := 7) (As := []) (rest := []) (Tc := [(h0, ob 7 [.ref h1, .ref h2, .int h0f2, .ref h3, .ref h4, .ref h5, .int h0f6, .ref h6, .int h0f8, .ref h7, .ref h8, .int h0f11, .ref h9, .ref h10, .ref h11, .ref h12, .ref h13]), (h8, aI (k 0) 8 anI)]) hx hb hml hown hU hK hT rfl rfl [0, 1] rfl (by decide) (cX10_forgetWhatCame_69e3b l D k _ h0 h8 h1 h2 h3 h4 h5 h6 h7 h9 h10 h11 h12 h13 h0f2 h0f6 h0f8 h0f11 (by omega) (by omega) (by omega) (by omega)) w308 w305 w307 w0 w63 hdX10_forgetWhatCame ⟨rfl, rfl⟩ ⟨Nat.le_of_ble_eq_true rfl, Nat.le_of_ble_eq_true rfl⟩ rfl hl.1 (Nat.le_of_ble_eq_true rfl) dX10_addSquare_13 ⟨Nat.le_of_ble_eq_true rfl, Nat.le_of_ble_eq_true rfl⟩) hT hS hA [0, 1] [2, 3, 4] rfl rfl rfl (by decide) (by decide) (fun H locs hB J hS => ?_)
  have hT1 := hB
  have hT := J _ hT1
  have hT : TP D A [(h1, ob 4 [.int h1f0, .int v2, .int h1f2, .ref h14]), (h12, aJ (k 1) 9 anJ), (h14, aJ (k 1) 36 anJ), (h0, ob 7 [.ref h1, .ref h2, .int h0f2, .ref h3, .ref h4, .ref h5, .int 0, .ref h6, .int 0, .ref h7, .ref h8, .int h0f11, .ref h9, .ref h10, .ref h11, .ref h12, .ref h13]), (h8, aI (k 0) 8 anI)] _ := hT
  refine lv_iload_n hx hb dX10_addSquare_16 rfl (lv_at hl 0 rfl) ?_
  exact tz_retI (B := B_cX10_addSquare_786bd D k h0 h1 h8 h12 h14 h2 h3 h4 h5 h6 h7 h9 h10 h11 h13 h0f2 h0f6 h0f8 h0f11 h1f0 h1f1 h1f2) (v := r1) hQ hx hb hr hlocks hS (Nat.le_of_ble_eq_true rfl) (Nat.le_of_ble_eq_true rfl) dX10_addSquare_17 (⟨v2, (by omega), (by omega), (hT.sub [3, 0, 4, 1, 2] (by decide) rfl)⟩)
abbrev Rm_cX10_addUnit_b7933 : Room := { frames := 3, cells := 0, slots := 0, locals := 68 }
abbrev B_cX10_addUnit_b7933 (D : va_G) (k : Nat → ClassId) (h0 h1 h8 h12 h14 h2 h3 h4 h5 h6 h7 h9 h10 h11 h13 : Nat) (x1 : Int32) (x2 : Int32) (x3 : Int32) (h0f2 : Int32) (h0f6 : Int32) (h0f8 : Int32) (h0f11 : Int32) (h1f0 : Int32) (h1f1 : Int32) (h1f2 : Int32) (A : Nat → Prop) (r : Int32) (H : Heap) : Prop := ∃ o0 : Int32, (0 ≤ o0.toInt ∧ o0.toInt ≤ 4) ∧ ((-2) ≤ r.toInt ∧ r.toInt ≤ 3) ∧ TP D A [(h0, ob 7 [.ref h1, .ref h2, .int h0f2, .ref h3, .ref h4, .ref h5, .int 0, .ref h6, .int 0, .ref h7, .ref h8, .int h0f11, .ref h9, .ref h10, .ref h11, .ref h12, .ref h13]), (h1, ob 4 [.int h1f0, .int o0, .int h1f2, .ref h14]), (h8, aI (k 0) 8 anI), (h12, aJ (k 1) 9 anJ), (h14, aJ (k 1) 36 anJ)] H
set_option maxHeartbeats 4000000 in
set_option maxRecDepth 100000 in
theorem cX10_addUnit_b7933 (l : Launch) (D : va_G) (k : Nat → ClassId) (sz : Nat) (h0 h1 h8 h12 h14 h2 h3 h4 h5 h6 h7 h9 h10 h11 h13 : Nat) (x1 : Int32) (x2 : Int32) (x3 : Int32) (h0f2 : Int32) (h0f6 : Int32) (h0f8 : Int32) (h0f11 : Int32) (h1f0 : Int32) (h1f1 : Int32) (h1f2 : Int32) (b_x1 : 0 ≤ x1.toInt ∧ x1.toInt ≤ 2) (b_x2 : 0 ≤ x2.toInt ∧ x2.toInt ≤ 2) (b_h0f2 : 0 ≤ h0f2.toInt ∧ h0f2.toInt ≤ 1) (b_h0f6 : 0 ≤ h0f6.toInt ∧ h0f6.toInt ≤ 1) (b_h0f8 : 0 ≤ h0f8.toInt ∧ h0f8.toInt ≤ 1) (b_h0f11 : 0 ≤ h0f11.toInt ∧ h0f11.toInt ≤ 200) (b_h1f0 : 1 ≤ h1f0.toInt ∧ h1f0.toInt ≤ 3) (b_h1f1 : 0 ≤ h1f1.toInt ∧ h1f1.toInt ≤ 3) : Met l yX10_addUnit (Cond.code yX10_addUnit cX10_addUnit 4 (some .int) :: uw) Rm_cX10_addUnit_b7933 (pT D k sz [.ref h0, .int x1, .int x2, .int x3] [(h0, ob 7 [.ref h1, .ref h2, .int h0f2, .ref h3, .ref h4, .ref h5, .int h0f6, .ref h6, .int h0f8, .ref h7, .ref h8, .int h0f11, .ref h9, .ref h10, .ref h11, .ref h12, .ref h13]), (h1, ob 4 [.int h1f0, .int h1f1, .int h1f2, .ref h14]), (h8, aI (k 0) 8 anI), (h12, aJ (k 1) 9 anJ), (h14, aJ (k 1) 36 anJ)]) (qI (B_cX10_addUnit_b7933 D k h0 h1 h8 h12 h14 h2 h3 h4 h5 h6 h7 h9 h10 h11 h13 x1 x2 x3 h0f2 h0f6 h0f8 h0f11 h1f0 h1f1 h1f2 (zA [h0, h1, h8, h12, h14] sz)) (zA [h0, h1, h8, h12, h14] sz)) 0 0 (zA [h0, h1, h8, h12, h14] sz) := by
  refine tz_begin (as := [h0, h1, h8, h12, h14]) (Qc := fun A => qI (B_cX10_addUnit_b7933 D k h0 h1 h8 h12 h14 h2 h3 h4 h5 h6 h7 h9 h10 h11 h13 x1 x2 x3 h0f2 h0f6 h0f8 h0f11 h1f0 h1f1 h1f2 A) A) (by decide +kernel) rfl (Nat.le_of_ble_eq_true rfl) ?_
  intro p e s m args below meth c ls A Q hx hb hr hml hown hlocks hin hU hK hT hS hA hl hQ
  have hl : lv_has ls 4 [(0, .ref h0), (1, .int x1), (2, .int x2), (3, .int x3)] := hl
  have hT : TP D A [(h0, ob 7 [.ref h1, .ref h2, .int h0f2, .ref h3, .ref h4, .ref h5, .int h0f6, .ref h6, .int h0f8, .ref h7, .ref h8, .int h0f11, .ref h9, .ref h10, .ref h11, .ref h12, .ref h13]), (h1, ob 4 [.int h1f0, .int h1f1, .int h1f2, .ref h14]), (h8, aI (k 0) 8 anI), (h12, aJ (k 1) 9 anJ), (h14, aJ (k 1) 36 anJ)] s.heap := hT
  refine lv_aload_n hx hb dX10_addUnit_0 rfl (lv_at hl 0 rfl) ?_
  refine tz_get (ci := 7) (v := .ref h12) (C := RX10) (F := TX10) (N := 17) hx hb hU iX10 hown hK hT 0 rfl rfl 15 (by decide) w264 (fun _ h9 => h9) rfl dX10_addUnit_1 ?_
  refine lv_aload_n hx hb dX10_addUnit_4 rfl (lv_at hl 0 rfl) ?_
  refine tz_get (ci := 7) (v := .ref h1) (C := RX10) (F := TX10) (N := 17) hx hb hU iX10 hown hK hT 0 rfl rfl 0 (by decide) w249 (fun _ h9 => h9) rfl dX10_addUnit_5 ?_
  refine tz_get (ci := 4) (v := .int h1f0) (C := RX5) (F := TX5) (N := 4) hx hb hU iX5 hown hK hT 1 rfl rfl 0 (by decide) w93 (fun _ h9 => h9) rfl dX10_addUnit_8 ?_
  refine tcV (Tc := [(h12, aJ (k 1) 9 anJ)]) (Tr := [(h0, ob 7 [.ref h1, .ref h2, .int h0f2, .ref h3, .ref h4, .ref h5, .int h0f6, .ref h6, .int h0f8, .ref h7, .ref h8, .int h0f11, .ref h9, .ref h10, .ref h11, .ref h12, .ref h13]), (h1, ob 4 [.int h1f0, .int h1f1, .int h1f2, .ref h14]), (h8, aI (k 0) 8 anI), (h14, aJ (k 1) 36 anJ)]) (as := [h12]) (zcS (As := [.ref h12, .int h1f0]) (rest := []) (Tc := [(h12, aJ (k 1) 9 anJ)]) hx hb hml hown hU hK hT [3] rfl (by decide) (cX7_becomeOne_9e486 l D k _ h12 h1f0 (by omega)) w333 w331 w332 w74 hdX7_becomeOne ⟨rfl, rfl⟩ ⟨Nat.le_of_ble_eq_true rfl, Nat.le_of_ble_eq_true rfl⟩ rfl hl.1 (Nat.le_of_ble_eq_true rfl) dX10_addUnit_11 ⟨Nat.le_of_ble_eq_true rfl, Nat.le_of_ble_eq_true rfl⟩) hT hS hA [3] [0, 1, 2, 4] rfl rfl rfl (by decide) (by decide) (fun H locs hB J hS => ?_)
  have hT1 := hB
  have hT := J _ hT1
  have hT : TP D A [(h0, ob 7 [.ref h1, .ref h2, .int h0f2, .ref h3, .ref h4, .ref h5, .int h0f6, .ref h6, .int h0f8, .ref h7, .ref h8, .int h0f11, .ref h9, .ref h10, .ref h11, .ref h12, .ref h13]), (h1, ob 4 [.int h1f0, .int h1f1, .int h1f2, .ref h14]), (h8, aI (k 0) 8 anI), (h14, aJ (k 1) 36 anJ), (h12, aJ (k 1) 9 anJ)] _ := hT
  refine lv_aload_n hx hb dX10_addUnit_14 rfl (lv_at hl 0 rfl) ?_
  refine tz_get (ci := 7) (v := .ref h12) (C := RX10) (F := TX10) (N := 17) hx hb hU iX10 hown hK hT 0 rfl rfl 15 (by decide) w264 (fun _ h9 => h9) rfl dX10_addUnit_15 ?_
  refine lv_iload_n hx hb dX10_addUnit_18 rfl (lv_at hl 1 rfl) ?_
  refine lv_aload_n hx hb dX10_addUnit_19 rfl (lv_at hl 0 rfl) ?_
  refine tz_get (ci := 7) (v := .ref h1) (C := RX10) (F := TX10) (N := 17) hx hb hU iX10 hown hK hT 0 rfl rfl 0 (by decide) w249 (fun _ h9 => h9) rfl dX10_addUnit_20 ?_
  refine tz_get (ci := 4) (v := .int h1f0) (C := RX5) (F := TX5) (N := 4) hx hb hU iX5 hown hK hT 1 rfl rfl 0 (by decide) w93 (fun _ h9 => h9) rfl dX10_addUnit_23 ?_
  refine lv_imul hx hb dX10_addUnit_26 (lv_topi (fun v2 e_v2 => ?_))
  have e_v2 := ai_mm (la := 0) (ua := 2) (lb := 1) (ub := 3) e_v2 rfl rfl (by omega) (by decide)
  refine lv_iload_n hx hb dX10_addUnit_27 rfl (lv_at hl 2 rfl) ?_
  refine lv_iadd hx hb dX10_addUnit_28 (lv_topi (fun v3 e_v3 => ?_))
  have e_v3 := ai_add e_v3 rfl rfl (by omega)
  refine lv_iload_n hx hb dX10_addUnit_29 rfl (lv_at hl 3 rfl) ?_
  have tb_x3 := i32b x3
  obtain ⟨v4, e_v4⟩ : ∃ x : Int64, x3.toInt64 = x := ⟨_, rfl⟩
  refine lv_i2l (v := v4) hx hb dX10_addUnit_30 e_v4 ?_
  have e_v4 := ai_i2l e_v4 rfl
  refine tz_last hx hb hK hT hS 4 rfl (by omega) (fun _ _ => trivial) dX10_addUnit_31 (fun H locs hT hS => ?_)
  refine lv_aload_n hx hb dX10_addUnit_32 rfl (lv_at hl 0 rfl) ?_
  refine tcI (Tc := [(h0, ob 7 [.ref h1, .ref h2, .int h0f2, .ref h3, .ref h4, .ref h5, .int h0f6, .ref h6, .int h0f8, .ref h7, .ref h8, .int h0f11, .ref h9, .ref h10, .ref h11, .ref h12, .ref h13]), (h1, ob 4 [.int h1f0, .int h1f1, .int h1f2, .ref h14]), (h8, aI (k 0) 8 anI), (h12, aJ (k 1) 9 anJ), (h14, aJ (k 1) 36 anJ)]) (Tr := []) (as := [h0, h1, h8, h12, h14]) (zcV (q0 := 0) (ci := 7) (As := []) (rest := []) (Tc := [(h0, ob 7 [.ref h1, .ref h2, .int h0f2, .ref h3, .ref h4, .ref h5, .int h0f6, .ref h6, .int h0f8, .ref h7, .ref h8, .int h0f11, .ref h9, .ref h10, .ref h11, .ref h12, .ref h13]), (h1, ob 4 [.int h1f0, .int h1f1, .int h1f2, .ref h14]), (h8, aI (k 0) 8 anI), (h12, aJ (k 1) 9 anJ), (h14, aJ (k 1) 36 anJ)]) hx hb hml hown hU hK hT rfl rfl [0, 1, 2, 4, 3] rfl (by decide) (cX10_addSquare_786bd l D k _ h0 h1 h8 h12 h14 h2 h3 h4 h5 h6 h7 h9 h10 h11 h13 h0f2 h0f6 h0f8 h0f11 h1f0 h1f1 h1f2 (by omega) (by omega) (by omega) (by omega) (by omega) (by omega)) w340 w337 w339 w2 w63 hdX10_addSquare ⟨rfl, rfl⟩ ⟨Nat.le_of_ble_eq_true rfl, Nat.le_of_ble_eq_true rfl⟩ rfl hl.1 (Nat.le_of_ble_eq_true rfl) dX10_addUnit_33 ⟨Nat.le_of_ble_eq_true rfl, Nat.le_of_ble_eq_true rfl⟩) hT hS hA [0, 1, 2, 4, 3] [] rfl rfl rfl (by decide) (by decide) (fun r5 H locs hB J hS => ?_)
  obtain ⟨v6, b_v6, b_r5, hT1⟩ := hB
  have hT := J _ hT1
  have hT : TP D A [(h0, ob 7 [.ref h1, .ref h2, .int h0f2, .ref h3, .ref h4, .ref h5, .int 0, .ref h6, .int 0, .ref h7, .ref h8, .int h0f11, .ref h9, .ref h10, .ref h11, .ref h12, .ref h13]), (h1, ob 4 [.int h1f0, .int v6, .int h1f2, .ref h14]), (h8, aI (k 0) 8 anI), (h12, aJ (k 1) 9 anJ), (h14, aJ (k 1) 36 anJ)] _ := hT
  exact tz_retI (B := B_cX10_addUnit_b7933 D k h0 h1 h8 h12 h14 h2 h3 h4 h5 h6 h7 h9 h10 h11 h13 x1 x2 x3 h0f2 h0f6 h0f8 h0f11 h1f0 h1f1 h1f2) (v := r5) hQ hx hb hr hlocks hS (Nat.le_of_ble_eq_true rfl) (Nat.le_of_ble_eq_true rfl) dX10_addUnit_36 (⟨v6, (by omega), (by omega), hT⟩)
abbrev Rm_cX10_unit_1ffc0 : Room := { frames := 4, cells := 0, slots := 0, locals := 91 }
abbrev B_cX10_unit_1ffc0 (D : va_G) (k : Nat → ClassId) (h0 h1 h8 h12 h14 h2 h3 h4 h5 h6 h7 h9 h10 h11 h13 : Nat) (x1 : Int32) (x2 : Int32) (x3 : Int32) (h0f2 : Int32) (h0f6 : Int32) (h0f8 : Int32) (h0f11 : Int32) (h1f0 : Int32) (h1f1 : Int32) (h1f2 : Int32) (A : Nat → Prop) (r : Int32) (H : Heap) : Prop := ∃ o0 : Int32, ∃ o1 : Int32, ∃ o2 : Int32, (0 ≤ o0.toInt ∧ o0.toInt ≤ 1) ∧ (0 ≤ o1.toInt ∧ o1.toInt ≤ 1) ∧ (0 ≤ o2.toInt ∧ o2.toInt ≤ 4) ∧ ((-2) ≤ r.toInt ∧ r.toInt ≤ 3) ∧ TP D A [(h0, ob 7 [.ref h1, .ref h2, .int h0f2, .ref h3, .ref h4, .ref h5, .int o0, .ref h6, .int o1, .ref h7, .ref h8, .int h0f11, .ref h9, .ref h10, .ref h11, .ref h12, .ref h13]), (h1, ob 4 [.int h1f0, .int o2, .int h1f2, .ref h14]), (h8, aI (k 0) 8 anI), (h12, aJ (k 1) 9 anJ), (h14, aJ (k 1) 36 anJ)] H
set_option maxHeartbeats 4000000 in
set_option maxRecDepth 100000 in
theorem cX10_unit_1ffc0 (l : Launch) (D : va_G) (k : Nat → ClassId) (sz : Nat) (h0 h1 h8 h12 h14 h2 h3 h4 h5 h6 h7 h9 h10 h11 h13 : Nat) (x1 : Int32) (x2 : Int32) (x3 : Int32) (h0f2 : Int32) (h0f6 : Int32) (h0f8 : Int32) (h0f11 : Int32) (h1f0 : Int32) (h1f1 : Int32) (h1f2 : Int32) (b_h0f2 : 0 ≤ h0f2.toInt ∧ h0f2.toInt ≤ 1) (b_h0f6 : 0 ≤ h0f6.toInt ∧ h0f6.toInt ≤ 1) (b_h0f8 : 0 ≤ h0f8.toInt ∧ h0f8.toInt ≤ 1) (b_h0f11 : 0 ≤ h0f11.toInt ∧ h0f11.toInt ≤ 200) (b_h1f0 : 1 ≤ h1f0.toInt ∧ h1f0.toInt ≤ 3) (b_h1f1 : 0 ≤ h1f1.toInt ∧ h1f1.toInt ≤ 4) : Met l yX10_unit (Cond.code yX10_unit cX10_unit 4 (some .int) :: uw) Rm_cX10_unit_1ffc0 (pT D k sz [.ref h0, .int x1, .int x2, .int x3] [(h0, ob 7 [.ref h1, .ref h2, .int h0f2, .ref h3, .ref h4, .ref h5, .int h0f6, .ref h6, .int h0f8, .ref h7, .ref h8, .int h0f11, .ref h9, .ref h10, .ref h11, .ref h12, .ref h13]), (h1, ob 4 [.int h1f0, .int h1f1, .int h1f2, .ref h14]), (h8, aI (k 0) 8 anI), (h12, aJ (k 1) 9 anJ), (h14, aJ (k 1) 36 anJ)]) (qI (B_cX10_unit_1ffc0 D k h0 h1 h8 h12 h14 h2 h3 h4 h5 h6 h7 h9 h10 h11 h13 x1 x2 x3 h0f2 h0f6 h0f8 h0f11 h1f0 h1f1 h1f2 (zA [h0, h1, h8, h12, h14] sz)) (zA [h0, h1, h8, h12, h14] sz)) 0 0 (zA [h0, h1, h8, h12, h14] sz) := by
  refine tz_begin (as := [h0, h1, h8, h12, h14]) (Qc := fun A => qI (B_cX10_unit_1ffc0 D k h0 h1 h8 h12 h14 h2 h3 h4 h5 h6 h7 h9 h10 h11 h13 x1 x2 x3 h0f2 h0f6 h0f8 h0f11 h1f0 h1f1 h1f2 A) A) (by decide +kernel) rfl (Nat.le_of_ble_eq_true rfl) ?_
  intro p e s m args below meth c ls A Q hx hb hr hml hown hlocks hin hU hK hT hS hA hl hQ
  have hl : lv_has ls 4 [(0, .ref h0), (1, .int x1), (2, .int x2), (3, .int x3)] := hl
  have hT : TP D A [(h0, ob 7 [.ref h1, .ref h2, .int h0f2, .ref h3, .ref h4, .ref h5, .int h0f6, .ref h6, .int h0f8, .ref h7, .ref h8, .int h0f11, .ref h9, .ref h10, .ref h11, .ref h12, .ref h13]), (h1, ob 4 [.int h1f0, .int h1f1, .int h1f2, .ref h14]), (h8, aI (k 0) 8 anI), (h12, aJ (k 1) 9 anJ), (h14, aJ (k 1) 36 anJ)] s.heap := hT
  refine lv_aload_n hx hb dX10_unit_0 rfl (lv_at hl 0 rfl) ?_
  refine tz_get (ci := 7) (v := .ref h1) (C := RX10) (F := TX10) (N := 17) hx hb hU iX10 hown hK hT 0 rfl rfl 0 (by decide) w249 (fun _ h9 => h9) rfl dX10_unit_1 ?_
  refine lv_iload_n hx hb dX10_unit_4 rfl (lv_at hl 1 rfl) ?_
  refine lv_iload_n hx hb dX10_unit_5 rfl (lv_at hl 2 rfl) ?_
  refine tcI (Tc := [(h1, ob 4 [.int h1f0, .int h1f1, .int h1f2, .ref h14])]) (Tr := [(h0, ob 7 [.ref h1, .ref h2, .int h0f2, .ref h3, .ref h4, .ref h5, .int h0f6, .ref h6, .int h0f8, .ref h7, .ref h8, .int h0f11, .ref h9, .ref h10, .ref h11, .ref h12, .ref h13]), (h8, aI (k 0) 8 anI), (h12, aJ (k 1) 9 anJ), (h14, aJ (k 1) 36 anJ)]) (as := [h1]) (zcV (q0 := 1) (ci := 4) (As := [.int x1, .int x2]) (rest := []) (Tc := [(h1, ob 4 [.int h1f0, .int h1f1, .int h1f2, .ref h14])]) hx hb hml hown hU hK hT rfl rfl [1] rfl (by decide) (cX5_isPlace_ce953 l D k _ h1 h14 x1 x2 h1f0 h1f1 h1f2 (by omega) (by omega)) w319 w316 w317 w318 w64 hdX5_isPlace ⟨rfl, rfl⟩ ⟨Nat.le_of_ble_eq_true rfl, Nat.le_of_ble_eq_true rfl⟩ rfl hl.1 (Nat.le_of_ble_eq_true rfl) dX10_unit_6 ⟨Nat.le_of_ble_eq_true rfl, Nat.le_of_ble_eq_true rfl⟩) hT hS hA [1] [0, 2, 3, 4] rfl rfl rfl (by decide) (by decide) (fun r1 H locs hB J hS => ?_)
  rcases hB with ⟨rfl, hT1⟩ | ⟨c_2, c_3, c_4, c_5, rfl, hT1⟩
  · skip
    have hT := J _ hT1
    have hT : TP D A [(h0, ob 7 [.ref h1, .ref h2, .int h0f2, .ref h3, .ref h4, .ref h5, .int h0f6, .ref h6, .int h0f8, .ref h7, .ref h8, .int h0f11, .ref h9, .ref h10, .ref h11, .ref h12, .ref h13]), (h8, aI (k 0) 8 anI), (h12, aJ (k 1) 9 anJ), (h14, aJ (k 1) 36 anJ), (h1, ob 4 [.int h1f0, .int h1f1, .int h1f2, .ref h14])] _ := hT
    refine lv_if_eq (tgt := 29) hx hb dX10_unit_9 (by decide) (fun _ => ?_) (fun cc => absurd (by decide +kernel) cc)
    refine lv_iconst (v := (-1)) hx hb dX10_unit_29 (by decide) ?_
    exact tz_retI (B := B_cX10_unit_1ffc0 D k h0 h1 h8 h12 h14 h2 h3 h4 h5 h6 h7 h9 h10 h11 h13 x1 x2 x3 h0f2 h0f6 h0f8 h0f11 h1f0 h1f1 h1f2) (v := (-1)) hQ hx hb hr hlocks hS (Nat.le_of_ble_eq_true rfl) (Nat.le_of_ble_eq_true rfl) dX10_unit_30 (⟨h0f6, h0f8, h1f1, (by have := li_m1; omega), (by have := li_m1; omega), (by have := li_m1; omega), (by have := li_m1; omega), (hT.sub [0, 4, 1, 2, 3] (by decide) rfl)⟩)
  · skip
    have hT := J _ hT1
    have hT : TP D A [(h0, ob 7 [.ref h1, .ref h2, .int h0f2, .ref h3, .ref h4, .ref h5, .int h0f6, .ref h6, .int h0f8, .ref h7, .ref h8, .int h0f11, .ref h9, .ref h10, .ref h11, .ref h12, .ref h13]), (h8, aI (k 0) 8 anI), (h12, aJ (k 1) 9 anJ), (h14, aJ (k 1) 36 anJ), (h1, ob 4 [.int h1f0, .int h1f1, .int h1f2, .ref h14])] _ := hT
    refine lv_if_eq (tgt := 29) hx hb dX10_unit_9 (by decide) (fun cc => absurd cc (by decide +kernel)) (fun _ => ?_)
    refine lv_iload_n hx hb dX10_unit_12 rfl (lv_at hl 1 rfl) ?_
    refine lv_iload_n hx hb dX10_unit_13 rfl (lv_at hl 2 rfl) ?_
    refine lv_icmp_ne (tgt := 21) hx hb dX10_unit_14 (by decide) (fun c_6 => ?_) (fun c_6 => ?_)
    · skip
      have c_6 := ni_ne c_6 rfl rfl
      refine lv_iconst (v := 0) hx hb dX10_unit_21 (by decide) ?_
      refine lv_iload_n hx hb dX10_unit_22 rfl (lv_at hl 3 rfl) ?_
      have q_q8 := li_0
      refine tcI (Tc := []) (Tr := [(h0, ob 7 [.ref h1, .ref h2, .int h0f2, .ref h3, .ref h4, .ref h5, .int h0f6, .ref h6, .int h0f8, .ref h7, .ref h8, .int h0f11, .ref h9, .ref h10, .ref h11, .ref h12, .ref h13]), (h8, aI (k 0) 8 anI), (h12, aJ (k 1) 9 anJ), (h14, aJ (k 1) 36 anJ), (h1, ob 4 [.int h1f0, .int h1f1, .int h1f2, .ref h14])]) (as := []) (zcS (As := [.int 0, .int x3]) (rest := []) (Tc := []) hx hb hml hown hU hK hT [] rfl (by decide) (cX10_fitsUnit_ac2a1 l D k _ (0) x3 (by have := li_0; omega)) w322 w320 w321 w63 hdX10_fitsUnit ⟨rfl, rfl⟩ ⟨Nat.le_of_ble_eq_true rfl, Nat.le_of_ble_eq_true rfl⟩ rfl hl.1 (Nat.le_of_ble_eq_true rfl) dX10_unit_23 ⟨Nat.le_of_ble_eq_true rfl, Nat.le_of_ble_eq_true rfl⟩) hT hS hA [] [0, 1, 2, 3, 4] rfl rfl rfl (by decide) (by decide) (fun r7 H locs hB J hS => ?_)
      obtain ⟨b_r7, hT1⟩ := hB
      have hT := J _ hT1
      have hT : TP D A [(h0, ob 7 [.ref h1, .ref h2, .int h0f2, .ref h3, .ref h4, .ref h5, .int h0f6, .ref h6, .int h0f8, .ref h7, .ref h8, .int h0f11, .ref h9, .ref h10, .ref h11, .ref h12, .ref h13]), (h8, aI (k 0) 8 anI), (h12, aJ (k 1) 9 anJ), (h14, aJ (k 1) 36 anJ), (h1, ob 4 [.int h1f0, .int h1f1, .int h1f2, .ref h14])] _ := hT
      refine lv_if_ne (tgt := 31) hx hb dX10_unit_26 (by decide) (fun c_9 => ?_) (fun c_9 => ?_)
      · skip
        have c_9 := ni_ne c_9 rfl li_0
        refine lv_aload_n hx hb dX10_unit_31 rfl (lv_at hl 0 rfl) ?_
        refine tz_get (ci := 7) (v := .ref h1) (C := RX10) (F := TX10) (N := 17) hx hb hU iX10 hown hK hT 0 rfl rfl 0 (by decide) w249 (fun _ h9 => h9) rfl dX10_unit_32 ?_
        refine tcI (Tc := [(h1, ob 4 [.int h1f0, .int h1f1, .int h1f2, .ref h14])]) (Tr := [(h0, ob 7 [.ref h1, .ref h2, .int h0f2, .ref h3, .ref h4, .ref h5, .int h0f6, .ref h6, .int h0f8, .ref h7, .ref h8, .int h0f11, .ref h9, .ref h10, .ref h11, .ref h12, .ref h13]), (h8, aI (k 0) 8 anI), (h12, aJ (k 1) 9 anJ), (h14, aJ (k 1) 36 anJ)]) (as := [h1]) (zcV (q0 := 4) (ci := 4) (As := []) (rest := []) (Tc := [(h1, ob 4 [.int h1f0, .int h1f1, .int h1f2, .ref h14])]) hx hb hml hown hU hK hT rfl rfl [4] rfl (by decide) (cX5_isFull_cc49c l D k _ h1 h14 h1f0 h1f1 h1f2 (by omega) (by omega)) w326 w323 w324 w325 w64 hdX5_isFull ⟨rfl, rfl⟩ ⟨Nat.le_of_ble_eq_true rfl, Nat.le_of_ble_eq_true rfl⟩ rfl hl.1 (Nat.le_of_ble_eq_true rfl) dX10_unit_35 ⟨Nat.le_of_ble_eq_true rfl, Nat.le_of_ble_eq_true rfl⟩) hT hS hA [4] [0, 1, 2, 3] rfl rfl rfl (by decide) (by decide) (fun r10 H locs hB J hS => ?_)
        rcases hB with ⟨c_11, rfl, hT1⟩ | ⟨rfl, hT1⟩
        · skip
          have hT := J _ hT1
          have hT : TP D A [(h0, ob 7 [.ref h1, .ref h2, .int h0f2, .ref h3, .ref h4, .ref h5, .int h0f6, .ref h6, .int h0f8, .ref h7, .ref h8, .int h0f11, .ref h9, .ref h10, .ref h11, .ref h12, .ref h13]), (h8, aI (k 0) 8 anI), (h12, aJ (k 1) 9 anJ), (h14, aJ (k 1) 36 anJ), (h1, ob 4 [.int h1f0, .int h1f1, .int h1f2, .ref h14])] _ := hT
          refine lv_if_eq (tgt := 44) hx hb dX10_unit_38 (by decide) (fun _ => ?_) (fun cc => absurd (by decide +kernel) cc)
          refine lv_aload_n hx hb dX10_unit_44 rfl (lv_at hl 0 rfl) ?_
          refine lv_iload_n hx hb dX10_unit_45 rfl (lv_at hl 1 rfl) ?_
          refine lv_iload_n hx hb dX10_unit_46 rfl (lv_at hl 2 rfl) ?_
          refine lv_iload_n hx hb dX10_unit_47 rfl (lv_at hl 3 rfl) ?_
          refine tcI (Tc := [(h0, ob 7 [.ref h1, .ref h2, .int h0f2, .ref h3, .ref h4, .ref h5, .int h0f6, .ref h6, .int h0f8, .ref h7, .ref h8, .int h0f11, .ref h9, .ref h10, .ref h11, .ref h12, .ref h13]), (h1, ob 4 [.int h1f0, .int h1f1, .int h1f2, .ref h14]), (h8, aI (k 0) 8 anI), (h12, aJ (k 1) 9 anJ), (h14, aJ (k 1) 36 anJ)]) (Tr := []) (as := [h0, h1, h8, h12, h14]) (zcV (q0 := 0) (ci := 7) (As := [.int x1, .int x2, .int x3]) (rest := []) (Tc := [(h0, ob 7 [.ref h1, .ref h2, .int h0f2, .ref h3, .ref h4, .ref h5, .int h0f6, .ref h6, .int h0f8, .ref h7, .ref h8, .int h0f11, .ref h9, .ref h10, .ref h11, .ref h12, .ref h13]), (h1, ob 4 [.int h1f0, .int h1f1, .int h1f2, .ref h14]), (h8, aI (k 0) 8 anI), (h12, aJ (k 1) 9 anJ), (h14, aJ (k 1) 36 anJ)]) hx hb hml hown hU hK hT rfl rfl [0, 4, 1, 2, 3] rfl (by decide) (cX10_addUnit_b7933 l D k _ h0 h1 h8 h12 h14 h2 h3 h4 h5 h6 h7 h9 h10 h11 h13 x1 x2 x3 h0f2 h0f6 h0f8 h0f11 h1f0 h1f1 h1f2 (by omega) (by omega) (by omega) (by omega) (by omega) (by omega) (by omega) (by omega)) w330 w327 w329 w1 w63 hdX10_addUnit ⟨rfl, rfl⟩ ⟨Nat.le_of_ble_eq_true rfl, Nat.le_of_ble_eq_true rfl⟩ rfl hl.1 (Nat.le_of_ble_eq_true rfl) dX10_unit_48 ⟨Nat.le_of_ble_eq_true rfl, Nat.le_of_ble_eq_true rfl⟩) hT hS hA [0, 4, 1, 2, 3] [] rfl rfl rfl (by decide) (by decide) (fun r12 H locs hB J hS => ?_)
          obtain ⟨v13, b_v13, b_r12, hT1⟩ := hB
          have hT := J _ hT1
          have hT : TP D A [(h0, ob 7 [.ref h1, .ref h2, .int h0f2, .ref h3, .ref h4, .ref h5, .int 0, .ref h6, .int 0, .ref h7, .ref h8, .int h0f11, .ref h9, .ref h10, .ref h11, .ref h12, .ref h13]), (h1, ob 4 [.int h1f0, .int v13, .int h1f2, .ref h14]), (h8, aI (k 0) 8 anI), (h12, aJ (k 1) 9 anJ), (h14, aJ (k 1) 36 anJ)] _ := hT
          exact tz_retI (B := B_cX10_unit_1ffc0 D k h0 h1 h8 h12 h14 h2 h3 h4 h5 h6 h7 h9 h10 h11 h13 x1 x2 x3 h0f2 h0f6 h0f8 h0f11 h1f0 h1f1 h1f2) (v := r12) hQ hx hb hr hlocks hS (Nat.le_of_ble_eq_true rfl) (Nat.le_of_ble_eq_true rfl) dX10_unit_51 (⟨0, 0, v13, (by have := li_0; omega), (by have := li_0; omega), (by have := li_0; omega), (by have := li_0; omega), hT⟩)
        · skip
          have hT := J _ hT1
          have hT : TP D A [(h0, ob 7 [.ref h1, .ref h2, .int h0f2, .ref h3, .ref h4, .ref h5, .int h0f6, .ref h6, .int h0f8, .ref h7, .ref h8, .int h0f11, .ref h9, .ref h10, .ref h11, .ref h12, .ref h13]), (h8, aI (k 0) 8 anI), (h12, aJ (k 1) 9 anJ), (h14, aJ (k 1) 36 anJ), (h1, ob 4 [.int h1f0, .int h1f1, .int h1f2, .ref h14])] _ := hT
          refine lv_if_eq (tgt := 44) hx hb dX10_unit_38 (by decide) (fun cc => absurd cc (by decide +kernel)) (fun _ => ?_)
          refine lv_bipush (v := (-2)) hx hb dX10_unit_41 (by decide) ?_
          exact tz_retI (B := B_cX10_unit_1ffc0 D k h0 h1 h8 h12 h14 h2 h3 h4 h5 h6 h7 h9 h10 h11 h13 x1 x2 x3 h0f2 h0f6 h0f8 h0f11 h1f0 h1f1 h1f2) (v := (-2)) hQ hx hb hr hlocks hS (Nat.le_of_ble_eq_true rfl) (Nat.le_of_ble_eq_true rfl) dX10_unit_43 (⟨h0f6, h0f8, h1f1, (by have := li_m2; omega), (by have := li_m2; omega), (by have := li_m2; omega), (by have := li_m2; omega), (hT.sub [0, 4, 1, 2, 3] (by decide) rfl)⟩)
      · skip
        have c_9 := ni_eq c_9 rfl li_0
        refine lv_iconst (v := (-1)) hx hb dX10_unit_29 (by decide) ?_
        exact tz_retI (B := B_cX10_unit_1ffc0 D k h0 h1 h8 h12 h14 h2 h3 h4 h5 h6 h7 h9 h10 h11 h13 x1 x2 x3 h0f2 h0f6 h0f8 h0f11 h1f0 h1f1 h1f2) (v := (-1)) hQ hx hb hr hlocks hS (Nat.le_of_ble_eq_true rfl) (Nat.le_of_ble_eq_true rfl) dX10_unit_30 (⟨h0f6, h0f8, h1f1, (by have := li_m1; omega), (by have := li_m1; omega), (by have := li_m1; omega), (by have := li_m1; omega), (hT.sub [0, 4, 1, 2, 3] (by decide) rfl)⟩)
    · skip
      have c_6 := ni_eq c_6 rfl rfl
      refine lv_iconst (v := 1) hx hb dX10_unit_17 (by decide) ?_
      refine lv_goto (tgt := 22) hx hb dX10_unit_18 (by decide) ?_
      refine lv_iload_n hx hb dX10_unit_22 rfl (lv_at hl 3 rfl) ?_
      have q_q15 := li_1
      refine tcI (Tc := []) (Tr := [(h0, ob 7 [.ref h1, .ref h2, .int h0f2, .ref h3, .ref h4, .ref h5, .int h0f6, .ref h6, .int h0f8, .ref h7, .ref h8, .int h0f11, .ref h9, .ref h10, .ref h11, .ref h12, .ref h13]), (h8, aI (k 0) 8 anI), (h12, aJ (k 1) 9 anJ), (h14, aJ (k 1) 36 anJ), (h1, ob 4 [.int h1f0, .int h1f1, .int h1f2, .ref h14])]) (as := []) (zcS (As := [.int 1, .int x3]) (rest := []) (Tc := []) hx hb hml hown hU hK hT [] rfl (by decide) (cX10_fitsUnit_ac2a1 l D k _ (1) x3 (by have := li_1; omega)) w322 w320 w321 w63 hdX10_fitsUnit ⟨rfl, rfl⟩ ⟨Nat.le_of_ble_eq_true rfl, Nat.le_of_ble_eq_true rfl⟩ rfl hl.1 (Nat.le_of_ble_eq_true rfl) dX10_unit_23 ⟨Nat.le_of_ble_eq_true rfl, Nat.le_of_ble_eq_true rfl⟩) hT hS hA [] [0, 1, 2, 3, 4] rfl rfl rfl (by decide) (by decide) (fun r14 H locs hB J hS => ?_)
      obtain ⟨b_r14, hT1⟩ := hB
      have hT := J _ hT1
      have hT : TP D A [(h0, ob 7 [.ref h1, .ref h2, .int h0f2, .ref h3, .ref h4, .ref h5, .int h0f6, .ref h6, .int h0f8, .ref h7, .ref h8, .int h0f11, .ref h9, .ref h10, .ref h11, .ref h12, .ref h13]), (h8, aI (k 0) 8 anI), (h12, aJ (k 1) 9 anJ), (h14, aJ (k 1) 36 anJ), (h1, ob 4 [.int h1f0, .int h1f1, .int h1f2, .ref h14])] _ := hT
      refine lv_if_ne (tgt := 31) hx hb dX10_unit_26 (by decide) (fun c_16 => ?_) (fun c_16 => ?_)
      · skip
        have c_16 := ni_ne c_16 rfl li_0
        refine lv_aload_n hx hb dX10_unit_31 rfl (lv_at hl 0 rfl) ?_
        refine tz_get (ci := 7) (v := .ref h1) (C := RX10) (F := TX10) (N := 17) hx hb hU iX10 hown hK hT 0 rfl rfl 0 (by decide) w249 (fun _ h9 => h9) rfl dX10_unit_32 ?_
        refine tcI (Tc := [(h1, ob 4 [.int h1f0, .int h1f1, .int h1f2, .ref h14])]) (Tr := [(h0, ob 7 [.ref h1, .ref h2, .int h0f2, .ref h3, .ref h4, .ref h5, .int h0f6, .ref h6, .int h0f8, .ref h7, .ref h8, .int h0f11, .ref h9, .ref h10, .ref h11, .ref h12, .ref h13]), (h8, aI (k 0) 8 anI), (h12, aJ (k 1) 9 anJ), (h14, aJ (k 1) 36 anJ)]) (as := [h1]) (zcV (q0 := 4) (ci := 4) (As := []) (rest := []) (Tc := [(h1, ob 4 [.int h1f0, .int h1f1, .int h1f2, .ref h14])]) hx hb hml hown hU hK hT rfl rfl [4] rfl (by decide) (cX5_isFull_cc49c l D k _ h1 h14 h1f0 h1f1 h1f2 (by omega) (by omega)) w326 w323 w324 w325 w64 hdX5_isFull ⟨rfl, rfl⟩ ⟨Nat.le_of_ble_eq_true rfl, Nat.le_of_ble_eq_true rfl⟩ rfl hl.1 (Nat.le_of_ble_eq_true rfl) dX10_unit_35 ⟨Nat.le_of_ble_eq_true rfl, Nat.le_of_ble_eq_true rfl⟩) hT hS hA [4] [0, 1, 2, 3] rfl rfl rfl (by decide) (by decide) (fun r17 H locs hB J hS => ?_)
        rcases hB with ⟨c_18, rfl, hT1⟩ | ⟨rfl, hT1⟩
        · skip
          have hT := J _ hT1
          have hT : TP D A [(h0, ob 7 [.ref h1, .ref h2, .int h0f2, .ref h3, .ref h4, .ref h5, .int h0f6, .ref h6, .int h0f8, .ref h7, .ref h8, .int h0f11, .ref h9, .ref h10, .ref h11, .ref h12, .ref h13]), (h8, aI (k 0) 8 anI), (h12, aJ (k 1) 9 anJ), (h14, aJ (k 1) 36 anJ), (h1, ob 4 [.int h1f0, .int h1f1, .int h1f2, .ref h14])] _ := hT
          refine lv_if_eq (tgt := 44) hx hb dX10_unit_38 (by decide) (fun _ => ?_) (fun cc => absurd (by decide +kernel) cc)
          refine lv_aload_n hx hb dX10_unit_44 rfl (lv_at hl 0 rfl) ?_
          refine lv_iload_n hx hb dX10_unit_45 rfl (lv_at hl 1 rfl) ?_
          refine lv_iload_n hx hb dX10_unit_46 rfl (lv_at hl 2 rfl) ?_
          refine lv_iload_n hx hb dX10_unit_47 rfl (lv_at hl 3 rfl) ?_
          refine tcI (Tc := [(h0, ob 7 [.ref h1, .ref h2, .int h0f2, .ref h3, .ref h4, .ref h5, .int h0f6, .ref h6, .int h0f8, .ref h7, .ref h8, .int h0f11, .ref h9, .ref h10, .ref h11, .ref h12, .ref h13]), (h1, ob 4 [.int h1f0, .int h1f1, .int h1f2, .ref h14]), (h8, aI (k 0) 8 anI), (h12, aJ (k 1) 9 anJ), (h14, aJ (k 1) 36 anJ)]) (Tr := []) (as := [h0, h1, h8, h12, h14]) (zcV (q0 := 0) (ci := 7) (As := [.int x1, .int x2, .int x3]) (rest := []) (Tc := [(h0, ob 7 [.ref h1, .ref h2, .int h0f2, .ref h3, .ref h4, .ref h5, .int h0f6, .ref h6, .int h0f8, .ref h7, .ref h8, .int h0f11, .ref h9, .ref h10, .ref h11, .ref h12, .ref h13]), (h1, ob 4 [.int h1f0, .int h1f1, .int h1f2, .ref h14]), (h8, aI (k 0) 8 anI), (h12, aJ (k 1) 9 anJ), (h14, aJ (k 1) 36 anJ)]) hx hb hml hown hU hK hT rfl rfl [0, 4, 1, 2, 3] rfl (by decide) (cX10_addUnit_b7933 l D k _ h0 h1 h8 h12 h14 h2 h3 h4 h5 h6 h7 h9 h10 h11 h13 x1 x2 x3 h0f2 h0f6 h0f8 h0f11 h1f0 h1f1 h1f2 (by omega) (by omega) (by omega) (by omega) (by omega) (by omega) (by omega) (by omega)) w330 w327 w329 w1 w63 hdX10_addUnit ⟨rfl, rfl⟩ ⟨Nat.le_of_ble_eq_true rfl, Nat.le_of_ble_eq_true rfl⟩ rfl hl.1 (Nat.le_of_ble_eq_true rfl) dX10_unit_48 ⟨Nat.le_of_ble_eq_true rfl, Nat.le_of_ble_eq_true rfl⟩) hT hS hA [0, 4, 1, 2, 3] [] rfl rfl rfl (by decide) (by decide) (fun r19 H locs hB J hS => ?_)
          obtain ⟨v20, b_v20, b_r19, hT1⟩ := hB
          have hT := J _ hT1
          have hT : TP D A [(h0, ob 7 [.ref h1, .ref h2, .int h0f2, .ref h3, .ref h4, .ref h5, .int 0, .ref h6, .int 0, .ref h7, .ref h8, .int h0f11, .ref h9, .ref h10, .ref h11, .ref h12, .ref h13]), (h1, ob 4 [.int h1f0, .int v20, .int h1f2, .ref h14]), (h8, aI (k 0) 8 anI), (h12, aJ (k 1) 9 anJ), (h14, aJ (k 1) 36 anJ)] _ := hT
          exact tz_retI (B := B_cX10_unit_1ffc0 D k h0 h1 h8 h12 h14 h2 h3 h4 h5 h6 h7 h9 h10 h11 h13 x1 x2 x3 h0f2 h0f6 h0f8 h0f11 h1f0 h1f1 h1f2) (v := r19) hQ hx hb hr hlocks hS (Nat.le_of_ble_eq_true rfl) (Nat.le_of_ble_eq_true rfl) dX10_unit_51 (⟨0, 0, v20, (by have := li_0; omega), (by have := li_0; omega), (by have := li_0; omega), (by have := li_0; omega), hT⟩)
        · skip
          have hT := J _ hT1
          have hT : TP D A [(h0, ob 7 [.ref h1, .ref h2, .int h0f2, .ref h3, .ref h4, .ref h5, .int h0f6, .ref h6, .int h0f8, .ref h7, .ref h8, .int h0f11, .ref h9, .ref h10, .ref h11, .ref h12, .ref h13]), (h8, aI (k 0) 8 anI), (h12, aJ (k 1) 9 anJ), (h14, aJ (k 1) 36 anJ), (h1, ob 4 [.int h1f0, .int h1f1, .int h1f2, .ref h14])] _ := hT
          refine lv_if_eq (tgt := 44) hx hb dX10_unit_38 (by decide) (fun cc => absurd cc (by decide +kernel)) (fun _ => ?_)
          refine lv_bipush (v := (-2)) hx hb dX10_unit_41 (by decide) ?_
          exact tz_retI (B := B_cX10_unit_1ffc0 D k h0 h1 h8 h12 h14 h2 h3 h4 h5 h6 h7 h9 h10 h11 h13 x1 x2 x3 h0f2 h0f6 h0f8 h0f11 h1f0 h1f1 h1f2) (v := (-2)) hQ hx hb hr hlocks hS (Nat.le_of_ble_eq_true rfl) (Nat.le_of_ble_eq_true rfl) dX10_unit_43 (⟨h0f6, h0f8, h1f1, (by have := li_m2; omega), (by have := li_m2; omega), (by have := li_m2; omega), (by have := li_m2; omega), (hT.sub [0, 4, 1, 2, 3] (by decide) rfl)⟩)
      · skip
        have c_16 := ni_eq c_16 rfl li_0
        refine lv_iconst (v := (-1)) hx hb dX10_unit_29 (by decide) ?_
        exact tz_retI (B := B_cX10_unit_1ffc0 D k h0 h1 h8 h12 h14 h2 h3 h4 h5 h6 h7 h9 h10 h11 h13 x1 x2 x3 h0f2 h0f6 h0f8 h0f11 h1f0 h1f1 h1f2) (v := (-1)) hQ hx hb hr hlocks hS (Nat.le_of_ble_eq_true rfl) (Nat.le_of_ble_eq_true rfl) dX10_unit_30 (⟨h0f6, h0f8, h1f1, (by have := li_m1; omega), (by have := li_m1; omega), (by have := li_m1; omega), (by have := li_m1; omega), (hT.sub [0, 4, 1, 2, 3] (by decide) rfl)⟩)
abbrev Rm_cX11_isPlace_24f09 : Room := { frames := 1, cells := 0, slots := 0, locals := 25 }
abbrev B_cX11_isPlace_24f09 (D : va_G) (k : Nat → ClassId) (h0 h1 h2 h3 h4 h5 h6 h7 h8 h9 h10 h11 h12 h13 h14 h15 h16 h17 h18 h19 h20 h21 : Nat) (x1 : Int32) (h0f0 : Int32) (h0f1 : Int32) (h0f2 : Int32) (h0f3 : Int32) (h0f4 : Int32) (h0f5 : Int32) (h0f8 : Int32) (h0f9 : Int32) (h0f17 : Int32) (h0f18 : Int32) (h0f19 : Int32) (h0f24 : Int32) (h0f25 : Int32) (h0f30 : Int32) (h0f31 : Int32) (A : Nat → Prop) (r : Int32) (H : Heap) : Prop := (0 = r ∧ TP D A [(h0, ob 8 [.int h0f0, .int h0f1, .int h0f2, .int h0f3, .int h0f4, .int h0f5, .ref h1, .ref h2, .int h0f8, .int h0f9, .ref h3, .ref h4, .ref h5, .ref h6, .ref h7, .ref h8, .ref h9, .int h0f17, .int h0f18, .int h0f19, .ref h10, .ref h11, .ref h12, .ref h13, .int h0f24, .int h0f25, .ref h14, .ref h15, .ref h16, .ref h17, .int h0f30, .int h0f31, .ref h18, .ref h19, .ref h20, .ref h21])] H) ∨ (h0f8.toInt ≤ h0f3.toInt ∧ h0f9.toInt ≤ h0f24.toInt ∧ 0 ≤ x1.toInt ∧ x1.toInt ≤ h0f0.toInt + (-1) ∧ 1 = r ∧ TP D A [(h0, ob 8 [.int h0f0, .int h0f1, .int h0f2, .int h0f3, .int h0f4, .int h0f5, .ref h1, .ref h2, .int h0f8, .int h0f9, .ref h3, .ref h4, .ref h5, .ref h6, .ref h7, .ref h8, .ref h9, .int h0f17, .int h0f18, .int h0f19, .ref h10, .ref h11, .ref h12, .ref h13, .int h0f24, .int h0f25, .ref h14, .ref h15, .ref h16, .ref h17, .int h0f30, .int h0f31, .ref h18, .ref h19, .ref h20, .ref h21])] H)
set_option maxHeartbeats 4000000 in
set_option maxRecDepth 100000 in
theorem cX11_isPlace_24f09 (l : Launch) (D : va_G) (k : Nat → ClassId) (sz : Nat) (h0 h1 h2 h3 h4 h5 h6 h7 h8 h9 h10 h11 h12 h13 h14 h15 h16 h17 h18 h19 h20 h21 : Nat) (x1 : Int32) (h0f0 : Int32) (h0f1 : Int32) (h0f2 : Int32) (h0f3 : Int32) (h0f4 : Int32) (h0f5 : Int32) (h0f8 : Int32) (h0f9 : Int32) (h0f17 : Int32) (h0f18 : Int32) (h0f19 : Int32) (h0f24 : Int32) (h0f25 : Int32) (h0f30 : Int32) (h0f31 : Int32) (b_h0f0 : 1 ≤ h0f0.toInt ∧ h0f0.toInt ≤ 3) (b_h0f1 : 0 ≤ h0f1.toInt ∧ h0f1.toInt ≤ 4) (b_h0f3 : 0 ≤ h0f3.toInt ∧ h0f3.toInt ≤ 3) (b_h0f4 : 0 ≤ h0f4.toInt ∧ h0f4.toInt ≤ 4) (b_h0f8 : 0 ≤ h0f8.toInt ∧ h0f8.toInt ≤ 1) (b_h0f9 : 0 ≤ h0f9.toInt ∧ h0f9.toInt ≤ 1) (b_h0f17 : 0 ≤ h0f17.toInt ∧ h0f17.toInt ≤ 120) (b_h0f18 : 0 ≤ h0f18.toInt ∧ h0f18.toInt ≤ 120) (b_h0f19 : 0 ≤ h0f19.toInt ∧ h0f19.toInt ≤ 4) (b_h0f24 : 0 ≤ h0f24.toInt ∧ h0f24.toInt ≤ 100) (b_h0f25 : 0 ≤ h0f25.toInt ∧ h0f25.toInt ≤ 1) (b_h0f30 : 0 ≤ h0f30.toInt ∧ h0f30.toInt ≤ 60) (b_h0f31 : 0 ≤ h0f31.toInt ∧ h0f31.toInt ≤ 1) (i_0 : h0f8.toInt ≤ h0f3.toInt) (i_1 : h0f9.toInt ≤ h0f24.toInt) : Met l yX11_isPlace (Cond.code yX11_isPlace cX11_isPlace 2 (some .boolean) :: uw) Rm_cX11_isPlace_24f09 (pT D k sz [.ref h0, .int x1] [(h0, ob 8 [.int h0f0, .int h0f1, .int h0f2, .int h0f3, .int h0f4, .int h0f5, .ref h1, .ref h2, .int h0f8, .int h0f9, .ref h3, .ref h4, .ref h5, .ref h6, .ref h7, .ref h8, .ref h9, .int h0f17, .int h0f18, .int h0f19, .ref h10, .ref h11, .ref h12, .ref h13, .int h0f24, .int h0f25, .ref h14, .ref h15, .ref h16, .ref h17, .int h0f30, .int h0f31, .ref h18, .ref h19, .ref h20, .ref h21])]) (qI (B_cX11_isPlace_24f09 D k h0 h1 h2 h3 h4 h5 h6 h7 h8 h9 h10 h11 h12 h13 h14 h15 h16 h17 h18 h19 h20 h21 x1 h0f0 h0f1 h0f2 h0f3 h0f4 h0f5 h0f8 h0f9 h0f17 h0f18 h0f19 h0f24 h0f25 h0f30 h0f31 (zA [h0] sz)) (zA [h0] sz)) 0 0 (zA [h0] sz) := by
  refine tz_begin (as := [h0]) (Qc := fun A => qI (B_cX11_isPlace_24f09 D k h0 h1 h2 h3 h4 h5 h6 h7 h8 h9 h10 h11 h12 h13 h14 h15 h16 h17 h18 h19 h20 h21 x1 h0f0 h0f1 h0f2 h0f3 h0f4 h0f5 h0f8 h0f9 h0f17 h0f18 h0f19 h0f24 h0f25 h0f30 h0f31 A) A) (by decide +kernel) rfl (Nat.le_of_ble_eq_true rfl) ?_
  intro p e s m args below meth c ls A Q hx hb hr hml hown hlocks hin hU hK hT hS hA hl hQ
  have hl : lv_has ls 2 [(0, .ref h0), (1, .int x1)] := hl
  have hT : TP D A [(h0, ob 8 [.int h0f0, .int h0f1, .int h0f2, .int h0f3, .int h0f4, .int h0f5, .ref h1, .ref h2, .int h0f8, .int h0f9, .ref h3, .ref h4, .ref h5, .ref h6, .ref h7, .ref h8, .ref h9, .int h0f17, .int h0f18, .int h0f19, .ref h10, .ref h11, .ref h12, .ref h13, .int h0f24, .int h0f25, .ref h14, .ref h15, .ref h16, .ref h17, .int h0f30, .int h0f31, .ref h18, .ref h19, .ref h20, .ref h21])] s.heap := hT
  refine lv_iload_n hx hb dX11_isPlace_0 rfl (lv_at hl 1 rfl) ?_
  have tb_x1 := i32b x1
  obtain ⟨v1, e_v1⟩ : ∃ x : Int64, x1.toInt64 = x := ⟨_, rfl⟩
  refine lv_i2l (v := v1) hx hb dX11_isPlace_1 e_v1 ?_
  have e_v1 := ai_i2l e_v1 rfl
  refine lv_lconst (v := 0) hx hb dX11_isPlace_2 (by decide) ?_
  refine lv_aload_n hx hb dX11_isPlace_3 rfl (lv_at hl 0 rfl) ?_
  refine tz_get (ci := 8) (v := .int h0f0) (C := RX11) (F := TX11) (N := 36) hx hb hU iX11 hown hK hT 0 rfl rfl 0 (by decide) w785 (fun _ h9 => h9) rfl dX11_isPlace_4 ?_
  refine lv_iconst (v := 1) hx hb dX11_isPlace_7 (by decide) ?_
  refine lv_isub hx hb dX11_isPlace_8 (lv_topi (fun v2 e_v2 => ?_))
  have e_v2 := ai_sub e_v2 rfl li_1 (by omega)
  obtain ⟨v3, e_v3⟩ : ∃ x : Int64, v2.toInt64 = x := ⟨_, rfl⟩
  refine lv_i2l (v := v3) hx hb dX11_isPlace_9 e_v3 ?_
  have e_v3 := ai_i2l e_v3 rfl
  have q_q5 := ll_0
  refine tcI (Tc := []) (Tr := [(h0, ob 8 [.int h0f0, .int h0f1, .int h0f2, .int h0f3, .int h0f4, .int h0f5, .ref h1, .ref h2, .int h0f8, .int h0f9, .ref h3, .ref h4, .ref h5, .ref h6, .ref h7, .ref h8, .ref h9, .int h0f17, .int h0f18, .int h0f19, .ref h10, .ref h11, .ref h12, .ref h13, .int h0f24, .int h0f25, .ref h14, .ref h15, .ref h16, .ref h17, .int h0f30, .int h0f31, .ref h18, .ref h19, .ref h20, .ref h21])]) (as := []) (zcS (As := [.long v1, .long 0, .long v3]) (rest := []) (Tc := []) hx hb hml hown hU hK hT [] rfl (by decide) (cX11_in_ca3b9 l D k _ v1 (0) v3 (by have := ll_0; omega) (by omega)) w901 w899 w900 w72 hdX11_in ⟨rfl, rfl⟩ ⟨Nat.le_of_ble_eq_true rfl, Nat.le_of_ble_eq_true rfl⟩ rfl hl.1 (Nat.le_of_ble_eq_true rfl) dX11_isPlace_10 ⟨Nat.le_of_ble_eq_true rfl, Nat.le_of_ble_eq_true rfl⟩) hT hS hA [] [0] rfl rfl rfl (by decide) (by decide) (fun r4 H locs hB J hS => ?_)
  rcases hB with ⟨rfl, hT1⟩ | ⟨c_6, c_7, rfl, hT1⟩
  · skip
    have hT := J _ hT1
    have hT : TP D A [(h0, ob 8 [.int h0f0, .int h0f1, .int h0f2, .int h0f3, .int h0f4, .int h0f5, .ref h1, .ref h2, .int h0f8, .int h0f9, .ref h3, .ref h4, .ref h5, .ref h6, .ref h7, .ref h8, .ref h9, .int h0f17, .int h0f18, .int h0f19, .ref h10, .ref h11, .ref h12, .ref h13, .int h0f24, .int h0f25, .ref h14, .ref h15, .ref h16, .ref h17, .int h0f30, .int h0f31, .ref h18, .ref h19, .ref h20, .ref h21])] _ := hT
    exact tz_retZ (B := B_cX11_isPlace_24f09 D k h0 h1 h2 h3 h4 h5 h6 h7 h8 h9 h10 h11 h12 h13 h14 h15 h16 h17 h18 h19 h20 h21 x1 h0f0 h0f1 h0f2 h0f3 h0f4 h0f5 h0f8 h0f9 h0f17 h0f18 h0f19 h0f24 h0f25 h0f30 h0f31) (v := 0) hQ hx hb hr hlocks hS (Nat.le_of_ble_eq_true rfl) (Nat.le_of_ble_eq_true rfl) dX11_isPlace_13 (by have := li_0; omega) (Or.inl ⟨rfl, hT⟩)
  · skip
    have hT := J _ hT1
    have hT : TP D A [(h0, ob 8 [.int h0f0, .int h0f1, .int h0f2, .int h0f3, .int h0f4, .int h0f5, .ref h1, .ref h2, .int h0f8, .int h0f9, .ref h3, .ref h4, .ref h5, .ref h6, .ref h7, .ref h8, .ref h9, .int h0f17, .int h0f18, .int h0f19, .ref h10, .ref h11, .ref h12, .ref h13, .int h0f24, .int h0f25, .ref h14, .ref h15, .ref h16, .ref h17, .int h0f30, .int h0f31, .ref h18, .ref h19, .ref h20, .ref h21])] _ := hT
    exact tz_retZ (B := B_cX11_isPlace_24f09 D k h0 h1 h2 h3 h4 h5 h6 h7 h8 h9 h10 h11 h12 h13 h14 h15 h16 h17 h18 h19 h20 h21 x1 h0f0 h0f1 h0f2 h0f3 h0f4 h0f5 h0f8 h0f9 h0f17 h0f18 h0f19 h0f24 h0f25 h0f30 h0f31) (v := 1) hQ hx hb hr hlocks hS (Nat.le_of_ble_eq_true rfl) (Nat.le_of_ble_eq_true rfl) dX11_isPlace_13 (by have := li_1; omega) (Or.inr (⟨(by have := li_1; omega), (by have := li_1; omega), (by have := li_1; omega), (by have := li_1; omega), rfl, hT⟩))
abbrev Rm_cX11_clears_d395b : Room := { frames := 0, cells := 0, slots := 0, locals := 0 }
abbrev B_cX11_clears_d395b (D : va_G) (k : Nat → ClassId) (h0 h1 h2 h3 h4 h5 h6 h7 h8 h9 h10 h11 h12 h13 h14 h15 h16 h17 h18 h19 h20 h21 : Nat) (h0f0 : Int32) (h0f1 : Int32) (h0f2 : Int32) (h0f3 : Int32) (h0f4 : Int32) (h0f5 : Int32) (h0f8 : Int32) (h0f9 : Int32) (h0f17 : Int32) (h0f18 : Int32) (h0f19 : Int32) (h0f24 : Int32) (h0f25 : Int32) (h0f30 : Int32) (h0f31 : Int32) (A : Nat → Prop) (H : Heap) : Prop := TP D A [(h0, ob 8 [.int h0f0, .int h0f1, .int h0f2, .int h0f3, .int h0f4, .int h0f5, .ref h2, .ref h3, .int h0f8, .int h0f9, .ref h1, .ref h4, .ref h5, .ref h6, .ref h7, .ref h8, .ref h9, .int h0f17, .int h0f18, .int h0f19, .ref h10, .ref h11, .ref h12, .ref h13, .int h0f24, .int h0f25, .ref h14, .ref h15, .ref h16, .ref h17, .int h0f30, .int h0f31, .ref h18, .ref h19, .ref h20, .ref h21]), (h1, aJ (k 1) 9 anJ)] H
set_option maxHeartbeats 4000000 in
set_option maxRecDepth 100000 in
theorem cX11_clears_d395b (l : Launch) (D : va_G) (k : Nat → ClassId) (sz : Nat) (h0 h1 h2 h3 h4 h5 h6 h7 h8 h9 h10 h11 h12 h13 h14 h15 h16 h17 h18 h19 h20 h21 : Nat) (h0f0 : Int32) (h0f1 : Int32) (h0f2 : Int32) (h0f3 : Int32) (h0f4 : Int32) (h0f5 : Int32) (h0f8 : Int32) (h0f9 : Int32) (h0f17 : Int32) (h0f18 : Int32) (h0f19 : Int32) (h0f24 : Int32) (h0f25 : Int32) (h0f30 : Int32) (h0f31 : Int32) (b_h0f0 : 1 ≤ h0f0.toInt ∧ h0f0.toInt ≤ 3) (b_h0f1 : 0 ≤ h0f1.toInt ∧ h0f1.toInt ≤ 4) (b_h0f3 : 0 ≤ h0f3.toInt ∧ h0f3.toInt ≤ 3) (b_h0f4 : 0 ≤ h0f4.toInt ∧ h0f4.toInt ≤ 4) (b_h0f8 : 0 ≤ h0f8.toInt ∧ h0f8.toInt ≤ 1) (b_h0f9 : 0 ≤ h0f9.toInt ∧ h0f9.toInt ≤ 1) (b_h0f17 : 0 ≤ h0f17.toInt ∧ h0f17.toInt ≤ 120) (b_h0f18 : 0 ≤ h0f18.toInt ∧ h0f18.toInt ≤ 120) (b_h0f19 : 0 ≤ h0f19.toInt ∧ h0f19.toInt ≤ 4) (b_h0f24 : 0 ≤ h0f24.toInt ∧ h0f24.toInt ≤ 100) (b_h0f25 : 0 ≤ h0f25.toInt ∧ h0f25.toInt ≤ 1) (b_h0f30 : 0 ≤ h0f30.toInt ∧ h0f30.toInt ≤ 60) (b_h0f31 : 0 ≤ h0f31.toInt ∧ h0f31.toInt ≤ 1) (i_0 : h0f8.toInt ≤ h0f3.toInt) (i_1 : h0f9.toInt ≤ h0f24.toInt) : Met l yX11_clears (Cond.code yX11_clears cX11_clears 3 none :: uw) Rm_cX11_clears_d395b (pT D k sz [.ref h0, .ref h1] [(h0, ob 8 [.int h0f0, .int h0f1, .int h0f2, .int h0f3, .int h0f4, .int h0f5, .ref h2, .ref h3, .int h0f8, .int h0f9, .ref h1, .ref h4, .ref h5, .ref h6, .ref h7, .ref h8, .ref h9, .int h0f17, .int h0f18, .int h0f19, .ref h10, .ref h11, .ref h12, .ref h13, .int h0f24, .int h0f25, .ref h14, .ref h15, .ref h16, .ref h17, .int h0f30, .int h0f31, .ref h18, .ref h19, .ref h20, .ref h21]), (h1, aJ (k 1) 9 anJ)]) (qV (B_cX11_clears_d395b D k h0 h1 h2 h3 h4 h5 h6 h7 h8 h9 h10 h11 h12 h13 h14 h15 h16 h17 h18 h19 h20 h21 h0f0 h0f1 h0f2 h0f3 h0f4 h0f5 h0f8 h0f9 h0f17 h0f18 h0f19 h0f24 h0f25 h0f30 h0f31 (zA [h0, h1] sz)) (zA [h0, h1] sz)) 0 0 (zA [h0, h1] sz) := by
  refine tz_begin (as := [h0, h1]) (Qc := fun A => qV (B_cX11_clears_d395b D k h0 h1 h2 h3 h4 h5 h6 h7 h8 h9 h10 h11 h12 h13 h14 h15 h16 h17 h18 h19 h20 h21 h0f0 h0f1 h0f2 h0f3 h0f4 h0f5 h0f8 h0f9 h0f17 h0f18 h0f19 h0f24 h0f25 h0f30 h0f31 A) A) (by decide +kernel) rfl (Nat.le_of_ble_eq_true rfl) ?_
  intro p e s m args below meth c ls A Q hx hb hr hml hown hlocks hin hU hK hT hS hA hl hQ
  have hl : lv_has ls 3 [(0, .ref h0), (1, .ref h1)] := hl
  have hT : TP D A [(h0, ob 8 [.int h0f0, .int h0f1, .int h0f2, .int h0f3, .int h0f4, .int h0f5, .ref h2, .ref h3, .int h0f8, .int h0f9, .ref h1, .ref h4, .ref h5, .ref h6, .ref h7, .ref h8, .ref h9, .int h0f17, .int h0f18, .int h0f19, .ref h10, .ref h11, .ref h12, .ref h13, .int h0f24, .int h0f25, .ref h14, .ref h15, .ref h16, .ref h17, .int h0f30, .int h0f31, .ref h18, .ref h19, .ref h20, .ref h21]), (h1, aJ (k 1) 9 anJ)] s.heap := hT
  refine lv_iconst (v := 0) hx hb dX11_clears_0 (by decide) ?_
  refine lv_istore_n (lv' := [(2, .int 0), (0, .ref h0), (1, .ref h1)]) hx hb dX11_clears_1 rfl hl (by decide) rfl (fun ls hl => ?_)
  have lp2_8 : ∀ (n : Nat) (y7 : Int32) (H : Heap) (locs : List Loc) (ls : Array Slot), (0 ≤ y7.toInt ∧ y7.toInt ≤ 9) → ((-1) * y7.toInt + 9 + 1).toNat < n → TP D A [(h0, ob 8 [.int h0f0, .int h0f1, .int h0f2, .int h0f3, .int h0f4, .int h0f5, .ref h2, .ref h3, .int h0f8, .int h0f9, .ref h1, .ref h4, .ref h5, .ref h6, .ref h7, .ref h8, .ref h9, .int h0f17, .int h0f18, .int h0f19, .ref h10, .ref h11, .ref h12, .ref h13, .int h0f24, .int h0f25, .ref h14, .ref h15, .ref h16, .ref h17, .int h0f30, .int h0f31, .ref h18, .ref h19, .ref h20, .ref h21]), (h1, aJ (k 1) 9 anJ)] H → va_S A s.heap H locs → lv_has ls 3 [(1, .ref h1), (2, .int y7)] → W p l e Rm_cX11_clears_d395b s m args below meth c H locs 0 0 Q (F0 m 2 ls []) := by
    intro n
    induction n with
    | zero => intro y7 H locs ls b_y7 hm hT hS hl; exact absurd hm (Nat.not_lt_zero _)
    | succ n ih =>
      intro y7 H locs ls b_y7 hm hT hS hl
      have ih2_8 := ih
      clear ih
      refine lv_iload_n hx hb dX11_clears_2 rfl (lv_at hl 1 rfl) ?_
      refine lv_bipush (v := 9) hx hb dX11_clears_3 (by decide) ?_
      refine lv_icmp_ge (tgt := 18) hx hb dX11_clears_5 (by decide) (fun c_9 => ?_) (fun c_9 => ?_)
      · skip
        have c_9 := ni_le c_9 li_9 rfl
        exact tz_retV (B := B_cX11_clears_d395b D k h0 h1 h2 h3 h4 h5 h6 h7 h8 h9 h10 h11 h12 h13 h14 h15 h16 h17 h18 h19 h20 h21 h0f0 h0f1 h0f2 h0f3 h0f4 h0f5 h0f8 h0f9 h0f17 h0f18 h0f19 h0f24 h0f25 h0f30 h0f31) hQ hx hb hr hlocks hS (Nat.le_of_ble_eq_true rfl) (Nat.le_of_ble_eq_true rfl) dX11_clears_18 (hT)
      · skip
        have c_9 := ni_nle c_9 li_9 rfl
        refine lv_aload_n hx hb dX11_clears_8 rfl (lv_at hl 0 rfl) ?_
        refine lv_iload_n hx hb dX11_clears_9 rfl (lv_at hl 1 rfl) ?_
        refine lv_lconst (v := 0) hx hb dX11_clears_10 (by decide) ?_
        refine tz_last hx hb hK hT hS 1 rfl (by omega) (fun _ _ => trivial) dX11_clears_11 (fun H locs hT hS => ?_)
        obtain ⟨v10, e_v10⟩ : ∃ x : Int32, x = y7 + Int32.ofInt 1 := ⟨_, rfl⟩
        have f_v10 := e_v10.symm
        have e_v10 : v10.toInt = y7.toInt + 1 := ai_add e_v10 rfl (show (Int32.ofInt 1).toInt = 1 from (by decide +kernel)) (by omega)
        refine lv_iinc (v := v10) (lv' := [(2, .int v10), (1, .ref h1)]) hx hb dX11_clears_12 hl (k := 1) rfl f_v10 (by decide) rfl (fun ls hl => ?_)
        refine lv_goto (tgt := 2) hx hb dX11_clears_15 (by decide) ?_
        exact ih2_8 v10 _ _ _ (by omega)  (by omega) hT hS (lv_sub hl [1, 0] rfl)
  exact lp2_8 (((-1) * (0 : Int32).toInt + 9 + 1).toNat + 1) (0) _ _ _ (by have := li_0; omega)  (Nat.lt_succ_self _) hT hS (lv_sub hl [2, 0] rfl)
abbrev Rm_cX11_first_7e6fc : Room := { frames := 1, cells := 0, slots := 0, locals := 22 }
abbrev B_cX11_first_7e6fc (D : va_G) (k : Nat → ClassId) (h0 h1 h2 h3 h4 h5 h6 h7 h8 h9 h10 h11 h12 h13 h14 h15 h16 h17 h18 h19 h20 h21 : Nat) (h0f0 : Int32) (h0f1 : Int32) (h0f2 : Int32) (h0f3 : Int32) (h0f4 : Int32) (h0f5 : Int32) (h0f8 : Int32) (h0f9 : Int32) (h0f17 : Int32) (h0f18 : Int32) (h0f19 : Int32) (h0f24 : Int32) (h0f25 : Int32) (h0f30 : Int32) (h0f31 : Int32) (A : Nat → Prop) (H : Heap) : Prop := TP D A [(h0, ob 8 [.int h0f0, .int h0f1, .int h0f2, .int h0f3, .int h0f4, .int h0f5, .ref h2, .ref h3, .int h0f8, .int h0f9, .ref h1, .ref h4, .ref h5, .ref h6, .ref h7, .ref h8, .ref h9, .int h0f17, .int h0f18, .int h0f19, .ref h10, .ref h11, .ref h12, .ref h13, .int h0f24, .int h0f25, .ref h14, .ref h15, .ref h16, .ref h17, .int h0f30, .int h0f31, .ref h18, .ref h19, .ref h20, .ref h21]), (h1, aJ (k 1) 9 anJ)] H
set_option maxHeartbeats 4000000 in
set_option maxRecDepth 100000 in
theorem cX11_first_7e6fc (l : Launch) (D : va_G) (k : Nat → ClassId) (sz : Nat) (h0 h1 h2 h3 h4 h5 h6 h7 h8 h9 h10 h11 h12 h13 h14 h15 h16 h17 h18 h19 h20 h21 : Nat) (h0f0 : Int32) (h0f1 : Int32) (h0f2 : Int32) (h0f3 : Int32) (h0f4 : Int32) (h0f5 : Int32) (h0f8 : Int32) (h0f9 : Int32) (h0f17 : Int32) (h0f18 : Int32) (h0f19 : Int32) (h0f24 : Int32) (h0f25 : Int32) (h0f30 : Int32) (h0f31 : Int32) (b_h0f0 : 1 ≤ h0f0.toInt ∧ h0f0.toInt ≤ 3) (b_h0f1 : 0 ≤ h0f1.toInt ∧ h0f1.toInt ≤ 3) (b_h0f3 : 0 ≤ h0f3.toInt ∧ h0f3.toInt ≤ 3) (b_h0f4 : 0 ≤ h0f4.toInt ∧ h0f4.toInt ≤ 4) (b_h0f8 : 0 ≤ h0f8.toInt ∧ h0f8.toInt ≤ 1) (b_h0f9 : 0 ≤ h0f9.toInt ∧ h0f9.toInt ≤ 1) (b_h0f17 : 0 ≤ h0f17.toInt ∧ h0f17.toInt ≤ 120) (b_h0f18 : 0 ≤ h0f18.toInt ∧ h0f18.toInt ≤ 120) (b_h0f19 : 0 ≤ h0f19.toInt ∧ h0f19.toInt ≤ 4) (b_h0f24 : 0 ≤ h0f24.toInt ∧ h0f24.toInt ≤ 100) (b_h0f25 : 0 ≤ h0f25.toInt ∧ h0f25.toInt ≤ 1) (b_h0f30 : 0 ≤ h0f30.toInt ∧ h0f30.toInt ≤ 60) (b_h0f31 : 0 ≤ h0f31.toInt ∧ h0f31.toInt ≤ 1) (i_0 : h0f8.toInt ≤ h0f3.toInt) (i_1 : h0f9.toInt ≤ h0f24.toInt) : Met l yX11_first (Cond.code yX11_first cX11_first 3 none :: uw) Rm_cX11_first_7e6fc (pT D k sz [.ref h0, .ref h1] [(h0, ob 8 [.int h0f0, .int h0f1, .int h0f2, .int h0f3, .int h0f4, .int h0f5, .ref h2, .ref h3, .int h0f8, .int h0f9, .ref h1, .ref h4, .ref h5, .ref h6, .ref h7, .ref h8, .ref h9, .int h0f17, .int h0f18, .int h0f19, .ref h10, .ref h11, .ref h12, .ref h13, .int h0f24, .int h0f25, .ref h14, .ref h15, .ref h16, .ref h17, .int h0f30, .int h0f31, .ref h18, .ref h19, .ref h20, .ref h21]), (h1, aJ (k 1) 9 anJ)]) (qV (B_cX11_first_7e6fc D k h0 h1 h2 h3 h4 h5 h6 h7 h8 h9 h10 h11 h12 h13 h14 h15 h16 h17 h18 h19 h20 h21 h0f0 h0f1 h0f2 h0f3 h0f4 h0f5 h0f8 h0f9 h0f17 h0f18 h0f19 h0f24 h0f25 h0f30 h0f31 (zA [h0, h1] sz)) (zA [h0, h1] sz)) 0 0 (zA [h0, h1] sz) := by
  refine tz_begin (as := [h0, h1]) (Qc := fun A => qV (B_cX11_first_7e6fc D k h0 h1 h2 h3 h4 h5 h6 h7 h8 h9 h10 h11 h12 h13 h14 h15 h16 h17 h18 h19 h20 h21 h0f0 h0f1 h0f2 h0f3 h0f4 h0f5 h0f8 h0f9 h0f17 h0f18 h0f19 h0f24 h0f25 h0f30 h0f31 A) A) (by decide +kernel) rfl (Nat.le_of_ble_eq_true rfl) ?_
  intro p e s m args below meth c ls A Q hx hb hr hml hown hlocks hin hU hK hT hS hA hl hQ
  have hl : lv_has ls 3 [(0, .ref h0), (1, .ref h1)] := hl
  have hT : TP D A [(h0, ob 8 [.int h0f0, .int h0f1, .int h0f2, .int h0f3, .int h0f4, .int h0f5, .ref h2, .ref h3, .int h0f8, .int h0f9, .ref h1, .ref h4, .ref h5, .ref h6, .ref h7, .ref h8, .ref h9, .int h0f17, .int h0f18, .int h0f19, .ref h10, .ref h11, .ref h12, .ref h13, .int h0f24, .int h0f25, .ref h14, .ref h15, .ref h16, .ref h17, .int h0f30, .int h0f31, .ref h18, .ref h19, .ref h20, .ref h21]), (h1, aJ (k 1) 9 anJ)] s.heap := hT
  refine lv_aload_n hx hb dX11_first_0 rfl (lv_at hl 0 rfl) ?_
  refine lv_aload_n hx hb dX11_first_1 rfl (lv_at hl 1 rfl) ?_
  refine tcV (Tc := [(h0, ob 8 [.int h0f0, .int h0f1, .int h0f2, .int h0f3, .int h0f4, .int h0f5, .ref h2, .ref h3, .int h0f8, .int h0f9, .ref h1, .ref h4, .ref h5, .ref h6, .ref h7, .ref h8, .ref h9, .int h0f17, .int h0f18, .int h0f19, .ref h10, .ref h11, .ref h12, .ref h13, .int h0f24, .int h0f25, .ref h14, .ref h15, .ref h16, .ref h17, .int h0f30, .int h0f31, .ref h18, .ref h19, .ref h20, .ref h21]), (h1, aJ (k 1) 9 anJ)]) (Tr := []) (as := [h0, h1]) (zcV (q0 := 0) (ci := 8) (As := [.ref h1]) (rest := []) (Tc := [(h0, ob 8 [.int h0f0, .int h0f1, .int h0f2, .int h0f3, .int h0f4, .int h0f5, .ref h2, .ref h3, .int h0f8, .int h0f9, .ref h1, .ref h4, .ref h5, .ref h6, .ref h7, .ref h8, .ref h9, .int h0f17, .int h0f18, .int h0f19, .ref h10, .ref h11, .ref h12, .ref h13, .int h0f24, .int h0f25, .ref h14, .ref h15, .ref h16, .ref h17, .int h0f30, .int h0f31, .ref h18, .ref h19, .ref h20, .ref h21]), (h1, aJ (k 1) 9 anJ)]) hx hb hml hown hU hK hT rfl rfl [0, 1] rfl (by decide) (cX11_clears_d395b l D k _ h0 h1 h2 h3 h4 h5 h6 h7 h8 h9 h10 h11 h12 h13 h14 h15 h16 h17 h18 h19 h20 h21 h0f0 h0f1 h0f2 h0f3 h0f4 h0f5 h0f8 h0f9 h0f17 h0f18 h0f19 h0f24 h0f25 h0f30 h0f31 (by omega) (by omega) (by omega) (by omega) (by omega) (by omega) (by omega) (by omega) (by omega) (by omega) (by omega) (by omega) (by omega) (by omega) (by omega)) w923 w920 w922 w29 w72 hdX11_clears ⟨rfl, rfl⟩ ⟨Nat.le_of_ble_eq_true rfl, Nat.le_of_ble_eq_true rfl⟩ rfl hl.1 (Nat.le_of_ble_eq_true rfl) dX11_first_2 ⟨Nat.le_of_ble_eq_true rfl, Nat.le_of_ble_eq_true rfl⟩) hT hS hA [0, 1] [] rfl rfl rfl (by decide) (by decide) (fun H locs hB J hS => ?_)
  have hT1 := hB
  have hT := J _ hT1
  have hT : TP D A [(h0, ob 8 [.int h0f0, .int h0f1, .int h0f2, .int h0f3, .int h0f4, .int h0f5, .ref h2, .ref h3, .int h0f8, .int h0f9, .ref h1, .ref h4, .ref h5, .ref h6, .ref h7, .ref h8, .ref h9, .int h0f17, .int h0f18, .int h0f19, .ref h10, .ref h11, .ref h12, .ref h13, .int h0f24, .int h0f25, .ref h14, .ref h15, .ref h16, .ref h17, .int h0f30, .int h0f31, .ref h18, .ref h19, .ref h20, .ref h21]), (h1, aJ (k 1) 9 anJ)] _ := hT
  refine lv_iconst (v := 0) hx hb dX11_first_5 (by decide) ?_
  refine lv_istore_n (lv' := [(2, .int 0), (0, .ref h0), (1, .ref h1)]) hx hb dX11_first_6 rfl hl (by decide) rfl (fun ls hl => ?_)
  have lp7_5 : ∀ (n : Nat) (y4 : Int32) (H : Heap) (locs : List Loc) (ls : Array Slot), (0 ≤ y4.toInt ∧ y4.toInt ≤ 3) → (h0f0.toInt + (-1) * y4.toInt + 1).toNat < n → TP D A [(h0, ob 8 [.int h0f0, .int h0f1, .int h0f2, .int h0f3, .int h0f4, .int h0f5, .ref h2, .ref h3, .int h0f8, .int h0f9, .ref h1, .ref h4, .ref h5, .ref h6, .ref h7, .ref h8, .ref h9, .int h0f17, .int h0f18, .int h0f19, .ref h10, .ref h11, .ref h12, .ref h13, .int h0f24, .int h0f25, .ref h14, .ref h15, .ref h16, .ref h17, .int h0f30, .int h0f31, .ref h18, .ref h19, .ref h20, .ref h21]), (h1, aJ (k 1) 9 anJ)] H → va_S A s.heap H locs → lv_has ls 3 [(0, .ref h0), (1, .ref h1), (2, .int y4)] → W p l e Rm_cX11_first_7e6fc s m args below meth c H locs 0 0 Q (F0 m 7 ls []) := by
    intro n
    induction n with
    | zero => intro y4 H locs ls b_y4 hm hT hS hl; exact absurd hm (Nat.not_lt_zero _)
    | succ n ih =>
      intro y4 H locs ls b_y4 hm hT hS hl
      have ih7_5 := ih
      clear ih
      refine lv_iload_n hx hb dX11_first_7 rfl (lv_at hl 2 rfl) ?_
      refine lv_aload_n hx hb dX11_first_8 rfl (lv_at hl 0 rfl) ?_
      refine tz_get (ci := 8) (v := .int h0f0) (C := RX11) (F := TX11) (N := 36) hx hb hU iX11 hown hK hT 0 rfl rfl 0 (by decide) w785 (fun _ h9 => h9) rfl dX11_first_9 ?_
      refine lv_icmp_ge (tgt := 27) hx hb dX11_first_12 (by decide) (fun c_6 => ?_) (fun c_6 => ?_)
      · skip
        have c_6 := ni_le c_6 rfl rfl
        exact tz_retV (B := B_cX11_first_7e6fc D k h0 h1 h2 h3 h4 h5 h6 h7 h8 h9 h10 h11 h12 h13 h14 h15 h16 h17 h18 h19 h20 h21 h0f0 h0f1 h0f2 h0f3 h0f4 h0f5 h0f8 h0f9 h0f17 h0f18 h0f19 h0f24 h0f25 h0f30 h0f31) hQ hx hb hr hlocks hS (Nat.le_of_ble_eq_true rfl) (Nat.le_of_ble_eq_true rfl) dX11_first_27 (hT)
      · skip
        have c_6 := ni_nle c_6 rfl rfl
        refine lv_aload_n hx hb dX11_first_15 rfl (lv_at hl 1 rfl) ?_
        refine lv_iconst (v := 4) hx hb dX11_first_16 (by decide) ?_
        refine lv_iload_n hx hb dX11_first_17 rfl (lv_at hl 2 rfl) ?_
        refine lv_imul hx hb dX11_first_18 (lv_topi (fun v7 e_v7 => ?_))
        have e_v7 := ai_mul e_v7 li_4 rfl (by omega)
        refine lv_lconst (v := 1) hx hb dX11_first_19 (by decide) ?_
        refine tz_last hx hb hK hT hS 1 rfl (by omega) (fun _ _ => trivial) dX11_first_20 (fun H locs hT hS => ?_)
        obtain ⟨v8, e_v8⟩ : ∃ x : Int32, x = y4 + Int32.ofInt 1 := ⟨_, rfl⟩
        have f_v8 := e_v8.symm
        have e_v8 : v8.toInt = y4.toInt + 1 := ai_add e_v8 rfl (show (Int32.ofInt 1).toInt = 1 from (by decide +kernel)) (by omega)
        refine lv_iinc (v := v8) (lv' := [(2, .int v8), (0, .ref h0), (1, .ref h1)]) hx hb dX11_first_21 hl (k := 2) rfl f_v8 (by decide) rfl (fun ls hl => ?_)
        refine lv_goto (tgt := 7) hx hb dX11_first_24 (by decide) ?_
        exact ih7_5 v8 _ _ _ (by omega)  (by omega) hT hS (lv_sub hl [1, 2, 0] rfl)
  exact lp7_5 ((h0f0.toInt + (-1) * (0 : Int32).toInt + 1).toNat + 1) (0) _ _ _ (by have := li_0; omega)  (Nat.lt_succ_self _) hT hS (lv_sub hl [1, 2, 0] rfl)
abbrev Rm_cX11_makesUnit_8b80d : Room := { frames := 2, cells := 0, slots := 0, locals := 44 }
abbrev B_cX11_makesUnit_8b80d (D : va_G) (k : Nat → ClassId) (h0 h3 h1 h2 h4 h5 h6 h7 h8 h9 h10 h11 h12 h13 h14 h15 h16 h17 h18 h19 h20 h21 : Nat) (x1 : Int32) (x2 : Int32) (x3 : Int32) (h0f0 : Int32) (h0f1 : Int32) (h0f2 : Int32) (h0f3 : Int32) (h0f4 : Int32) (h0f5 : Int32) (h0f8 : Int32) (h0f9 : Int32) (h0f17 : Int32) (h0f18 : Int32) (h0f19 : Int32) (h0f24 : Int32) (h0f25 : Int32) (h0f30 : Int32) (h0f31 : Int32) (A : Nat → Prop) (H : Heap) : Prop := TP D A [(h0, ob 8 [.int h0f0, .int h0f1, .int h0f2, .int h0f3, .int h0f4, .int h0f5, .ref h1, .ref h2, .int h0f8, .int h0f9, .ref h3, .ref h4, .ref h5, .ref h6, .ref h7, .ref h8, .ref h9, .int h0f17, .int h0f18, .int h0f19, .ref h10, .ref h11, .ref h12, .ref h13, .int h0f24, .int h0f25, .ref h14, .ref h15, .ref h16, .ref h17, .int h0f30, .int h0f31, .ref h18, .ref h19, .ref h20, .ref h21]), (h3, aJ (k 1) 9 anJ)] H
set_option maxHeartbeats 4000000 in
set_option maxRecDepth 100000 in
theorem cX11_makesUnit_8b80d (l : Launch) (D : va_G) (k : Nat → ClassId) (sz : Nat) (h0 h3 h1 h2 h4 h5 h6 h7 h8 h9 h10 h11 h12 h13 h14 h15 h16 h17 h18 h19 h20 h21 : Nat) (x1 : Int32) (x2 : Int32) (x3 : Int32) (h0f0 : Int32) (h0f1 : Int32) (h0f2 : Int32) (h0f3 : Int32) (h0f4 : Int32) (h0f5 : Int32) (h0f8 : Int32) (h0f9 : Int32) (h0f17 : Int32) (h0f18 : Int32) (h0f19 : Int32) (h0f24 : Int32) (h0f25 : Int32) (h0f30 : Int32) (h0f31 : Int32) (b_x1 : 0 ≤ x1.toInt ∧ x1.toInt ≤ 2) (b_x2 : 0 ≤ x2.toInt ∧ x2.toInt ≤ 2) (b_x3 : (-99) ≤ x3.toInt ∧ x3.toInt ≤ 99) (b_h0f0 : 1 ≤ h0f0.toInt ∧ h0f0.toInt ≤ 3) (b_h0f1 : 0 ≤ h0f1.toInt ∧ h0f1.toInt ≤ 3) (b_h0f3 : 0 ≤ h0f3.toInt ∧ h0f3.toInt ≤ 3) (b_h0f4 : 0 ≤ h0f4.toInt ∧ h0f4.toInt ≤ 4) (b_h0f8 : 0 ≤ h0f8.toInt ∧ h0f8.toInt ≤ 1) (b_h0f9 : 0 ≤ h0f9.toInt ∧ h0f9.toInt ≤ 1) (b_h0f17 : 0 ≤ h0f17.toInt ∧ h0f17.toInt ≤ 120) (b_h0f18 : 0 ≤ h0f18.toInt ∧ h0f18.toInt ≤ 120) (b_h0f19 : 0 ≤ h0f19.toInt ∧ h0f19.toInt ≤ 4) (b_h0f24 : 0 ≤ h0f24.toInt ∧ h0f24.toInt ≤ 100) (b_h0f25 : 0 ≤ h0f25.toInt ∧ h0f25.toInt ≤ 1) (b_h0f30 : 0 ≤ h0f30.toInt ∧ h0f30.toInt ≤ 60) (b_h0f31 : 0 ≤ h0f31.toInt ∧ h0f31.toInt ≤ 1) (i_0 : h0f8.toInt ≤ h0f3.toInt) (i_1 : h0f9.toInt ≤ h0f24.toInt) : Met l yX11_makesUnit (Cond.code yX11_makesUnit cX11_makesUnit 4 none :: uw) Rm_cX11_makesUnit_8b80d (pT D k sz [.ref h0, .int x1, .int x2, .int x3] [(h0, ob 8 [.int h0f0, .int h0f1, .int h0f2, .int h0f3, .int h0f4, .int h0f5, .ref h1, .ref h2, .int h0f8, .int h0f9, .ref h3, .ref h4, .ref h5, .ref h6, .ref h7, .ref h8, .ref h9, .int h0f17, .int h0f18, .int h0f19, .ref h10, .ref h11, .ref h12, .ref h13, .int h0f24, .int h0f25, .ref h14, .ref h15, .ref h16, .ref h17, .int h0f30, .int h0f31, .ref h18, .ref h19, .ref h20, .ref h21]), (h3, aJ (k 1) 9 anJ)]) (qV (B_cX11_makesUnit_8b80d D k h0 h3 h1 h2 h4 h5 h6 h7 h8 h9 h10 h11 h12 h13 h14 h15 h16 h17 h18 h19 h20 h21 x1 x2 x3 h0f0 h0f1 h0f2 h0f3 h0f4 h0f5 h0f8 h0f9 h0f17 h0f18 h0f19 h0f24 h0f25 h0f30 h0f31 (zA [h0, h3] sz)) (zA [h0, h3] sz)) 0 0 (zA [h0, h3] sz) := by
  refine tz_begin (as := [h0, h3]) (Qc := fun A => qV (B_cX11_makesUnit_8b80d D k h0 h3 h1 h2 h4 h5 h6 h7 h8 h9 h10 h11 h12 h13 h14 h15 h16 h17 h18 h19 h20 h21 x1 x2 x3 h0f0 h0f1 h0f2 h0f3 h0f4 h0f5 h0f8 h0f9 h0f17 h0f18 h0f19 h0f24 h0f25 h0f30 h0f31 A) A) (by decide +kernel) rfl (Nat.le_of_ble_eq_true rfl) ?_
  intro p e s m args below meth c ls A Q hx hb hr hml hown hlocks hin hU hK hT hS hA hl hQ
  have hl : lv_has ls 4 [(0, .ref h0), (1, .int x1), (2, .int x2), (3, .int x3)] := hl
  have hT : TP D A [(h0, ob 8 [.int h0f0, .int h0f1, .int h0f2, .int h0f3, .int h0f4, .int h0f5, .ref h1, .ref h2, .int h0f8, .int h0f9, .ref h3, .ref h4, .ref h5, .ref h6, .ref h7, .ref h8, .ref h9, .int h0f17, .int h0f18, .int h0f19, .ref h10, .ref h11, .ref h12, .ref h13, .int h0f24, .int h0f25, .ref h14, .ref h15, .ref h16, .ref h17, .int h0f30, .int h0f31, .ref h18, .ref h19, .ref h20, .ref h21]), (h3, aJ (k 1) 9 anJ)] s.heap := hT
  refine lv_aload_n hx hb dX11_makesUnit_0 rfl (lv_at hl 0 rfl) ?_
  refine lv_aload_n hx hb dX11_makesUnit_1 rfl (lv_at hl 0 rfl) ?_
  refine tz_get (ci := 8) (v := .ref h3) (C := RX11) (F := TX11) (N := 36) hx hb hU iX11 hown hK hT 0 rfl rfl 10 (by decide) w795 (fun _ h9 => h9) rfl dX11_makesUnit_2 ?_
  refine tcV (Tc := [(h0, ob 8 [.int h0f0, .int h0f1, .int h0f2, .int h0f3, .int h0f4, .int h0f5, .ref h1, .ref h2, .int h0f8, .int h0f9, .ref h3, .ref h4, .ref h5, .ref h6, .ref h7, .ref h8, .ref h9, .int h0f17, .int h0f18, .int h0f19, .ref h10, .ref h11, .ref h12, .ref h13, .int h0f24, .int h0f25, .ref h14, .ref h15, .ref h16, .ref h17, .int h0f30, .int h0f31, .ref h18, .ref h19, .ref h20, .ref h21]), (h3, aJ (k 1) 9 anJ)]) (Tr := []) (as := [h0, h3]) (zcV (q0 := 0) (ci := 8) (As := [.ref h3]) (rest := []) (Tc := [(h0, ob 8 [.int h0f0, .int h0f1, .int h0f2, .int h0f3, .int h0f4, .int h0f5, .ref h1, .ref h2, .int h0f8, .int h0f9, .ref h3, .ref h4, .ref h5, .ref h6, .ref h7, .ref h8, .ref h9, .int h0f17, .int h0f18, .int h0f19, .ref h10, .ref h11, .ref h12, .ref h13, .int h0f24, .int h0f25, .ref h14, .ref h15, .ref h16, .ref h17, .int h0f30, .int h0f31, .ref h18, .ref h19, .ref h20, .ref h21]), (h3, aJ (k 1) 9 anJ)]) hx hb hml hown hU hK hT rfl rfl [0, 1] rfl (by decide) (cX11_first_7e6fc l D k _ h0 h3 h1 h2 h4 h5 h6 h7 h8 h9 h10 h11 h12 h13 h14 h15 h16 h17 h18 h19 h20 h21 h0f0 h0f1 h0f2 h0f3 h0f4 h0f5 h0f8 h0f9 h0f17 h0f18 h0f19 h0f24 h0f25 h0f30 h0f31 (by omega) (by omega) (by omega) (by omega) (by omega) (by omega) (by omega) (by omega) (by omega) (by omega) (by omega) (by omega) (by omega) (by omega) (by omega)) w919 w916 w918 w28 w72 hdX11_first ⟨rfl, rfl⟩ ⟨Nat.le_of_ble_eq_true rfl, Nat.le_of_ble_eq_true rfl⟩ rfl hl.1 (Nat.le_of_ble_eq_true rfl) dX11_makesUnit_5 ⟨Nat.le_of_ble_eq_true rfl, Nat.le_of_ble_eq_true rfl⟩) hT hS hA [0, 1] [] rfl rfl rfl (by decide) (by decide) (fun H locs hB J hS => ?_)
  have hT1 := hB
  have hT := J _ hT1
  have hT : TP D A [(h0, ob 8 [.int h0f0, .int h0f1, .int h0f2, .int h0f3, .int h0f4, .int h0f5, .ref h1, .ref h2, .int h0f8, .int h0f9, .ref h3, .ref h4, .ref h5, .ref h6, .ref h7, .ref h8, .ref h9, .int h0f17, .int h0f18, .int h0f19, .ref h10, .ref h11, .ref h12, .ref h13, .int h0f24, .int h0f25, .ref h14, .ref h15, .ref h16, .ref h17, .int h0f30, .int h0f31, .ref h18, .ref h19, .ref h20, .ref h21]), (h3, aJ (k 1) 9 anJ)] _ := hT
  refine lv_aload_n hx hb dX11_makesUnit_8 rfl (lv_at hl 0 rfl) ?_
  refine tz_get (ci := 8) (v := .ref h3) (C := RX11) (F := TX11) (N := 36) hx hb hU iX11 hown hK hT 0 rfl rfl 10 (by decide) w795 (fun _ h9 => h9) rfl dX11_makesUnit_9 ?_
  refine lv_iconst (v := 3) hx hb dX11_makesUnit_12 (by decide) ?_
  refine lv_iload_n hx hb dX11_makesUnit_13 rfl (lv_at hl 1 rfl) ?_
  refine lv_imul hx hb dX11_makesUnit_14 (lv_topi (fun v2 e_v2 => ?_))
  have e_v2 := ai_mul e_v2 li_3 rfl (by omega)
  refine lv_iload_n hx hb dX11_makesUnit_15 rfl (lv_at hl 2 rfl) ?_
  refine lv_iadd hx hb dX11_makesUnit_16 (lv_topi (fun v3 e_v3 => ?_))
  have e_v3 := ai_add e_v3 rfl rfl (by omega)
  refine lv_iload_n hx hb dX11_makesUnit_17 rfl (lv_at hl 3 rfl) ?_
  obtain ⟨v4, e_v4⟩ : ∃ x : Int64, x3.toInt64 = x := ⟨_, rfl⟩
  refine lv_i2l (v := v4) hx hb dX11_makesUnit_18 e_v4 ?_
  have e_v4 := ai_i2l e_v4 rfl
  refine tz_last hx hb hK hT hS 1 rfl (by omega) (fun _ _ => trivial) dX11_makesUnit_19 (fun H locs hT hS => ?_)
  exact tz_retV (B := B_cX11_makesUnit_8b80d D k h0 h3 h1 h2 h4 h5 h6 h7 h8 h9 h10 h11 h12 h13 h14 h15 h16 h17 h18 h19 h20 h21 x1 x2 x3 h0f0 h0f1 h0f2 h0f3 h0f4 h0f5 h0f8 h0f9 h0f17 h0f18 h0f19 h0f24 h0f25 h0f30 h0f31) hQ hx hb hr hlocks hS (Nat.le_of_ble_eq_true rfl) (Nat.le_of_ble_eq_true rfl) dX11_makesUnit_20 (hT)
abbrev Rm_cX11_comes_53948 : Room := { frames := 0, cells := 0, slots := 0, locals := 0 }
abbrev B_cX11_comes_53948 (D : va_G) (k : Nat → ClassId) (h0 h1 h3 h2 h4 h5 h6 h7 h8 h9 h10 h11 h12 h13 h14 h15 h16 h17 h18 h19 h20 h21 : Nat) (h0f0 : Int32) (h0f1 : Int32) (h0f2 : Int32) (h0f3 : Int32) (h0f4 : Int32) (h0f5 : Int32) (h0f8 : Int32) (h0f9 : Int32) (h0f17 : Int32) (h0f18 : Int32) (h0f19 : Int32) (h0f24 : Int32) (h0f25 : Int32) (h0f30 : Int32) (h0f31 : Int32) (A : Nat → Prop) (r : Int32) (H : Heap) : Prop := ∃ o0 : Int32, (1 ≤ o0.toInt ∧ o0.toInt ≤ 4) ∧ (0 ≤ r.toInt ∧ r.toInt ≤ 3) ∧ TP D A [(h0, ob 8 [.int h0f0, .int o0, .int h0f2, .int h0f3, .int h0f4, .int h0f5, .ref h1, .ref h2, .int h0f8, .int 0, .ref h3, .ref h4, .ref h5, .ref h6, .ref h7, .ref h8, .ref h9, .int h0f17, .int h0f18, .int h0f19, .ref h10, .ref h11, .ref h12, .ref h13, .int h0f24, .int h0f25, .ref h14, .ref h15, .ref h16, .ref h17, .int 0, .int h0f31, .ref h18, .ref h19, .ref h20, .ref h21]), (h1, aI (k 0) 36 anI), (h3, aJ (k 1) 9 anJ)] H
set_option maxHeartbeats 4000000 in
set_option maxRecDepth 100000 in
theorem cX11_comes_53948 (l : Launch) (D : va_G) (k : Nat → ClassId) (sz : Nat) (h0 h1 h3 h2 h4 h5 h6 h7 h8 h9 h10 h11 h12 h13 h14 h15 h16 h17 h18 h19 h20 h21 : Nat) (h0f0 : Int32) (h0f1 : Int32) (h0f2 : Int32) (h0f3 : Int32) (h0f4 : Int32) (h0f5 : Int32) (h0f8 : Int32) (h0f9 : Int32) (h0f17 : Int32) (h0f18 : Int32) (h0f19 : Int32) (h0f24 : Int32) (h0f25 : Int32) (h0f30 : Int32) (h0f31 : Int32) (b_h0f0 : 1 ≤ h0f0.toInt ∧ h0f0.toInt ≤ 3) (b_h0f1 : 0 ≤ h0f1.toInt ∧ h0f1.toInt ≤ 3) (b_h0f3 : 0 ≤ h0f3.toInt ∧ h0f3.toInt ≤ 3) (b_h0f4 : 0 ≤ h0f4.toInt ∧ h0f4.toInt ≤ 4) (b_h0f8 : 0 ≤ h0f8.toInt ∧ h0f8.toInt ≤ 1) (b_h0f9 : 0 ≤ h0f9.toInt ∧ h0f9.toInt ≤ 1) (b_h0f17 : 0 ≤ h0f17.toInt ∧ h0f17.toInt ≤ 120) (b_h0f18 : 0 ≤ h0f18.toInt ∧ h0f18.toInt ≤ 120) (b_h0f19 : 0 ≤ h0f19.toInt ∧ h0f19.toInt ≤ 4) (b_h0f24 : 0 ≤ h0f24.toInt ∧ h0f24.toInt ≤ 100) (b_h0f25 : 0 ≤ h0f25.toInt ∧ h0f25.toInt ≤ 1) (b_h0f30 : 0 ≤ h0f30.toInt ∧ h0f30.toInt ≤ 60) (b_h0f31 : 0 ≤ h0f31.toInt ∧ h0f31.toInt ≤ 1) (i_0 : h0f8.toInt ≤ h0f3.toInt) (i_1 : h0f9.toInt ≤ h0f24.toInt) : Met l yX11_comes (Cond.code yX11_comes cX11_comes 2 (some .int) :: uw) Rm_cX11_comes_53948 (pT D k sz [.ref h0] [(h0, ob 8 [.int h0f0, .int h0f1, .int h0f2, .int h0f3, .int h0f4, .int h0f5, .ref h1, .ref h2, .int h0f8, .int h0f9, .ref h3, .ref h4, .ref h5, .ref h6, .ref h7, .ref h8, .ref h9, .int h0f17, .int h0f18, .int h0f19, .ref h10, .ref h11, .ref h12, .ref h13, .int h0f24, .int h0f25, .ref h14, .ref h15, .ref h16, .ref h17, .int h0f30, .int h0f31, .ref h18, .ref h19, .ref h20, .ref h21]), (h1, aI (k 0) 36 anI), (h3, aJ (k 1) 9 anJ)]) (qI (B_cX11_comes_53948 D k h0 h1 h3 h2 h4 h5 h6 h7 h8 h9 h10 h11 h12 h13 h14 h15 h16 h17 h18 h19 h20 h21 h0f0 h0f1 h0f2 h0f3 h0f4 h0f5 h0f8 h0f9 h0f17 h0f18 h0f19 h0f24 h0f25 h0f30 h0f31 (zA [h0, h1, h3] sz)) (zA [h0, h1, h3] sz)) 0 0 (zA [h0, h1, h3] sz) := by
  refine tz_begin (as := [h0, h1, h3]) (Qc := fun A => qI (B_cX11_comes_53948 D k h0 h1 h3 h2 h4 h5 h6 h7 h8 h9 h10 h11 h12 h13 h14 h15 h16 h17 h18 h19 h20 h21 h0f0 h0f1 h0f2 h0f3 h0f4 h0f5 h0f8 h0f9 h0f17 h0f18 h0f19 h0f24 h0f25 h0f30 h0f31 A) A) (by decide +kernel) rfl (Nat.le_of_ble_eq_true rfl) ?_
  intro p e s m args below meth c ls A Q hx hb hr hml hown hlocks hin hU hK hT hS hA hl hQ
  have hl : lv_has ls 2 [(0, .ref h0)] := hl
  have hT : TP D A [(h0, ob 8 [.int h0f0, .int h0f1, .int h0f2, .int h0f3, .int h0f4, .int h0f5, .ref h1, .ref h2, .int h0f8, .int h0f9, .ref h3, .ref h4, .ref h5, .ref h6, .ref h7, .ref h8, .ref h9, .int h0f17, .int h0f18, .int h0f19, .ref h10, .ref h11, .ref h12, .ref h13, .int h0f24, .int h0f25, .ref h14, .ref h15, .ref h16, .ref h17, .int h0f30, .int h0f31, .ref h18, .ref h19, .ref h20, .ref h21]), (h1, aI (k 0) 36 anI), (h3, aJ (k 1) 9 anJ)] s.heap := hT
  refine lv_iconst (v := 0) hx hb dX11_comes_0 (by decide) ?_
  refine lv_istore_n (lv' := [(1, .int 0), (0, .ref h0)]) hx hb dX11_comes_1 rfl hl (by decide) rfl (fun ls hl => ?_)
  have lp2_8 : ∀ (n : Nat) (y7 : Int32) (H : Heap) (locs : List Loc) (ls : Array Slot), (0 ≤ y7.toInt ∧ y7.toInt ≤ 9) → ((-1) * y7.toInt + 9 + 1).toNat < n → TP D A [(h0, ob 8 [.int h0f0, .int h0f1, .int h0f2, .int h0f3, .int h0f4, .int h0f5, .ref h1, .ref h2, .int h0f8, .int h0f9, .ref h3, .ref h4, .ref h5, .ref h6, .ref h7, .ref h8, .ref h9, .int h0f17, .int h0f18, .int h0f19, .ref h10, .ref h11, .ref h12, .ref h13, .int h0f24, .int h0f25, .ref h14, .ref h15, .ref h16, .ref h17, .int h0f30, .int h0f31, .ref h18, .ref h19, .ref h20, .ref h21]), (h1, aI (k 0) 36 anI), (h3, aJ (k 1) 9 anJ)] H → va_S A s.heap H locs → lv_has ls 2 [(0, .ref h0), (1, .int y7)] → W p l e Rm_cX11_comes_53948 s m args below meth c H locs 0 0 Q (F0 m 2 ls []) := by
    intro n
    induction n with
    | zero => intro y7 H locs ls b_y7 hm hT hS hl; exact absurd hm (Nat.not_lt_zero _)
    | succ n ih =>
      intro y7 H locs ls b_y7 hm hT hS hl
      have ih2_8 := ih
      clear ih
      refine lv_iload_n hx hb dX11_comes_2 rfl (lv_at hl 1 rfl) ?_
      refine lv_bipush (v := 9) hx hb dX11_comes_3 (by decide) ?_
      refine lv_icmp_ge (tgt := 35) hx hb dX11_comes_5 (by decide) (fun c_9 => ?_) (fun c_9 => ?_)
      · skip
        have c_9 := ni_le c_9 li_9 rfl
        refine lv_aload_n hx hb dX11_comes_35 rfl (lv_at hl 0 rfl) ?_
        refine lv_dup hx hb dX11_comes_36 rfl ?_
        refine tz_get (ci := 8) (v := .int h0f1) (C := RX11) (F := TX11) (N := 36) hx hb hU iX11 hown hK hT 0 rfl rfl 1 (by decide) w786 (fun _ h9 => h9) rfl dX11_comes_37 ?_
        refine lv_iconst (v := 1) hx hb dX11_comes_40 (by decide) ?_
        refine lv_iadd hx hb dX11_comes_41 (lv_topi (fun v10 e_v10 => ?_))
        have e_v10 := ai_add e_v10 rfl li_1 (by omega)
        refine tz_put (ci := 8) (v := .int v10) (ty := .int) (C := RX11) (F := TX11) (N := 36) hx hb hU iX11 tyX11 tyX11_ok nmX11 hown hK hT hS 0 rfl rfl 1 (by decide) w786 (fun _ h9 => h9) rfl (by decide +kernel) rfl rfl (Nat.le_of_ble_eq_true rfl) dX11_comes_42 (fun H locs hT hS => ?_)
        have hT : TP D A [(h0, ob 8 [.int h0f0, .int v10, .int h0f2, .int h0f3, .int h0f4, .int h0f5, .ref h1, .ref h2, .int h0f8, .int h0f9, .ref h3, .ref h4, .ref h5, .ref h6, .ref h7, .ref h8, .ref h9, .int h0f17, .int h0f18, .int h0f19, .ref h10, .ref h11, .ref h12, .ref h13, .int h0f24, .int h0f25, .ref h14, .ref h15, .ref h16, .ref h17, .int h0f30, .int h0f31, .ref h18, .ref h19, .ref h20, .ref h21]), (h1, aI (k 0) 36 anI), (h3, aJ (k 1) 9 anJ)] _ := hT
        refine lv_aload_n hx hb dX11_comes_45 rfl (lv_at hl 0 rfl) ?_
        refine lv_iconst (v := 0) hx hb dX11_comes_46 (by decide) ?_
        refine tz_put (ci := 8) (v := .int 0) (ty := .boolean) (C := RX11) (F := TX11) (N := 36) hx hb hU iX11 tyX11 tyX11_ok nmX11 hown hK hT hS 0 rfl rfl 9 (by decide) w794 (fun _ h9 => h9) rfl (by decide +kernel) rfl rfl (Nat.le_of_ble_eq_true rfl) dX11_comes_47 (fun H locs hT hS => ?_)
        have hT : TP D A [(h0, ob 8 [.int h0f0, .int v10, .int h0f2, .int h0f3, .int h0f4, .int h0f5, .ref h1, .ref h2, .int h0f8, .int 0, .ref h3, .ref h4, .ref h5, .ref h6, .ref h7, .ref h8, .ref h9, .int h0f17, .int h0f18, .int h0f19, .ref h10, .ref h11, .ref h12, .ref h13, .int h0f24, .int h0f25, .ref h14, .ref h15, .ref h16, .ref h17, .int h0f30, .int h0f31, .ref h18, .ref h19, .ref h20, .ref h21]), (h1, aI (k 0) 36 anI), (h3, aJ (k 1) 9 anJ)] _ := hT
        refine lv_aload_n hx hb dX11_comes_50 rfl (lv_at hl 0 rfl) ?_
        refine lv_iconst (v := 0) hx hb dX11_comes_51 (by decide) ?_
        refine tz_put (ci := 8) (v := .int 0) (ty := .int) (C := RX11) (F := TX11) (N := 36) hx hb hU iX11 tyX11 tyX11_ok nmX11 hown hK hT hS 0 rfl rfl 30 (by decide) w815 (fun _ h9 => h9) rfl (by decide +kernel) rfl rfl (Nat.le_of_ble_eq_true rfl) dX11_comes_52 (fun H locs hT hS => ?_)
        have hT : TP D A [(h0, ob 8 [.int h0f0, .int v10, .int h0f2, .int h0f3, .int h0f4, .int h0f5, .ref h1, .ref h2, .int h0f8, .int 0, .ref h3, .ref h4, .ref h5, .ref h6, .ref h7, .ref h8, .ref h9, .int h0f17, .int h0f18, .int h0f19, .ref h10, .ref h11, .ref h12, .ref h13, .int h0f24, .int h0f25, .ref h14, .ref h15, .ref h16, .ref h17, .int 0, .int h0f31, .ref h18, .ref h19, .ref h20, .ref h21]), (h1, aI (k 0) 36 anI), (h3, aJ (k 1) 9 anJ)] _ := hT
        refine lv_aload_n hx hb dX11_comes_55 rfl (lv_at hl 0 rfl) ?_
        refine tz_get (ci := 8) (v := .int v10) (C := RX11) (F := TX11) (N := 36) hx hb hU iX11 hown hK hT 0 rfl rfl 1 (by decide) w786 (fun _ h9 => h9) rfl dX11_comes_56 ?_
        refine lv_iconst (v := 1) hx hb dX11_comes_59 (by decide) ?_
        refine lv_isub hx hb dX11_comes_60 (lv_topi (fun v11 e_v11 => ?_))
        have e_v11 := ai_sub e_v11 rfl li_1 (by omega)
        exact tz_retI (B := B_cX11_comes_53948 D k h0 h1 h3 h2 h4 h5 h6 h7 h8 h9 h10 h11 h12 h13 h14 h15 h16 h17 h18 h19 h20 h21 h0f0 h0f1 h0f2 h0f3 h0f4 h0f5 h0f8 h0f9 h0f17 h0f18 h0f19 h0f24 h0f25 h0f30 h0f31) (v := v11) hQ hx hb hr hlocks hS (Nat.le_of_ble_eq_true rfl) (Nat.le_of_ble_eq_true rfl) dX11_comes_61 (⟨v10, (by omega), (by omega), hT⟩)
      · skip
        have c_9 := ni_nle c_9 li_9 rfl
        refine lv_aload_n hx hb dX11_comes_8 rfl (lv_at hl 0 rfl) ?_
        refine tz_get (ci := 8) (v := .ref h1) (C := RX11) (F := TX11) (N := 36) hx hb hU iX11 hown hK hT 0 rfl rfl 6 (by decide) w791 (fun _ h9 => h9) rfl dX11_comes_9 ?_
        refine lv_bipush (v := 9) hx hb dX11_comes_12 (by decide) ?_
        refine lv_aload_n hx hb dX11_comes_14 rfl (lv_at hl 0 rfl) ?_
        refine tz_get (ci := 8) (v := .int h0f1) (C := RX11) (F := TX11) (N := 36) hx hb hU iX11 hown hK hT 0 rfl rfl 1 (by decide) w786 (fun _ h9 => h9) rfl dX11_comes_15 ?_
        refine lv_imul hx hb dX11_comes_18 (lv_topi (fun v12 e_v12 => ?_))
        have e_v12 := ai_mul e_v12 li_9 rfl (by omega)
        refine lv_iload_n hx hb dX11_comes_19 rfl (lv_at hl 1 rfl) ?_
        refine lv_iadd hx hb dX11_comes_20 (lv_topi (fun v13 e_v13 => ?_))
        have e_v13 := ai_add e_v13 rfl rfl (by omega)
        refine lv_aload_n hx hb dX11_comes_21 rfl (lv_at hl 0 rfl) ?_
        refine tz_get (ci := 8) (v := .ref h3) (C := RX11) (F := TX11) (N := 36) hx hb hU iX11 hown hK hT 0 rfl rfl 10 (by decide) w795 (fun _ h9 => h9) rfl dX11_comes_22 ?_
        refine lv_iload_n hx hb dX11_comes_25 rfl (lv_at hl 1 rfl) ?_
        refine tz_lald hx hb hK hT 2 rfl (by omega) dX11_comes_26 (fun v14 e_v14 => ?_)
        clear e_v14
        refine lv_l2i hx hb dX11_comes_27 rfl (lv_topi (fun v15 _ => ?_))
        refine tz_iast hx hb hK hT hS 1 rfl (by omega) (fun _ _ => trivial) dX11_comes_28 (fun H locs hT hS => ?_)
        obtain ⟨v16, e_v16⟩ : ∃ x : Int32, x = y7 + Int32.ofInt 1 := ⟨_, rfl⟩
        have f_v16 := e_v16.symm
        have e_v16 : v16.toInt = y7.toInt + 1 := ai_add e_v16 rfl (show (Int32.ofInt 1).toInt = 1 from (by decide +kernel)) (by omega)
        refine lv_iinc (v := v16) (lv' := [(1, .int v16), (0, .ref h0)]) hx hb dX11_comes_29 hl (k := 1) rfl f_v16 (by decide) rfl (fun ls hl => ?_)
        refine lv_goto (tgt := 2) hx hb dX11_comes_32 (by decide) ?_
        exact ih2_8 v16 _ _ _ (by omega)  (by omega) hT hS (lv_sub hl [1, 0] rfl)
  exact lp2_8 (((-1) * (0 : Int32).toInt + 9 + 1).toNat + 1) (0) _ _ _ (by have := li_0; omega)  (Nat.lt_succ_self _) hT hS (lv_sub hl [1, 0] rfl)
abbrev Rm_cX11_unit_9d272 : Room := { frames := 3, cells := 0, slots := 0, locals := 67 }
abbrev B_cX11_unit_9d272 (D : va_G) (k : Nat → ClassId) (h0 h1 h3 h2 h4 h5 h6 h7 h8 h9 h10 h11 h12 h13 h14 h15 h16 h17 h18 h19 h20 h21 : Nat) (x1 : Int32) (x2 : Int32) (x3 : Int32) (h0f0 : Int32) (h0f1 : Int32) (h0f2 : Int32) (h0f3 : Int32) (h0f4 : Int32) (h0f5 : Int32) (h0f8 : Int32) (h0f9 : Int32) (h0f17 : Int32) (h0f18 : Int32) (h0f19 : Int32) (h0f24 : Int32) (h0f25 : Int32) (h0f30 : Int32) (h0f31 : Int32) (A : Nat → Prop) (r : Int32) (H : Heap) : Prop := ∃ o0 : Int32, ∃ o1 : Int32, ∃ o2 : Int32, (0 ≤ o0.toInt ∧ o0.toInt ≤ 4) ∧ (0 ≤ o1.toInt ∧ o1.toInt ≤ 1) ∧ (0 ≤ o2.toInt ∧ o2.toInt ≤ 60) ∧ ((-2) ≤ r.toInt ∧ r.toInt ≤ 3) ∧ (o2.toInt = 0 ∨ (o2.toInt = h0f30.toInt ∧ o0.toInt = h0f1.toInt ∧ h0f31.toInt = h0f31.toInt)) ∧ (o1.toInt = 0 ∨ o1.toInt = h0f9.toInt) ∧ TP D A [(h0, ob 8 [.int h0f0, .int o0, .int h0f2, .int h0f3, .int h0f4, .int h0f5, .ref h1, .ref h2, .int h0f8, .int o1, .ref h3, .ref h4, .ref h5, .ref h6, .ref h7, .ref h8, .ref h9, .int h0f17, .int h0f18, .int h0f19, .ref h10, .ref h11, .ref h12, .ref h13, .int h0f24, .int h0f25, .ref h14, .ref h15, .ref h16, .ref h17, .int o2, .int h0f31, .ref h18, .ref h19, .ref h20, .ref h21]), (h1, aI (k 0) 36 anI), (h3, aJ (k 1) 9 anJ)] H
set_option maxHeartbeats 4000000 in
set_option maxRecDepth 100000 in
theorem cX11_unit_9d272 (l : Launch) (D : va_G) (k : Nat → ClassId) (sz : Nat) (h0 h1 h3 h2 h4 h5 h6 h7 h8 h9 h10 h11 h12 h13 h14 h15 h16 h17 h18 h19 h20 h21 : Nat) (x1 : Int32) (x2 : Int32) (x3 : Int32) (h0f0 : Int32) (h0f1 : Int32) (h0f2 : Int32) (h0f3 : Int32) (h0f4 : Int32) (h0f5 : Int32) (h0f8 : Int32) (h0f9 : Int32) (h0f17 : Int32) (h0f18 : Int32) (h0f19 : Int32) (h0f24 : Int32) (h0f25 : Int32) (h0f30 : Int32) (h0f31 : Int32) (b_h0f0 : 1 ≤ h0f0.toInt ∧ h0f0.toInt ≤ 3) (b_h0f1 : 0 ≤ h0f1.toInt ∧ h0f1.toInt ≤ 4) (b_h0f3 : 0 ≤ h0f3.toInt ∧ h0f3.toInt ≤ 3) (b_h0f4 : 0 ≤ h0f4.toInt ∧ h0f4.toInt ≤ 4) (b_h0f8 : 0 ≤ h0f8.toInt ∧ h0f8.toInt ≤ 1) (b_h0f9 : 0 ≤ h0f9.toInt ∧ h0f9.toInt ≤ 1) (b_h0f17 : 0 ≤ h0f17.toInt ∧ h0f17.toInt ≤ 120) (b_h0f18 : 0 ≤ h0f18.toInt ∧ h0f18.toInt ≤ 120) (b_h0f19 : 0 ≤ h0f19.toInt ∧ h0f19.toInt ≤ 4) (b_h0f24 : 0 ≤ h0f24.toInt ∧ h0f24.toInt ≤ 100) (b_h0f25 : 0 ≤ h0f25.toInt ∧ h0f25.toInt ≤ 1) (b_h0f30 : 0 ≤ h0f30.toInt ∧ h0f30.toInt ≤ 60) (b_h0f31 : 0 ≤ h0f31.toInt ∧ h0f31.toInt ≤ 1) (i_0 : h0f8.toInt ≤ h0f3.toInt) (i_1 : h0f9.toInt ≤ h0f24.toInt) : Met l yX11_unit (Cond.code yX11_unit cX11_unit 4 (some .int) :: uw) Rm_cX11_unit_9d272 (pT D k sz [.ref h0, .int x1, .int x2, .int x3] [(h0, ob 8 [.int h0f0, .int h0f1, .int h0f2, .int h0f3, .int h0f4, .int h0f5, .ref h1, .ref h2, .int h0f8, .int h0f9, .ref h3, .ref h4, .ref h5, .ref h6, .ref h7, .ref h8, .ref h9, .int h0f17, .int h0f18, .int h0f19, .ref h10, .ref h11, .ref h12, .ref h13, .int h0f24, .int h0f25, .ref h14, .ref h15, .ref h16, .ref h17, .int h0f30, .int h0f31, .ref h18, .ref h19, .ref h20, .ref h21]), (h1, aI (k 0) 36 anI), (h3, aJ (k 1) 9 anJ)]) (qI (B_cX11_unit_9d272 D k h0 h1 h3 h2 h4 h5 h6 h7 h8 h9 h10 h11 h12 h13 h14 h15 h16 h17 h18 h19 h20 h21 x1 x2 x3 h0f0 h0f1 h0f2 h0f3 h0f4 h0f5 h0f8 h0f9 h0f17 h0f18 h0f19 h0f24 h0f25 h0f30 h0f31 (zA [h0, h1, h3] sz)) (zA [h0, h1, h3] sz)) 0 0 (zA [h0, h1, h3] sz) := by
  refine tz_begin (as := [h0, h1, h3]) (Qc := fun A => qI (B_cX11_unit_9d272 D k h0 h1 h3 h2 h4 h5 h6 h7 h8 h9 h10 h11 h12 h13 h14 h15 h16 h17 h18 h19 h20 h21 x1 x2 x3 h0f0 h0f1 h0f2 h0f3 h0f4 h0f5 h0f8 h0f9 h0f17 h0f18 h0f19 h0f24 h0f25 h0f30 h0f31 A) A) (by decide +kernel) rfl (Nat.le_of_ble_eq_true rfl) ?_
  intro p e s m args below meth c ls A Q hx hb hr hml hown hlocks hin hU hK hT hS hA hl hQ
  have hl : lv_has ls 4 [(0, .ref h0), (1, .int x1), (2, .int x2), (3, .int x3)] := hl
  have hT : TP D A [(h0, ob 8 [.int h0f0, .int h0f1, .int h0f2, .int h0f3, .int h0f4, .int h0f5, .ref h1, .ref h2, .int h0f8, .int h0f9, .ref h3, .ref h4, .ref h5, .ref h6, .ref h7, .ref h8, .ref h9, .int h0f17, .int h0f18, .int h0f19, .ref h10, .ref h11, .ref h12, .ref h13, .int h0f24, .int h0f25, .ref h14, .ref h15, .ref h16, .ref h17, .int h0f30, .int h0f31, .ref h18, .ref h19, .ref h20, .ref h21]), (h1, aI (k 0) 36 anI), (h3, aJ (k 1) 9 anJ)] s.heap := hT
  refine lv_aload_n hx hb dX11_unit_0 rfl (lv_at hl 0 rfl) ?_
  refine lv_iload_n hx hb dX11_unit_1 rfl (lv_at hl 1 rfl) ?_
  refine tcI (Tc := [(h0, ob 8 [.int h0f0, .int h0f1, .int h0f2, .int h0f3, .int h0f4, .int h0f5, .ref h1, .ref h2, .int h0f8, .int h0f9, .ref h3, .ref h4, .ref h5, .ref h6, .ref h7, .ref h8, .ref h9, .int h0f17, .int h0f18, .int h0f19, .ref h10, .ref h11, .ref h12, .ref h13, .int h0f24, .int h0f25, .ref h14, .ref h15, .ref h16, .ref h17, .int h0f30, .int h0f31, .ref h18, .ref h19, .ref h20, .ref h21])]) (Tr := [(h1, aI (k 0) 36 anI), (h3, aJ (k 1) 9 anJ)]) (as := [h0]) (zcV (q0 := 0) (ci := 8) (As := [.int x1]) (rest := []) (Tc := [(h0, ob 8 [.int h0f0, .int h0f1, .int h0f2, .int h0f3, .int h0f4, .int h0f5, .ref h1, .ref h2, .int h0f8, .int h0f9, .ref h3, .ref h4, .ref h5, .ref h6, .ref h7, .ref h8, .ref h9, .int h0f17, .int h0f18, .int h0f19, .ref h10, .ref h11, .ref h12, .ref h13, .int h0f24, .int h0f25, .ref h14, .ref h15, .ref h16, .ref h17, .int h0f30, .int h0f31, .ref h18, .ref h19, .ref h20, .ref h21])]) hx hb hml hown hU hK hT rfl rfl [0] rfl (by decide) (cX11_isPlace_24f09 l D k _ h0 h1 h2 h3 h4 h5 h6 h7 h8 h9 h10 h11 h12 h13 h14 h15 h16 h17 h18 h19 h20 h21 x1 h0f0 h0f1 h0f2 h0f3 h0f4 h0f5 h0f8 h0f9 h0f17 h0f18 h0f19 h0f24 h0f25 h0f30 h0f31 (by omega) (by omega) (by omega) (by omega) (by omega) (by omega) (by omega) (by omega) (by omega) (by omega) (by omega) (by omega) (by omega) (by omega) (by omega)) w909 w906 w908 w26 w72 hdX11_isPlace ⟨rfl, rfl⟩ ⟨Nat.le_of_ble_eq_true rfl, Nat.le_of_ble_eq_true rfl⟩ rfl hl.1 (Nat.le_of_ble_eq_true rfl) dX11_unit_2 ⟨Nat.le_of_ble_eq_true rfl, Nat.le_of_ble_eq_true rfl⟩) hT hS hA [0] [1, 2] rfl rfl rfl (by decide) (by decide) (fun r1 H locs hB J hS => ?_)
  rcases hB with ⟨rfl, hT1⟩ | ⟨c_2, c_3, c_4, c_5, rfl, hT1⟩
  · skip
    have hT := J _ hT1
    have hT : TP D A [(h1, aI (k 0) 36 anI), (h3, aJ (k 1) 9 anJ), (h0, ob 8 [.int h0f0, .int h0f1, .int h0f2, .int h0f3, .int h0f4, .int h0f5, .ref h1, .ref h2, .int h0f8, .int h0f9, .ref h3, .ref h4, .ref h5, .ref h6, .ref h7, .ref h8, .ref h9, .int h0f17, .int h0f18, .int h0f19, .ref h10, .ref h11, .ref h12, .ref h13, .int h0f24, .int h0f25, .ref h14, .ref h15, .ref h16, .ref h17, .int h0f30, .int h0f31, .ref h18, .ref h19, .ref h20, .ref h21])] _ := hT
    refine lv_if_eq (tgt := 48) hx hb dX11_unit_5 (by decide) (fun _ => ?_) (fun cc => absurd (by decide +kernel) cc)
    refine lv_iconst (v := (-1)) hx hb dX11_unit_48 (by decide) ?_
    exact tz_retI (B := B_cX11_unit_9d272 D k h0 h1 h3 h2 h4 h5 h6 h7 h8 h9 h10 h11 h12 h13 h14 h15 h16 h17 h18 h19 h20 h21 x1 x2 x3 h0f0 h0f1 h0f2 h0f3 h0f4 h0f5 h0f8 h0f9 h0f17 h0f18 h0f19 h0f24 h0f25 h0f30 h0f31) (v := (-1)) hQ hx hb hr hlocks hS (Nat.le_of_ble_eq_true rfl) (Nat.le_of_ble_eq_true rfl) dX11_unit_49 (⟨h0f1, h0f9, h0f30, (by have := li_m1; omega), (by have := li_m1; omega), (by have := li_m1; omega), (by have := li_m1; omega), (by have := li_m1; omega), (by have := li_m1; omega), (hT.sub [2, 0, 1] (by decide) rfl)⟩)
  · skip
    have hT := J _ hT1
    have hT : TP D A [(h1, aI (k 0) 36 anI), (h3, aJ (k 1) 9 anJ), (h0, ob 8 [.int h0f0, .int h0f1, .int h0f2, .int h0f3, .int h0f4, .int h0f5, .ref h1, .ref h2, .int h0f8, .int h0f9, .ref h3, .ref h4, .ref h5, .ref h6, .ref h7, .ref h8, .ref h9, .int h0f17, .int h0f18, .int h0f19, .ref h10, .ref h11, .ref h12, .ref h13, .int h0f24, .int h0f25, .ref h14, .ref h15, .ref h16, .ref h17, .int h0f30, .int h0f31, .ref h18, .ref h19, .ref h20, .ref h21])] _ := hT
    refine lv_if_eq (tgt := 48) hx hb dX11_unit_5 (by decide) (fun cc => absurd cc (by decide +kernel)) (fun _ => ?_)
    refine lv_aload_n hx hb dX11_unit_8 rfl (lv_at hl 0 rfl) ?_
    refine lv_iload_n hx hb dX11_unit_9 rfl (lv_at hl 2 rfl) ?_
    refine tcI (Tc := [(h0, ob 8 [.int h0f0, .int h0f1, .int h0f2, .int h0f3, .int h0f4, .int h0f5, .ref h1, .ref h2, .int h0f8, .int h0f9, .ref h3, .ref h4, .ref h5, .ref h6, .ref h7, .ref h8, .ref h9, .int h0f17, .int h0f18, .int h0f19, .ref h10, .ref h11, .ref h12, .ref h13, .int h0f24, .int h0f25, .ref h14, .ref h15, .ref h16, .ref h17, .int h0f30, .int h0f31, .ref h18, .ref h19, .ref h20, .ref h21])]) (Tr := [(h1, aI (k 0) 36 anI), (h3, aJ (k 1) 9 anJ)]) (as := [h0]) (zcV (q0 := 2) (ci := 8) (As := [.int x2]) (rest := []) (Tc := [(h0, ob 8 [.int h0f0, .int h0f1, .int h0f2, .int h0f3, .int h0f4, .int h0f5, .ref h1, .ref h2, .int h0f8, .int h0f9, .ref h3, .ref h4, .ref h5, .ref h6, .ref h7, .ref h8, .ref h9, .int h0f17, .int h0f18, .int h0f19, .ref h10, .ref h11, .ref h12, .ref h13, .int h0f24, .int h0f25, .ref h14, .ref h15, .ref h16, .ref h17, .int h0f30, .int h0f31, .ref h18, .ref h19, .ref h20, .ref h21])]) hx hb hml hown hU hK hT rfl rfl [2] rfl (by decide) (cX11_isPlace_24f09 l D k _ h0 h1 h2 h3 h4 h5 h6 h7 h8 h9 h10 h11 h12 h13 h14 h15 h16 h17 h18 h19 h20 h21 x2 h0f0 h0f1 h0f2 h0f3 h0f4 h0f5 h0f8 h0f9 h0f17 h0f18 h0f19 h0f24 h0f25 h0f30 h0f31 (by omega) (by omega) (by omega) (by omega) (by omega) (by omega) (by omega) (by omega) (by omega) (by omega) (by omega) (by omega) (by omega) (by omega) (by omega)) w909 w906 w908 w26 w72 hdX11_isPlace ⟨rfl, rfl⟩ ⟨Nat.le_of_ble_eq_true rfl, Nat.le_of_ble_eq_true rfl⟩ rfl hl.1 (Nat.le_of_ble_eq_true rfl) dX11_unit_10 ⟨Nat.le_of_ble_eq_true rfl, Nat.le_of_ble_eq_true rfl⟩) hT hS hA [2] [0, 1] rfl rfl rfl (by decide) (by decide) (fun r6 H locs hB J hS => ?_)
    rcases hB with ⟨rfl, hT1⟩ | ⟨c_7, c_8, c_9, c_10, rfl, hT1⟩
    · skip
      have hT := J _ hT1
      have hT : TP D A [(h1, aI (k 0) 36 anI), (h3, aJ (k 1) 9 anJ), (h0, ob 8 [.int h0f0, .int h0f1, .int h0f2, .int h0f3, .int h0f4, .int h0f5, .ref h1, .ref h2, .int h0f8, .int h0f9, .ref h3, .ref h4, .ref h5, .ref h6, .ref h7, .ref h8, .ref h9, .int h0f17, .int h0f18, .int h0f19, .ref h10, .ref h11, .ref h12, .ref h13, .int h0f24, .int h0f25, .ref h14, .ref h15, .ref h16, .ref h17, .int h0f30, .int h0f31, .ref h18, .ref h19, .ref h20, .ref h21])] _ := hT
      refine lv_if_eq (tgt := 48) hx hb dX11_unit_13 (by decide) (fun _ => ?_) (fun cc => absurd (by decide +kernel) cc)
      refine lv_iconst (v := (-1)) hx hb dX11_unit_48 (by decide) ?_
      exact tz_retI (B := B_cX11_unit_9d272 D k h0 h1 h3 h2 h4 h5 h6 h7 h8 h9 h10 h11 h12 h13 h14 h15 h16 h17 h18 h19 h20 h21 x1 x2 x3 h0f0 h0f1 h0f2 h0f3 h0f4 h0f5 h0f8 h0f9 h0f17 h0f18 h0f19 h0f24 h0f25 h0f30 h0f31) (v := (-1)) hQ hx hb hr hlocks hS (Nat.le_of_ble_eq_true rfl) (Nat.le_of_ble_eq_true rfl) dX11_unit_49 (⟨h0f1, h0f9, h0f30, (by have := li_m1; omega), (by have := li_m1; omega), (by have := li_m1; omega), (by have := li_m1; omega), (by have := li_m1; omega), (by have := li_m1; omega), (hT.sub [2, 0, 1] (by decide) rfl)⟩)
    · skip
      have hT := J _ hT1
      have hT : TP D A [(h1, aI (k 0) 36 anI), (h3, aJ (k 1) 9 anJ), (h0, ob 8 [.int h0f0, .int h0f1, .int h0f2, .int h0f3, .int h0f4, .int h0f5, .ref h1, .ref h2, .int h0f8, .int h0f9, .ref h3, .ref h4, .ref h5, .ref h6, .ref h7, .ref h8, .ref h9, .int h0f17, .int h0f18, .int h0f19, .ref h10, .ref h11, .ref h12, .ref h13, .int h0f24, .int h0f25, .ref h14, .ref h15, .ref h16, .ref h17, .int h0f30, .int h0f31, .ref h18, .ref h19, .ref h20, .ref h21])] _ := hT
      refine lv_if_eq (tgt := 48) hx hb dX11_unit_13 (by decide) (fun cc => absurd cc (by decide +kernel)) (fun _ => ?_)
      refine lv_iload_n hx hb dX11_unit_16 rfl (lv_at hl 1 rfl) ?_
      refine lv_iload_n hx hb dX11_unit_17 rfl (lv_at hl 2 rfl) ?_
      refine lv_icmp_ne (tgt := 34) hx hb dX11_unit_18 (by decide) (fun c_11 => ?_) (fun c_11 => ?_)
      · skip
        have c_11 := ni_ne c_11 rfl rfl
        refine lv_iload_n hx hb dX11_unit_34 rfl (lv_at hl 3 rfl) ?_
        have tb_x3 := i32b x3
        obtain ⟨v12, e_v12⟩ : ∃ x : Int64, x3.toInt64 = x := ⟨_, rfl⟩
        refine lv_i2l (v := v12) hx hb dX11_unit_35 e_v12 ?_
        have e_v12 := ai_i2l e_v12 rfl
        refine lv_ldc2 hx hb hown (hU _ w910) dX11_unit_36 ?_
        refine lv_ldc2 hx hb hown (hU _ w911) dX11_unit_39 ?_
        have q_q14 := ll_m99
        have q_q15 := ll_99
        refine tcI (Tc := []) (Tr := [(h1, aI (k 0) 36 anI), (h3, aJ (k 1) 9 anJ), (h0, ob 8 [.int h0f0, .int h0f1, .int h0f2, .int h0f3, .int h0f4, .int h0f5, .ref h1, .ref h2, .int h0f8, .int h0f9, .ref h3, .ref h4, .ref h5, .ref h6, .ref h7, .ref h8, .ref h9, .int h0f17, .int h0f18, .int h0f19, .ref h10, .ref h11, .ref h12, .ref h13, .int h0f24, .int h0f25, .ref h14, .ref h15, .ref h16, .ref h17, .int h0f30, .int h0f31, .ref h18, .ref h19, .ref h20, .ref h21])]) (as := []) (zcS (As := [.long v12, .long (-99), .long 99]) (rest := []) (Tc := []) hx hb hml hown hU hK hT [] rfl (by decide) (cX11_in_ca3b9 l D k _ v12 ((-99)) (99) (by have := ll_m99; omega) (by have := ll_99; omega)) w901 w899 w900 w72 hdX11_in ⟨rfl, rfl⟩ ⟨Nat.le_of_ble_eq_true rfl, Nat.le_of_ble_eq_true rfl⟩ rfl hl.1 (Nat.le_of_ble_eq_true rfl) dX11_unit_42 ⟨Nat.le_of_ble_eq_true rfl, Nat.le_of_ble_eq_true rfl⟩) hT hS hA [] [0, 1, 2] rfl rfl rfl (by decide) (by decide) (fun r13 H locs hB J hS => ?_)
        rcases hB with ⟨rfl, hT1⟩ | ⟨c_16, c_17, rfl, hT1⟩
        · skip
          have hT := J _ hT1
          have hT : TP D A [(h1, aI (k 0) 36 anI), (h3, aJ (k 1) 9 anJ), (h0, ob 8 [.int h0f0, .int h0f1, .int h0f2, .int h0f3, .int h0f4, .int h0f5, .ref h1, .ref h2, .int h0f8, .int h0f9, .ref h3, .ref h4, .ref h5, .ref h6, .ref h7, .ref h8, .ref h9, .int h0f17, .int h0f18, .int h0f19, .ref h10, .ref h11, .ref h12, .ref h13, .int h0f24, .int h0f25, .ref h14, .ref h15, .ref h16, .ref h17, .int h0f30, .int h0f31, .ref h18, .ref h19, .ref h20, .ref h21])] _ := hT
          refine lv_if_ne (tgt := 50) hx hb dX11_unit_45 (by decide) (fun cc => absurd (by decide +kernel) cc) (fun _ => ?_)
          refine lv_iconst (v := (-1)) hx hb dX11_unit_48 (by decide) ?_
          exact tz_retI (B := B_cX11_unit_9d272 D k h0 h1 h3 h2 h4 h5 h6 h7 h8 h9 h10 h11 h12 h13 h14 h15 h16 h17 h18 h19 h20 h21 x1 x2 x3 h0f0 h0f1 h0f2 h0f3 h0f4 h0f5 h0f8 h0f9 h0f17 h0f18 h0f19 h0f24 h0f25 h0f30 h0f31) (v := (-1)) hQ hx hb hr hlocks hS (Nat.le_of_ble_eq_true rfl) (Nat.le_of_ble_eq_true rfl) dX11_unit_49 (⟨h0f1, h0f9, h0f30, (by have := li_m1; omega), (by have := li_m1; omega), (by have := li_m1; omega), (by have := li_m1; omega), (by have := li_m1; omega), (by have := li_m1; omega), (hT.sub [2, 0, 1] (by decide) rfl)⟩)
        · skip
          have hT := J _ hT1
          have hT : TP D A [(h1, aI (k 0) 36 anI), (h3, aJ (k 1) 9 anJ), (h0, ob 8 [.int h0f0, .int h0f1, .int h0f2, .int h0f3, .int h0f4, .int h0f5, .ref h1, .ref h2, .int h0f8, .int h0f9, .ref h3, .ref h4, .ref h5, .ref h6, .ref h7, .ref h8, .ref h9, .int h0f17, .int h0f18, .int h0f19, .ref h10, .ref h11, .ref h12, .ref h13, .int h0f24, .int h0f25, .ref h14, .ref h15, .ref h16, .ref h17, .int h0f30, .int h0f31, .ref h18, .ref h19, .ref h20, .ref h21])] _ := hT
          refine lv_if_ne (tgt := 50) hx hb dX11_unit_45 (by decide) (fun _ => ?_) (fun cc => absurd cc (by decide +kernel))
          refine lv_aload_n hx hb dX11_unit_50 rfl (lv_at hl 0 rfl) ?_
          refine tz_get (ci := 8) (v := .int h0f1) (C := RX11) (F := TX11) (N := 36) hx hb hU iX11 hown hK hT 2 rfl rfl 1 (by decide) w786 (fun _ h9 => h9) rfl dX11_unit_51 ?_
          refine lv_iconst (v := 4) hx hb dX11_unit_54 (by decide) ?_
          refine lv_icmp_ne (tgt := 61) hx hb dX11_unit_55 (by decide) (fun c_18 => ?_) (fun c_18 => ?_)
          · skip
            have c_18 := ni_ne c_18 rfl li_4
            refine lv_aload_n hx hb dX11_unit_61 rfl (lv_at hl 0 rfl) ?_
            refine lv_iload_n hx hb dX11_unit_62 rfl (lv_at hl 1 rfl) ?_
            refine lv_iload_n hx hb dX11_unit_63 rfl (lv_at hl 2 rfl) ?_
            refine lv_iload_n hx hb dX11_unit_64 rfl (lv_at hl 3 rfl) ?_
            refine tcV (Tc := [(h0, ob 8 [.int h0f0, .int h0f1, .int h0f2, .int h0f3, .int h0f4, .int h0f5, .ref h1, .ref h2, .int h0f8, .int h0f9, .ref h3, .ref h4, .ref h5, .ref h6, .ref h7, .ref h8, .ref h9, .int h0f17, .int h0f18, .int h0f19, .ref h10, .ref h11, .ref h12, .ref h13, .int h0f24, .int h0f25, .ref h14, .ref h15, .ref h16, .ref h17, .int h0f30, .int h0f31, .ref h18, .ref h19, .ref h20, .ref h21]), (h3, aJ (k 1) 9 anJ)]) (Tr := [(h1, aI (k 0) 36 anI)]) (as := [h0, h3]) (zcV (q0 := 2) (ci := 8) (As := [.int x1, .int x2, .int x3]) (rest := []) (Tc := [(h0, ob 8 [.int h0f0, .int h0f1, .int h0f2, .int h0f3, .int h0f4, .int h0f5, .ref h1, .ref h2, .int h0f8, .int h0f9, .ref h3, .ref h4, .ref h5, .ref h6, .ref h7, .ref h8, .ref h9, .int h0f17, .int h0f18, .int h0f19, .ref h10, .ref h11, .ref h12, .ref h13, .int h0f24, .int h0f25, .ref h14, .ref h15, .ref h16, .ref h17, .int h0f30, .int h0f31, .ref h18, .ref h19, .ref h20, .ref h21]), (h3, aJ (k 1) 9 anJ)]) hx hb hml hown hU hK hT rfl rfl [2, 1] rfl (by decide) (cX11_makesUnit_8b80d l D k _ h0 h3 h1 h2 h4 h5 h6 h7 h8 h9 h10 h11 h12 h13 h14 h15 h16 h17 h18 h19 h20 h21 x1 x2 x3 h0f0 h0f1 h0f2 h0f3 h0f4 h0f5 h0f8 h0f9 h0f17 h0f18 h0f19 h0f24 h0f25 h0f30 h0f31 (by omega) (by omega) (by omega) (by omega) (by omega) (by omega) (by omega) (by omega) (by omega) (by omega) (by omega) (by omega) (by omega) (by omega) (by omega) (by omega) (by omega) (by omega)) w915 w912 w914 w27 w72 hdX11_makesUnit ⟨rfl, rfl⟩ ⟨Nat.le_of_ble_eq_true rfl, Nat.le_of_ble_eq_true rfl⟩ rfl hl.1 (Nat.le_of_ble_eq_true rfl) dX11_unit_65 ⟨Nat.le_of_ble_eq_true rfl, Nat.le_of_ble_eq_true rfl⟩) hT hS hA [2, 1] [0] rfl rfl rfl (by decide) (by decide) (fun H locs hB J hS => ?_)
            have hT1 := hB
            have hT := J _ hT1
            have hT : TP D A [(h1, aI (k 0) 36 anI), (h0, ob 8 [.int h0f0, .int h0f1, .int h0f2, .int h0f3, .int h0f4, .int h0f5, .ref h1, .ref h2, .int h0f8, .int h0f9, .ref h3, .ref h4, .ref h5, .ref h6, .ref h7, .ref h8, .ref h9, .int h0f17, .int h0f18, .int h0f19, .ref h10, .ref h11, .ref h12, .ref h13, .int h0f24, .int h0f25, .ref h14, .ref h15, .ref h16, .ref h17, .int h0f30, .int h0f31, .ref h18, .ref h19, .ref h20, .ref h21]), (h3, aJ (k 1) 9 anJ)] _ := hT
            refine lv_aload_n hx hb dX11_unit_68 rfl (lv_at hl 0 rfl) ?_
            refine tcI (Tc := [(h0, ob 8 [.int h0f0, .int h0f1, .int h0f2, .int h0f3, .int h0f4, .int h0f5, .ref h1, .ref h2, .int h0f8, .int h0f9, .ref h3, .ref h4, .ref h5, .ref h6, .ref h7, .ref h8, .ref h9, .int h0f17, .int h0f18, .int h0f19, .ref h10, .ref h11, .ref h12, .ref h13, .int h0f24, .int h0f25, .ref h14, .ref h15, .ref h16, .ref h17, .int h0f30, .int h0f31, .ref h18, .ref h19, .ref h20, .ref h21]), (h1, aI (k 0) 36 anI), (h3, aJ (k 1) 9 anJ)]) (Tr := []) (as := [h0, h1, h3]) (zcV (q0 := 1) (ci := 8) (As := []) (rest := []) (Tc := [(h0, ob 8 [.int h0f0, .int h0f1, .int h0f2, .int h0f3, .int h0f4, .int h0f5, .ref h1, .ref h2, .int h0f8, .int h0f9, .ref h3, .ref h4, .ref h5, .ref h6, .ref h7, .ref h8, .ref h9, .int h0f17, .int h0f18, .int h0f19, .ref h10, .ref h11, .ref h12, .ref h13, .int h0f24, .int h0f25, .ref h14, .ref h15, .ref h16, .ref h17, .int h0f30, .int h0f31, .ref h18, .ref h19, .ref h20, .ref h21]), (h1, aI (k 0) 36 anI), (h3, aJ (k 1) 9 anJ)]) hx hb hml hown hU hK hT rfl rfl [1, 0, 2] rfl (by decide) (cX11_comes_53948 l D k _ h0 h1 h3 h2 h4 h5 h6 h7 h8 h9 h10 h11 h12 h13 h14 h15 h16 h17 h18 h19 h20 h21 h0f0 h0f1 h0f2 h0f3 h0f4 h0f5 h0f8 h0f9 h0f17 h0f18 h0f19 h0f24 h0f25 h0f30 h0f31 (by omega) (by omega) (by omega) (by omega) (by omega) (by omega) (by omega) (by omega) (by omega) (by omega) (by omega) (by omega) (by omega) (by omega) (by omega)) w927 w924 w926 w30 w72 hdX11_comes ⟨rfl, rfl⟩ ⟨Nat.le_of_ble_eq_true rfl, Nat.le_of_ble_eq_true rfl⟩ rfl hl.1 (Nat.le_of_ble_eq_true rfl) dX11_unit_69 ⟨Nat.le_of_ble_eq_true rfl, Nat.le_of_ble_eq_true rfl⟩) hT hS hA [1, 0, 2] [] rfl rfl rfl (by decide) (by decide) (fun r20 H locs hB J hS => ?_)
            obtain ⟨v21, b_v21, b_r20, hT1⟩ := hB
            have hT := J _ hT1
            have hT : TP D A [(h0, ob 8 [.int h0f0, .int v21, .int h0f2, .int h0f3, .int h0f4, .int h0f5, .ref h1, .ref h2, .int h0f8, .int 0, .ref h3, .ref h4, .ref h5, .ref h6, .ref h7, .ref h8, .ref h9, .int h0f17, .int h0f18, .int h0f19, .ref h10, .ref h11, .ref h12, .ref h13, .int h0f24, .int h0f25, .ref h14, .ref h15, .ref h16, .ref h17, .int 0, .int h0f31, .ref h18, .ref h19, .ref h20, .ref h21]), (h1, aI (k 0) 36 anI), (h3, aJ (k 1) 9 anJ)] _ := hT
            exact tz_retI (B := B_cX11_unit_9d272 D k h0 h1 h3 h2 h4 h5 h6 h7 h8 h9 h10 h11 h12 h13 h14 h15 h16 h17 h18 h19 h20 h21 x1 x2 x3 h0f0 h0f1 h0f2 h0f3 h0f4 h0f5 h0f8 h0f9 h0f17 h0f18 h0f19 h0f24 h0f25 h0f30 h0f31) (v := r20) hQ hx hb hr hlocks hS (Nat.le_of_ble_eq_true rfl) (Nat.le_of_ble_eq_true rfl) dX11_unit_72 (⟨v21, 0, 0, (by have := li_0; omega), (by have := li_0; omega), (by have := li_0; omega), (by have := li_0; omega), (by have := li_0; omega), (by have := li_0; omega), hT⟩)
          · skip
            have c_18 := ni_eq c_18 rfl li_4
            refine lv_bipush (v := (-2)) hx hb dX11_unit_58 (by decide) ?_
            exact tz_retI (B := B_cX11_unit_9d272 D k h0 h1 h3 h2 h4 h5 h6 h7 h8 h9 h10 h11 h12 h13 h14 h15 h16 h17 h18 h19 h20 h21 x1 x2 x3 h0f0 h0f1 h0f2 h0f3 h0f4 h0f5 h0f8 h0f9 h0f17 h0f18 h0f19 h0f24 h0f25 h0f30 h0f31) (v := (-2)) hQ hx hb hr hlocks hS (Nat.le_of_ble_eq_true rfl) (Nat.le_of_ble_eq_true rfl) dX11_unit_60 (⟨h0f1, h0f9, h0f30, (by have := li_m2; omega), (by have := li_m2; omega), (by have := li_m2; omega), (by have := li_m2; omega), (by have := li_m2; omega), (by have := li_m2; omega), (hT.sub [2, 0, 1] (by decide) rfl)⟩)
      · skip
        have c_11 := ni_eq c_11 rfl rfl
        refine lv_iload_n hx hb dX11_unit_21 rfl (lv_at hl 3 rfl) ?_
        refine lv_iconst (v := 1) hx hb dX11_unit_22 (by decide) ?_
        refine lv_icmp_eq (tgt := 50) hx hb dX11_unit_23 (by decide) (fun c_22 => ?_) (fun c_22 => ?_)
        · skip
          have c_22 := ni_eq c_22 rfl li_1
          refine lv_aload_n hx hb dX11_unit_50 rfl (lv_at hl 0 rfl) ?_
          refine tz_get (ci := 8) (v := .int h0f1) (C := RX11) (F := TX11) (N := 36) hx hb hU iX11 hown hK hT 2 rfl rfl 1 (by decide) w786 (fun _ h9 => h9) rfl dX11_unit_51 ?_
          refine lv_iconst (v := 4) hx hb dX11_unit_54 (by decide) ?_
          refine lv_icmp_ne (tgt := 61) hx hb dX11_unit_55 (by decide) (fun c_23 => ?_) (fun c_23 => ?_)
          · skip
            have c_23 := ni_ne c_23 rfl li_4
            refine lv_aload_n hx hb dX11_unit_61 rfl (lv_at hl 0 rfl) ?_
            refine lv_iload_n hx hb dX11_unit_62 rfl (lv_at hl 1 rfl) ?_
            refine lv_iload_n hx hb dX11_unit_63 rfl (lv_at hl 2 rfl) ?_
            refine lv_iload_n hx hb dX11_unit_64 rfl (lv_at hl 3 rfl) ?_
            refine tcV (Tc := [(h0, ob 8 [.int h0f0, .int h0f1, .int h0f2, .int h0f3, .int h0f4, .int h0f5, .ref h1, .ref h2, .int h0f8, .int h0f9, .ref h3, .ref h4, .ref h5, .ref h6, .ref h7, .ref h8, .ref h9, .int h0f17, .int h0f18, .int h0f19, .ref h10, .ref h11, .ref h12, .ref h13, .int h0f24, .int h0f25, .ref h14, .ref h15, .ref h16, .ref h17, .int h0f30, .int h0f31, .ref h18, .ref h19, .ref h20, .ref h21]), (h3, aJ (k 1) 9 anJ)]) (Tr := [(h1, aI (k 0) 36 anI)]) (as := [h0, h3]) (zcV (q0 := 2) (ci := 8) (As := [.int x1, .int x2, .int x3]) (rest := []) (Tc := [(h0, ob 8 [.int h0f0, .int h0f1, .int h0f2, .int h0f3, .int h0f4, .int h0f5, .ref h1, .ref h2, .int h0f8, .int h0f9, .ref h3, .ref h4, .ref h5, .ref h6, .ref h7, .ref h8, .ref h9, .int h0f17, .int h0f18, .int h0f19, .ref h10, .ref h11, .ref h12, .ref h13, .int h0f24, .int h0f25, .ref h14, .ref h15, .ref h16, .ref h17, .int h0f30, .int h0f31, .ref h18, .ref h19, .ref h20, .ref h21]), (h3, aJ (k 1) 9 anJ)]) hx hb hml hown hU hK hT rfl rfl [2, 1] rfl (by decide) (cX11_makesUnit_8b80d l D k _ h0 h3 h1 h2 h4 h5 h6 h7 h8 h9 h10 h11 h12 h13 h14 h15 h16 h17 h18 h19 h20 h21 x1 x2 x3 h0f0 h0f1 h0f2 h0f3 h0f4 h0f5 h0f8 h0f9 h0f17 h0f18 h0f19 h0f24 h0f25 h0f30 h0f31 (by omega) (by omega) (by omega) (by omega) (by omega) (by omega) (by omega) (by omega) (by omega) (by omega) (by omega) (by omega) (by omega) (by omega) (by omega) (by omega) (by omega) (by omega)) w915 w912 w914 w27 w72 hdX11_makesUnit ⟨rfl, rfl⟩ ⟨Nat.le_of_ble_eq_true rfl, Nat.le_of_ble_eq_true rfl⟩ rfl hl.1 (Nat.le_of_ble_eq_true rfl) dX11_unit_65 ⟨Nat.le_of_ble_eq_true rfl, Nat.le_of_ble_eq_true rfl⟩) hT hS hA [2, 1] [0] rfl rfl rfl (by decide) (by decide) (fun H locs hB J hS => ?_)
            have hT1 := hB
            have hT := J _ hT1
            have hT : TP D A [(h1, aI (k 0) 36 anI), (h0, ob 8 [.int h0f0, .int h0f1, .int h0f2, .int h0f3, .int h0f4, .int h0f5, .ref h1, .ref h2, .int h0f8, .int h0f9, .ref h3, .ref h4, .ref h5, .ref h6, .ref h7, .ref h8, .ref h9, .int h0f17, .int h0f18, .int h0f19, .ref h10, .ref h11, .ref h12, .ref h13, .int h0f24, .int h0f25, .ref h14, .ref h15, .ref h16, .ref h17, .int h0f30, .int h0f31, .ref h18, .ref h19, .ref h20, .ref h21]), (h3, aJ (k 1) 9 anJ)] _ := hT
            refine lv_aload_n hx hb dX11_unit_68 rfl (lv_at hl 0 rfl) ?_
            refine tcI (Tc := [(h0, ob 8 [.int h0f0, .int h0f1, .int h0f2, .int h0f3, .int h0f4, .int h0f5, .ref h1, .ref h2, .int h0f8, .int h0f9, .ref h3, .ref h4, .ref h5, .ref h6, .ref h7, .ref h8, .ref h9, .int h0f17, .int h0f18, .int h0f19, .ref h10, .ref h11, .ref h12, .ref h13, .int h0f24, .int h0f25, .ref h14, .ref h15, .ref h16, .ref h17, .int h0f30, .int h0f31, .ref h18, .ref h19, .ref h20, .ref h21]), (h1, aI (k 0) 36 anI), (h3, aJ (k 1) 9 anJ)]) (Tr := []) (as := [h0, h1, h3]) (zcV (q0 := 1) (ci := 8) (As := []) (rest := []) (Tc := [(h0, ob 8 [.int h0f0, .int h0f1, .int h0f2, .int h0f3, .int h0f4, .int h0f5, .ref h1, .ref h2, .int h0f8, .int h0f9, .ref h3, .ref h4, .ref h5, .ref h6, .ref h7, .ref h8, .ref h9, .int h0f17, .int h0f18, .int h0f19, .ref h10, .ref h11, .ref h12, .ref h13, .int h0f24, .int h0f25, .ref h14, .ref h15, .ref h16, .ref h17, .int h0f30, .int h0f31, .ref h18, .ref h19, .ref h20, .ref h21]), (h1, aI (k 0) 36 anI), (h3, aJ (k 1) 9 anJ)]) hx hb hml hown hU hK hT rfl rfl [1, 0, 2] rfl (by decide) (cX11_comes_53948 l D k _ h0 h1 h3 h2 h4 h5 h6 h7 h8 h9 h10 h11 h12 h13 h14 h15 h16 h17 h18 h19 h20 h21 h0f0 h0f1 h0f2 h0f3 h0f4 h0f5 h0f8 h0f9 h0f17 h0f18 h0f19 h0f24 h0f25 h0f30 h0f31 (by omega) (by omega) (by omega) (by omega) (by omega) (by omega) (by omega) (by omega) (by omega) (by omega) (by omega) (by omega) (by omega) (by omega) (by omega)) w927 w924 w926 w30 w72 hdX11_comes ⟨rfl, rfl⟩ ⟨Nat.le_of_ble_eq_true rfl, Nat.le_of_ble_eq_true rfl⟩ rfl hl.1 (Nat.le_of_ble_eq_true rfl) dX11_unit_69 ⟨Nat.le_of_ble_eq_true rfl, Nat.le_of_ble_eq_true rfl⟩) hT hS hA [1, 0, 2] [] rfl rfl rfl (by decide) (by decide) (fun r25 H locs hB J hS => ?_)
            obtain ⟨v26, b_v26, b_r25, hT1⟩ := hB
            have hT := J _ hT1
            have hT : TP D A [(h0, ob 8 [.int h0f0, .int v26, .int h0f2, .int h0f3, .int h0f4, .int h0f5, .ref h1, .ref h2, .int h0f8, .int 0, .ref h3, .ref h4, .ref h5, .ref h6, .ref h7, .ref h8, .ref h9, .int h0f17, .int h0f18, .int h0f19, .ref h10, .ref h11, .ref h12, .ref h13, .int h0f24, .int h0f25, .ref h14, .ref h15, .ref h16, .ref h17, .int 0, .int h0f31, .ref h18, .ref h19, .ref h20, .ref h21]), (h1, aI (k 0) 36 anI), (h3, aJ (k 1) 9 anJ)] _ := hT
            exact tz_retI (B := B_cX11_unit_9d272 D k h0 h1 h3 h2 h4 h5 h6 h7 h8 h9 h10 h11 h12 h13 h14 h15 h16 h17 h18 h19 h20 h21 x1 x2 x3 h0f0 h0f1 h0f2 h0f3 h0f4 h0f5 h0f8 h0f9 h0f17 h0f18 h0f19 h0f24 h0f25 h0f30 h0f31) (v := r25) hQ hx hb hr hlocks hS (Nat.le_of_ble_eq_true rfl) (Nat.le_of_ble_eq_true rfl) dX11_unit_72 (⟨v26, 0, 0, (by have := li_0; omega), (by have := li_0; omega), (by have := li_0; omega), (by have := li_0; omega), (by have := li_0; omega), (by have := li_0; omega), hT⟩)
          · skip
            have c_23 := ni_eq c_23 rfl li_4
            refine lv_bipush (v := (-2)) hx hb dX11_unit_58 (by decide) ?_
            exact tz_retI (B := B_cX11_unit_9d272 D k h0 h1 h3 h2 h4 h5 h6 h7 h8 h9 h10 h11 h12 h13 h14 h15 h16 h17 h18 h19 h20 h21 x1 x2 x3 h0f0 h0f1 h0f2 h0f3 h0f4 h0f5 h0f8 h0f9 h0f17 h0f18 h0f19 h0f24 h0f25 h0f30 h0f31) (v := (-2)) hQ hx hb hr hlocks hS (Nat.le_of_ble_eq_true rfl) (Nat.le_of_ble_eq_true rfl) dX11_unit_60 (⟨h0f1, h0f9, h0f30, (by have := li_m2; omega), (by have := li_m2; omega), (by have := li_m2; omega), (by have := li_m2; omega), (by have := li_m2; omega), (by have := li_m2; omega), (hT.sub [2, 0, 1] (by decide) rfl)⟩)
        · skip
          have c_22 := ni_ne c_22 rfl li_1
          refine lv_iload_n hx hb dX11_unit_26 rfl (lv_at hl 3 rfl) ?_
          refine lv_iconst (v := (-1)) hx hb dX11_unit_27 (by decide) ?_
          refine lv_icmp_eq (tgt := 50) hx hb dX11_unit_28 (by decide) (fun c_27 => ?_) (fun c_27 => ?_)
          · skip
            have c_27 := ni_eq c_27 rfl li_m1
            refine lv_aload_n hx hb dX11_unit_50 rfl (lv_at hl 0 rfl) ?_
            refine tz_get (ci := 8) (v := .int h0f1) (C := RX11) (F := TX11) (N := 36) hx hb hU iX11 hown hK hT 2 rfl rfl 1 (by decide) w786 (fun _ h9 => h9) rfl dX11_unit_51 ?_
            refine lv_iconst (v := 4) hx hb dX11_unit_54 (by decide) ?_
            refine lv_icmp_ne (tgt := 61) hx hb dX11_unit_55 (by decide) (fun c_28 => ?_) (fun c_28 => ?_)
            · skip
              have c_28 := ni_ne c_28 rfl li_4
              refine lv_aload_n hx hb dX11_unit_61 rfl (lv_at hl 0 rfl) ?_
              refine lv_iload_n hx hb dX11_unit_62 rfl (lv_at hl 1 rfl) ?_
              refine lv_iload_n hx hb dX11_unit_63 rfl (lv_at hl 2 rfl) ?_
              refine lv_iload_n hx hb dX11_unit_64 rfl (lv_at hl 3 rfl) ?_
              refine tcV (Tc := [(h0, ob 8 [.int h0f0, .int h0f1, .int h0f2, .int h0f3, .int h0f4, .int h0f5, .ref h1, .ref h2, .int h0f8, .int h0f9, .ref h3, .ref h4, .ref h5, .ref h6, .ref h7, .ref h8, .ref h9, .int h0f17, .int h0f18, .int h0f19, .ref h10, .ref h11, .ref h12, .ref h13, .int h0f24, .int h0f25, .ref h14, .ref h15, .ref h16, .ref h17, .int h0f30, .int h0f31, .ref h18, .ref h19, .ref h20, .ref h21]), (h3, aJ (k 1) 9 anJ)]) (Tr := [(h1, aI (k 0) 36 anI)]) (as := [h0, h3]) (zcV (q0 := 2) (ci := 8) (As := [.int x1, .int x2, .int x3]) (rest := []) (Tc := [(h0, ob 8 [.int h0f0, .int h0f1, .int h0f2, .int h0f3, .int h0f4, .int h0f5, .ref h1, .ref h2, .int h0f8, .int h0f9, .ref h3, .ref h4, .ref h5, .ref h6, .ref h7, .ref h8, .ref h9, .int h0f17, .int h0f18, .int h0f19, .ref h10, .ref h11, .ref h12, .ref h13, .int h0f24, .int h0f25, .ref h14, .ref h15, .ref h16, .ref h17, .int h0f30, .int h0f31, .ref h18, .ref h19, .ref h20, .ref h21]), (h3, aJ (k 1) 9 anJ)]) hx hb hml hown hU hK hT rfl rfl [2, 1] rfl (by decide) (cX11_makesUnit_8b80d l D k _ h0 h3 h1 h2 h4 h5 h6 h7 h8 h9 h10 h11 h12 h13 h14 h15 h16 h17 h18 h19 h20 h21 x1 x2 x3 h0f0 h0f1 h0f2 h0f3 h0f4 h0f5 h0f8 h0f9 h0f17 h0f18 h0f19 h0f24 h0f25 h0f30 h0f31 (by omega) (by omega) (by omega) (by omega) (by omega) (by omega) (by omega) (by omega) (by omega) (by omega) (by omega) (by omega) (by omega) (by omega) (by omega) (by omega) (by omega) (by omega)) w915 w912 w914 w27 w72 hdX11_makesUnit ⟨rfl, rfl⟩ ⟨Nat.le_of_ble_eq_true rfl, Nat.le_of_ble_eq_true rfl⟩ rfl hl.1 (Nat.le_of_ble_eq_true rfl) dX11_unit_65 ⟨Nat.le_of_ble_eq_true rfl, Nat.le_of_ble_eq_true rfl⟩) hT hS hA [2, 1] [0] rfl rfl rfl (by decide) (by decide) (fun H locs hB J hS => ?_)
              have hT1 := hB
              have hT := J _ hT1
              have hT : TP D A [(h1, aI (k 0) 36 anI), (h0, ob 8 [.int h0f0, .int h0f1, .int h0f2, .int h0f3, .int h0f4, .int h0f5, .ref h1, .ref h2, .int h0f8, .int h0f9, .ref h3, .ref h4, .ref h5, .ref h6, .ref h7, .ref h8, .ref h9, .int h0f17, .int h0f18, .int h0f19, .ref h10, .ref h11, .ref h12, .ref h13, .int h0f24, .int h0f25, .ref h14, .ref h15, .ref h16, .ref h17, .int h0f30, .int h0f31, .ref h18, .ref h19, .ref h20, .ref h21]), (h3, aJ (k 1) 9 anJ)] _ := hT
              refine lv_aload_n hx hb dX11_unit_68 rfl (lv_at hl 0 rfl) ?_
              refine tcI (Tc := [(h0, ob 8 [.int h0f0, .int h0f1, .int h0f2, .int h0f3, .int h0f4, .int h0f5, .ref h1, .ref h2, .int h0f8, .int h0f9, .ref h3, .ref h4, .ref h5, .ref h6, .ref h7, .ref h8, .ref h9, .int h0f17, .int h0f18, .int h0f19, .ref h10, .ref h11, .ref h12, .ref h13, .int h0f24, .int h0f25, .ref h14, .ref h15, .ref h16, .ref h17, .int h0f30, .int h0f31, .ref h18, .ref h19, .ref h20, .ref h21]), (h1, aI (k 0) 36 anI), (h3, aJ (k 1) 9 anJ)]) (Tr := []) (as := [h0, h1, h3]) (zcV (q0 := 1) (ci := 8) (As := []) (rest := []) (Tc := [(h0, ob 8 [.int h0f0, .int h0f1, .int h0f2, .int h0f3, .int h0f4, .int h0f5, .ref h1, .ref h2, .int h0f8, .int h0f9, .ref h3, .ref h4, .ref h5, .ref h6, .ref h7, .ref h8, .ref h9, .int h0f17, .int h0f18, .int h0f19, .ref h10, .ref h11, .ref h12, .ref h13, .int h0f24, .int h0f25, .ref h14, .ref h15, .ref h16, .ref h17, .int h0f30, .int h0f31, .ref h18, .ref h19, .ref h20, .ref h21]), (h1, aI (k 0) 36 anI), (h3, aJ (k 1) 9 anJ)]) hx hb hml hown hU hK hT rfl rfl [1, 0, 2] rfl (by decide) (cX11_comes_53948 l D k _ h0 h1 h3 h2 h4 h5 h6 h7 h8 h9 h10 h11 h12 h13 h14 h15 h16 h17 h18 h19 h20 h21 h0f0 h0f1 h0f2 h0f3 h0f4 h0f5 h0f8 h0f9 h0f17 h0f18 h0f19 h0f24 h0f25 h0f30 h0f31 (by omega) (by omega) (by omega) (by omega) (by omega) (by omega) (by omega) (by omega) (by omega) (by omega) (by omega) (by omega) (by omega) (by omega) (by omega)) w927 w924 w926 w30 w72 hdX11_comes ⟨rfl, rfl⟩ ⟨Nat.le_of_ble_eq_true rfl, Nat.le_of_ble_eq_true rfl⟩ rfl hl.1 (Nat.le_of_ble_eq_true rfl) dX11_unit_69 ⟨Nat.le_of_ble_eq_true rfl, Nat.le_of_ble_eq_true rfl⟩) hT hS hA [1, 0, 2] [] rfl rfl rfl (by decide) (by decide) (fun r30 H locs hB J hS => ?_)
              obtain ⟨v31, b_v31, b_r30, hT1⟩ := hB
              have hT := J _ hT1
              have hT : TP D A [(h0, ob 8 [.int h0f0, .int v31, .int h0f2, .int h0f3, .int h0f4, .int h0f5, .ref h1, .ref h2, .int h0f8, .int 0, .ref h3, .ref h4, .ref h5, .ref h6, .ref h7, .ref h8, .ref h9, .int h0f17, .int h0f18, .int h0f19, .ref h10, .ref h11, .ref h12, .ref h13, .int h0f24, .int h0f25, .ref h14, .ref h15, .ref h16, .ref h17, .int 0, .int h0f31, .ref h18, .ref h19, .ref h20, .ref h21]), (h1, aI (k 0) 36 anI), (h3, aJ (k 1) 9 anJ)] _ := hT
              exact tz_retI (B := B_cX11_unit_9d272 D k h0 h1 h3 h2 h4 h5 h6 h7 h8 h9 h10 h11 h12 h13 h14 h15 h16 h17 h18 h19 h20 h21 x1 x2 x3 h0f0 h0f1 h0f2 h0f3 h0f4 h0f5 h0f8 h0f9 h0f17 h0f18 h0f19 h0f24 h0f25 h0f30 h0f31) (v := r30) hQ hx hb hr hlocks hS (Nat.le_of_ble_eq_true rfl) (Nat.le_of_ble_eq_true rfl) dX11_unit_72 (⟨v31, 0, 0, (by have := li_0; omega), (by have := li_0; omega), (by have := li_0; omega), (by have := li_0; omega), (by have := li_0; omega), (by have := li_0; omega), hT⟩)
            · skip
              have c_28 := ni_eq c_28 rfl li_4
              refine lv_bipush (v := (-2)) hx hb dX11_unit_58 (by decide) ?_
              exact tz_retI (B := B_cX11_unit_9d272 D k h0 h1 h3 h2 h4 h5 h6 h7 h8 h9 h10 h11 h12 h13 h14 h15 h16 h17 h18 h19 h20 h21 x1 x2 x3 h0f0 h0f1 h0f2 h0f3 h0f4 h0f5 h0f8 h0f9 h0f17 h0f18 h0f19 h0f24 h0f25 h0f30 h0f31) (v := (-2)) hQ hx hb hr hlocks hS (Nat.le_of_ble_eq_true rfl) (Nat.le_of_ble_eq_true rfl) dX11_unit_60 (⟨h0f1, h0f9, h0f30, (by have := li_m2; omega), (by have := li_m2; omega), (by have := li_m2; omega), (by have := li_m2; omega), (by have := li_m2; omega), (by have := li_m2; omega), (hT.sub [2, 0, 1] (by decide) rfl)⟩)
          · skip
            have c_27 := ni_ne c_27 rfl li_m1
            refine lv_goto (tgt := 48) hx hb dX11_unit_31 (by decide) ?_
            refine lv_iconst (v := (-1)) hx hb dX11_unit_48 (by decide) ?_
            exact tz_retI (B := B_cX11_unit_9d272 D k h0 h1 h3 h2 h4 h5 h6 h7 h8 h9 h10 h11 h12 h13 h14 h15 h16 h17 h18 h19 h20 h21 x1 x2 x3 h0f0 h0f1 h0f2 h0f3 h0f4 h0f5 h0f8 h0f9 h0f17 h0f18 h0f19 h0f24 h0f25 h0f30 h0f31) (v := (-1)) hQ hx hb hr hlocks hS (Nat.le_of_ble_eq_true rfl) (Nat.le_of_ble_eq_true rfl) dX11_unit_49 (⟨h0f1, h0f9, h0f30, (by have := li_m1; omega), (by have := li_m1; omega), (by have := li_m1; omega), (by have := li_m1; omega), (by have := li_m1; omega), (by have := li_m1; omega), (hT.sub [2, 0, 1] (by decide) rfl)⟩)
abbrev Rm_cX5_has_64567 : Room := { frames := 0, cells := 0, slots := 0, locals := 0 }
abbrev B_cX5_has_64567 (D : va_G) (k : Nat → ClassId) (h0 h1 : Nat) (x1 : Int32) (h0f0 : Int32) (h0f1 : Int32) (h0f2 : Int32) (A : Nat → Prop) (r : Int32) (H : Heap) : Prop := (0 = r ∧ TP D A [(h0, ob 4 [.int h0f0, .int h0f1, .int h0f2, .ref h1])] H) ∨ (0 ≤ x1.toInt ∧ x1.toInt < h0f1.toInt ∧ 1 = r ∧ TP D A [(h0, ob 4 [.int h0f0, .int h0f1, .int h0f2, .ref h1])] H)
set_option maxHeartbeats 4000000 in
set_option maxRecDepth 100000 in
theorem cX5_has_64567 (l : Launch) (D : va_G) (k : Nat → ClassId) (sz : Nat) (h0 h1 : Nat) (x1 : Int32) (h0f0 : Int32) (h0f1 : Int32) (h0f2 : Int32) (b_h0f0 : 1 ≤ h0f0.toInt ∧ h0f0.toInt ≤ 3) (b_h0f1 : 0 ≤ h0f1.toInt ∧ h0f1.toInt ≤ 4) : Met l yX5_has (Cond.code yX5_has cX5_has 2 (some .boolean) :: uw) Rm_cX5_has_64567 (pT D k sz [.ref h0, .int x1] [(h0, ob 4 [.int h0f0, .int h0f1, .int h0f2, .ref h1])]) (qI (B_cX5_has_64567 D k h0 h1 x1 h0f0 h0f1 h0f2 (zA [h0] sz)) (zA [h0] sz)) 0 0 (zA [h0] sz) := by
  refine tz_begin (as := [h0]) (Qc := fun A => qI (B_cX5_has_64567 D k h0 h1 x1 h0f0 h0f1 h0f2 A) A) (by decide +kernel) rfl (Nat.le_of_ble_eq_true rfl) ?_
  intro p e s m args below meth c ls A Q hx hb hr hml hown hlocks hin hU hK hT hS hA hl hQ
  have hl : lv_has ls 2 [(0, .ref h0), (1, .int x1)] := hl
  have hT : TP D A [(h0, ob 4 [.int h0f0, .int h0f1, .int h0f2, .ref h1])] s.heap := hT
  refine lv_iload_n hx hb dX5_has_0 rfl (lv_at hl 1 rfl) ?_
  refine lv_if_lt (tgt := 16) hx hb dX5_has_1 (by decide) (fun c_1 => ?_) (fun c_1 => ?_)
  · skip
    have c_1 := ni_lt c_1 rfl li_0
    refine lv_iconst (v := 0) hx hb dX5_has_16 (by decide) ?_
    exact tz_retZ (B := B_cX5_has_64567 D k h0 h1 x1 h0f0 h0f1 h0f2) (v := 0) hQ hx hb hr hlocks hS (Nat.le_of_ble_eq_true rfl) (Nat.le_of_ble_eq_true rfl) dX5_has_17 (by have := li_0; omega) (Or.inl ⟨rfl, hT⟩)
  · skip
    have c_1 := ni_nlt c_1 rfl li_0
    refine lv_iload_n hx hb dX5_has_4 rfl (lv_at hl 1 rfl) ?_
    refine lv_aload_n hx hb dX5_has_5 rfl (lv_at hl 0 rfl) ?_
    refine tz_get (ci := 4) (v := .int h0f1) (C := RX5) (F := TX5) (N := 4) hx hb hU iX5 hown hK hT 0 rfl rfl 1 (by decide) w96 (fun _ h9 => h9) rfl dX5_has_6 ?_
    refine lv_icmp_ge (tgt := 16) hx hb dX5_has_9 (by decide) (fun c_2 => ?_) (fun c_2 => ?_)
    · skip
      have c_2 := ni_le c_2 rfl rfl
      refine lv_iconst (v := 0) hx hb dX5_has_16 (by decide) ?_
      exact tz_retZ (B := B_cX5_has_64567 D k h0 h1 x1 h0f0 h0f1 h0f2) (v := 0) hQ hx hb hr hlocks hS (Nat.le_of_ble_eq_true rfl) (Nat.le_of_ble_eq_true rfl) dX5_has_17 (by have := li_0; omega) (Or.inl ⟨rfl, hT⟩)
    · skip
      have c_2 := ni_nle c_2 rfl rfl
      refine lv_iconst (v := 1) hx hb dX5_has_12 (by decide) ?_
      refine lv_goto (tgt := 17) hx hb dX5_has_13 (by decide) ?_
      exact tz_retZ (B := B_cX5_has_64567 D k h0 h1 x1 h0f0 h0f1 h0f2) (v := 1) hQ hx hb hr hlocks hS (Nat.le_of_ble_eq_true rfl) (Nat.le_of_ble_eq_true rfl) dX5_has_17 (by have := li_1; omega) (Or.inr (⟨(by have := li_1; omega), (by have := li_1; omega), rfl, hT⟩))
abbrev Rm_cX7_negate_f53fc : Room := { frames := 0, cells := 0, slots := 0, locals := 0 }
abbrev B_cX7_negate_f53fc (D : va_G) (k : Nat → ClassId) (h0 h1 : Nat) (x1 : Int32) (x3 : Int32) (A : Nat → Prop) (H : Heap) : Prop := TP D A [(h0, aJ (k 1) 36 anJ), (h1, aJ (k 1) 9 anJ)] H
set_option maxHeartbeats 4000000 in
set_option maxRecDepth 100000 in
theorem cX7_negate_f53fc (l : Launch) (D : va_G) (k : Nat → ClassId) (sz : Nat) (h0 h1 : Nat) (x1 : Int32) (x3 : Int32) (b_x1 : 0 ≤ x1.toInt ∧ x1.toInt ≤ 18) (b_x3 : 1 ≤ x3.toInt ∧ x3.toInt ≤ 3) : Met l yX7_negate (Cond.code yX7_negate cX7_negate 5 none :: uw) Rm_cX7_negate_f53fc (pT D k sz [.ref h0, .int x1, .ref h1, .int x3] [(h0, aJ (k 1) 36 anJ), (h1, aJ (k 1) 9 anJ)]) (qV (B_cX7_negate_f53fc D k h0 h1 x1 x3 (zA [h0, h1] sz)) (zA [h0, h1] sz)) 0 0 (zA [h0, h1] sz) := by
  refine tz_begin (as := [h0, h1]) (Qc := fun A => qV (B_cX7_negate_f53fc D k h0 h1 x1 x3 A) A) (by decide +kernel) rfl (Nat.le_of_ble_eq_true rfl) ?_
  intro p e s m args below meth c ls A Q hx hb hr hml hown hlocks hin hU hK hT hS hA hl hQ
  have hl : lv_has ls 5 [(0, .ref h0), (1, .int x1), (2, .ref h1), (3, .int x3)] := hl
  have hT : TP D A [(h0, aJ (k 1) 36 anJ), (h1, aJ (k 1) 9 anJ)] s.heap := hT
  refine lv_iconst (v := 0) hx hb dX7_negate_0 (by decide) ?_
  refine lv_istore (lv' := [(4, .int 0), (0, .ref h0), (1, .int x1), (2, .ref h1), (3, .int x3)]) hx hb dX7_negate_1 hl (by decide) rfl (fun ls hl => ?_)
  have lp3_8 : ∀ (n : Nat) (y7 : Int32) (H : Heap) (locs : List Loc) (ls : Array Slot), (0 ≤ y7.toInt ∧ y7.toInt ≤ 9) → (9 - y7.toInt).toNat < n → TP D A [(h0, aJ (k 1) 36 anJ), (h1, aJ (k 1) 9 anJ)] H → va_S A s.heap H locs → lv_has ls 5 [(0, .ref h0), (1, .int x1), (2, .ref h1), (3, .int x3), (4, .int y7)] → W p l e Rm_cX7_negate_f53fc s m args below meth c H locs 0 0 Q (F0 m 3 ls []) := by
    intro n
    induction n with
    | zero => intro y7 H locs ls b_y7 hm hT hS hl; exact absurd hm (Nat.not_lt_zero _)
    | succ n ih =>
      intro y7 H locs ls b_y7 hm hT hS hl
      have ih3_8 := ih
      clear ih
      refine lv_iload hx hb dX7_negate_3 (lv_at hl 4 rfl) ?_
      refine lv_iload_n hx hb dX7_negate_5 rfl (lv_at hl 3 rfl) ?_
      refine lv_iload_n hx hb dX7_negate_6 rfl (lv_at hl 3 rfl) ?_
      refine lv_imul hx hb dX7_negate_7 (lv_topi (fun v9 e_v9 => ?_))
      have e_v9 := ai_mm (la := 1) (ua := 3) (lb := 1) (ub := 3) e_v9 rfl rfl (by omega) (by decide)
      refine lv_icmp_ge (tgt := 28) hx hb dX7_negate_8 (by decide) (fun c_10 => ?_) (fun c_10 => ?_)
      · skip
        have c_10 := ni_le c_10 rfl rfl
        exact tz_retV (B := B_cX7_negate_f53fc D k h0 h1 x1 x3) hQ hx hb hr hlocks hS (Nat.le_of_ble_eq_true rfl) (Nat.le_of_ble_eq_true rfl) dX7_negate_28 (hT)
      · skip
        have c_10 := ni_nle c_10 rfl rfl
        refine lv_aload_n hx hb dX7_negate_11 rfl (lv_at hl 2 rfl) ?_
        refine lv_iload hx hb dX7_negate_12 (lv_at hl 4 rfl) ?_
        refine lv_aload_n hx hb dX7_negate_14 rfl (lv_at hl 0 rfl) ?_
        refine lv_iload_n hx hb dX7_negate_15 rfl (lv_at hl 1 rfl) ?_
        refine lv_iload hx hb dX7_negate_16 (lv_at hl 4 rfl) ?_
        refine lv_iadd hx hb dX7_negate_18 (lv_topi (fun v11 e_v11 => ?_))
        have e_v11 := ai_add e_v11 rfl rfl (by omega)
        refine tz_lald hx hb hK hT 0 rfl (by omega) dX7_negate_19 (fun v12 e_v12 => ?_)
        clear e_v12
        refine lv_lneg hx hb dX7_negate_20 (lv_topl (fun v13 e_v13 => ?_))
        have e_v13 := al_negz e_v13
        refine tz_last hx hb hK hT hS 1 rfl (by omega) (fun _ _ => trivial) dX7_negate_21 (fun H locs hT hS => ?_)
        obtain ⟨v14, e_v14⟩ : ∃ x : Int32, x = y7 + Int32.ofInt 1 := ⟨_, rfl⟩
        have f_v14 := e_v14.symm
        have e_v14 : v14.toInt = y7.toInt + 1 := ai_add e_v14 rfl (show (Int32.ofInt 1).toInt = 1 from (by decide +kernel)) (by omega)
        refine lv_iinc (v := v14) (lv' := [(4, .int v14), (0, .ref h0), (1, .int x1), (2, .ref h1), (3, .int x3)]) hx hb dX7_negate_22 hl (k := 4) rfl f_v14 (by decide) rfl (fun ls hl => ?_)
        refine lv_goto (tgt := 3) hx hb dX7_negate_25 (by decide) ?_
        exact ih3_8 v14 _ _ _ (by omega)  (by omega) hT hS (lv_sub hl [1, 2, 3, 4, 0] rfl)
  exact lp3_8 ((9 - (0 : Int32).toInt).toNat + 1) (0) _ _ _ (by have := li_0; omega)  (Nat.lt_succ_self _) hT hS (lv_sub hl [1, 2, 3, 4, 0] rfl)
abbrev Rm_cX7_turn_1605a : Room := { frames := 0, cells := 0, slots := 0, locals := 0 }
abbrev B_cX7_turn_1605a (D : va_G) (k : Nat → ClassId) (h0 h1 : Nat) (x1 : Int32) (x3 : Int32) (A : Nat → Prop) (H : Heap) : Prop := TP D A [(h0, aJ (k 1) 36 anJ), (h1, aJ (k 1) 9 anJ)] H
set_option maxHeartbeats 4000000 in
set_option maxRecDepth 100000 in
theorem cX7_turn_1605a (l : Launch) (D : va_G) (k : Nat → ClassId) (sz : Nat) (h0 h1 : Nat) (x1 : Int32) (x3 : Int32) (b_x1 : 0 ≤ x1.toInt ∧ x1.toInt ≤ 18) (b_x3 : 1 ≤ x3.toInt ∧ x3.toInt ≤ 3) : Met l yX7_turn (Cond.code yX7_turn cX7_turn 6 none :: uw) Rm_cX7_turn_1605a (pT D k sz [.ref h0, .int x1, .ref h1, .int x3] [(h0, aJ (k 1) 36 anJ), (h1, aJ (k 1) 9 anJ)]) (qV (B_cX7_turn_1605a D k h0 h1 x1 x3 (zA [h0, h1] sz)) (zA [h0, h1] sz)) 0 0 (zA [h0, h1] sz) := by
  refine tz_begin (as := [h0, h1]) (Qc := fun A => qV (B_cX7_turn_1605a D k h0 h1 x1 x3 A) A) (by decide +kernel) rfl (Nat.le_of_ble_eq_true rfl) ?_
  intro p e s m args below meth c ls A Q hx hb hr hml hown hlocks hin hU hK hT hS hA hl hQ
  have hl : lv_has ls 6 [(0, .ref h0), (1, .int x1), (2, .ref h1), (3, .int x3)] := hl
  have hT : TP D A [(h0, aJ (k 1) 36 anJ), (h1, aJ (k 1) 9 anJ)] s.heap := hT
  refine lv_iconst (v := 0) hx hb dX7_turn_0 (by decide) ?_
  refine lv_istore (lv' := [(4, .int 0), (0, .ref h0), (1, .int x1), (2, .ref h1), (3, .int x3)]) hx hb dX7_turn_1 hl (by decide) rfl (fun ls hl => ?_)
  have lp3_4 : ∀ (n : Nat) (y3 : Int32) (H : Heap) (locs : List Loc) (ls : Array Slot), (0 ≤ y3.toInt ∧ y3.toInt ≤ 3) → (x3.toInt + (-1) * y3.toInt + 1).toNat < n → TP D A [(h0, aJ (k 1) 36 anJ), (h1, aJ (k 1) 9 anJ)] H → va_S A s.heap H locs → lv_has ls 6 [(0, .ref h0), (1, .int x1), (2, .ref h1), (3, .int x3), (4, .int y3)] → W p l e Rm_cX7_turn_1605a s m args below meth c H locs 0 0 Q (F0 m 3 ls []) := by
    intro n
    induction n with
    | zero => intro y3 H locs ls b_y3 hm hT hS hl; exact absurd hm (Nat.not_lt_zero _)
    | succ n ih =>
      intro y3 H locs ls b_y3 hm hT hS hl
      have ih3_4 := ih
      clear ih
      refine lv_iload hx hb dX7_turn_3 (lv_at hl 4 rfl) ?_
      refine lv_iload_n hx hb dX7_turn_5 rfl (lv_at hl 3 rfl) ?_
      refine lv_icmp_ge (tgt := 50) hx hb dX7_turn_6 (by decide) (fun c_5 => ?_) (fun c_5 => ?_)
      · skip
        have c_5 := ni_le c_5 rfl rfl
        exact tz_retV (B := B_cX7_turn_1605a D k h0 h1 x1 x3) hQ hx hb hr hlocks hS (Nat.le_of_ble_eq_true rfl) (Nat.le_of_ble_eq_true rfl) dX7_turn_50 (hT)
      · skip
        have c_5 := ni_nle c_5 rfl rfl
        refine lv_iconst (v := 0) hx hb dX7_turn_9 (by decide) ?_
        refine lv_istore (lv' := [(5, .int 0), (0, .ref h0), (1, .int x1), (2, .ref h1), (3, .int x3), (4, .int y3)]) hx hb dX7_turn_10 hl (by decide) rfl (fun ls hl => ?_)
        have lp12_9 : ∀ (n : Nat) (y8 : Int32) (H : Heap) (locs : List Loc) (ls : Array Slot), (0 ≤ y8.toInt ∧ y8.toInt ≤ 3) → (x3.toInt + (-1) * y8.toInt + 1).toNat < n → TP D A [(h0, aJ (k 1) 36 anJ), (h1, aJ (k 1) 9 anJ)] H → va_S A s.heap H locs → lv_has ls 6 [(0, .ref h0), (1, .int x1), (2, .ref h1), (3, .int x3), (4, .int y3), (5, .int y8)] → W p l e Rm_cX7_turn_1605a s m args below meth c H locs 0 0 Q (F0 m 12 ls []) := by
          intro n
          induction n with
          | zero => intro y8 H locs ls b_y8 hm hT hS hl; exact absurd hm (Nat.not_lt_zero _)
          | succ n ih =>
            intro y8 H locs ls b_y8 hm hT hS hl
            have ih12_9 := ih
            clear ih
            refine lv_iload hx hb dX7_turn_12 (lv_at hl 5 rfl) ?_
            refine lv_iload_n hx hb dX7_turn_14 rfl (lv_at hl 3 rfl) ?_
            refine lv_icmp_ge (tgt := 44) hx hb dX7_turn_15 (by decide) (fun c_10 => ?_) (fun c_10 => ?_)
            · skip
              have c_10 := ni_le c_10 rfl rfl
              obtain ⟨v11, e_v11⟩ : ∃ x : Int32, x = y3 + Int32.ofInt 1 := ⟨_, rfl⟩
              have f_v11 := e_v11.symm
              have e_v11 : v11.toInt = y3.toInt + 1 := ai_add e_v11 rfl (show (Int32.ofInt 1).toInt = 1 from (by decide +kernel)) (by omega)
              refine lv_iinc (v := v11) (lv' := [(4, .int v11), (0, .ref h0), (1, .int x1), (2, .ref h1), (3, .int x3), (5, .int y8)]) hx hb dX7_turn_44 hl (k := 4) rfl f_v11 (by decide) rfl (fun ls hl => ?_)
              refine lv_goto (tgt := 3) hx hb dX7_turn_47 (by decide) ?_
              exact ih3_4 v11 _ _ _ (by omega)  (by omega) hT hS (lv_sub hl [1, 2, 3, 4, 0] rfl)
            · skip
              have c_10 := ni_nle c_10 rfl rfl
              refine lv_aload_n hx hb dX7_turn_18 rfl (lv_at hl 2 rfl) ?_
              refine lv_iload hx hb dX7_turn_19 (lv_at hl 4 rfl) ?_
              refine lv_iload_n hx hb dX7_turn_21 rfl (lv_at hl 3 rfl) ?_
              refine lv_imul hx hb dX7_turn_22 (lv_topi (fun v12 e_v12 => ?_))
              have e_v12 := ai_mm (la := 0) (ua := 2) (lb := 1) (ub := 3) e_v12 rfl rfl (by omega) (by decide)
              refine lv_iload hx hb dX7_turn_23 (lv_at hl 5 rfl) ?_
              refine lv_iadd hx hb dX7_turn_25 (lv_topi (fun v13 e_v13 => ?_))
              have e_v13 := ai_add e_v13 rfl rfl (by omega)
              refine lv_aload_n hx hb dX7_turn_26 rfl (lv_at hl 0 rfl) ?_
              refine lv_iload_n hx hb dX7_turn_27 rfl (lv_at hl 1 rfl) ?_
              refine lv_iload hx hb dX7_turn_28 (lv_at hl 5 rfl) ?_
              refine lv_iload_n hx hb dX7_turn_30 rfl (lv_at hl 3 rfl) ?_
              refine lv_imul hx hb dX7_turn_31 (lv_topi (fun v14 e_v14 => ?_))
              have e_v14 := ai_mm (la := 0) (ua := 2) (lb := 1) (ub := 3) e_v14 rfl rfl (by omega) (by decide)
              refine lv_iadd hx hb dX7_turn_32 (lv_topi (fun v15 e_v15 => ?_))
              have e_v15 := ai_add e_v15 rfl rfl (by omega)
              refine lv_iload hx hb dX7_turn_33 (lv_at hl 4 rfl) ?_
              refine lv_iadd hx hb dX7_turn_35 (lv_topi (fun v16 e_v16 => ?_))
              have e_v16 := ai_add e_v16 rfl rfl (by omega)
              refine tz_lald hx hb hK hT 0 rfl (by omega) dX7_turn_36 (fun v17 e_v17 => ?_)
              clear e_v17
              refine tz_last hx hb hK hT hS 1 rfl (by omega) (fun _ _ => trivial) dX7_turn_37 (fun H locs hT hS => ?_)
              obtain ⟨v18, e_v18⟩ : ∃ x : Int32, x = y8 + Int32.ofInt 1 := ⟨_, rfl⟩
              have f_v18 := e_v18.symm
              have e_v18 : v18.toInt = y8.toInt + 1 := ai_add e_v18 rfl (show (Int32.ofInt 1).toInt = 1 from (by decide +kernel)) (by omega)
              refine lv_iinc (v := v18) (lv' := [(5, .int v18), (0, .ref h0), (1, .int x1), (2, .ref h1), (3, .int x3), (4, .int y3)]) hx hb dX7_turn_38 hl (k := 5) rfl f_v18 (by decide) rfl (fun ls hl => ?_)
              refine lv_goto (tgt := 12) hx hb dX7_turn_41 (by decide) ?_
              exact ih12_9 v18 _ _ _ (by omega)  (by omega) hT hS (lv_sub hl [1, 2, 3, 4, 5, 0] rfl)
        exact lp12_9 ((x3.toInt + (-1) * (0 : Int32).toInt + 1).toNat + 1) (0) _ _ _ (by have := li_0; omega)  (Nat.lt_succ_self _) hT hS (lv_sub hl [1, 2, 3, 4, 5, 0] rfl)
  exact lp3_4 ((x3.toInt + (-1) * (0 : Int32).toInt + 1).toNat + 1) (0) _ _ _ (by have := li_0; omega)  (Nat.lt_succ_self _) hT hS (lv_sub hl [1, 2, 3, 4, 0] rfl)
abbrev Rm_cX7_cofactor_006a1 : Room := { frames := 0, cells := 0, slots := 0, locals := 0 }
abbrev B_cX7_cofactor_006a1 (D : va_G) (k : Nat → ClassId) (h0 : Nat) (x1 : Int32) (x4 : Int32) (A : Nat → Prop) (r : Int64) (H : Heap) : Prop := TP D A [(h0, aJ (k 1) 36 anJ)] H
set_option maxHeartbeats 4000000 in
set_option maxRecDepth 100000 in
theorem cX7_cofactor_006a1 (l : Launch) (D : va_G) (k : Nat → ClassId) (sz : Nat) (h0 : Nat) (x1 : Int32) (x4 : Int32) (b_x1 : 0 ≤ x1.toInt ∧ x1.toInt ≤ 27) (b_x4 : 0 ≤ x4.toInt ∧ x4.toInt ≤ 2) : Met l yX7_cofactor (Cond.code yX7_cofactor cX7_cofactor 9 (some .long) :: uw) Rm_cX7_cofactor_006a1 (pT D k sz [.ref h0, .int x1, .int 3, .int 0, .int x4] [(h0, aJ (k 1) 36 anJ)]) (qL (B_cX7_cofactor_006a1 D k h0 x1 x4 (zA [h0] sz)) (zA [h0] sz)) 0 0 (zA [h0] sz) := by
  refine tz_begin (as := [h0]) (Qc := fun A => qL (B_cX7_cofactor_006a1 D k h0 x1 x4 A) A) (by decide +kernel) rfl (Nat.le_of_ble_eq_true rfl) ?_
  intro p e s m args below meth c ls A Q hx hb hr hml hown hlocks hin hU hK hT hS hA hl hQ
  have hl : lv_has ls 9 [(0, .ref h0), (1, .int x1), (2, .int 3), (3, .int 0), (4, .int x4)] := hl
  have hT : TP D A [(h0, aJ (k 1) 36 anJ)] s.heap := hT
  refine lv_iload_n hx hb dX7_cofactor_0 rfl (lv_at hl 2 rfl) ?_
  refine lv_iconst (v := 1) hx hb dX7_cofactor_1 (by decide) ?_
  refine lv_icmp_ne (tgt := 7) hx hb dX7_cofactor_2 (by decide) (fun _ => ?_) (fun cc => absurd cc (by decide +kernel))
  refine lv_iload_n hx hb dX7_cofactor_7 rfl (lv_at hl 2 rfl) ?_
  refine lv_iconst (v := 2) hx hb dX7_cofactor_8 (by decide) ?_
  refine lv_icmp_ne (tgt := 43) hx hb dX7_cofactor_9 (by decide) (fun _ => ?_) (fun cc => absurd cc (by decide +kernel))
  refine lv_iload_n hx hb dX7_cofactor_43 rfl (lv_at hl 1 rfl) ?_
  refine lv_iload_n hx hb dX7_cofactor_44 rfl (lv_at hl 3 rfl) ?_
  refine lv_iconst (v := 1) hx hb dX7_cofactor_45 (by decide) ?_
  refine lv_iadd hx hb dX7_cofactor_46 (sv_i (v := 1) (by decide +kernel) ?_)
  refine lv_iconst (v := 3) hx hb dX7_cofactor_47 (by decide) ?_
  refine lv_irem hx hb dX7_cofactor_48 (by decide +kernel) (sv_i (v := 1) (by decide +kernel) ?_)
  refine lv_iconst (v := 3) hx hb dX7_cofactor_49 (by decide) ?_
  refine lv_imul hx hb dX7_cofactor_50 (sv_i (v := 3) (by decide +kernel) ?_)
  refine lv_iadd hx hb dX7_cofactor_51 (lv_topi (fun v1 e_v1 => ?_))
  have e_v1 := ai_add e_v1 rfl li_3 (by omega)
  refine lv_istore (lv' := [(5, .int v1), (0, .ref h0), (1, .int x1), (2, .int 3), (3, .int 0), (4, .int x4)]) hx hb dX7_cofactor_52 hl (by decide) rfl (fun ls hl => ?_)
  refine lv_iload_n hx hb dX7_cofactor_54 rfl (lv_at hl 2 rfl) ?_
  refine lv_iload_n hx hb dX7_cofactor_55 rfl (lv_at hl 4 rfl) ?_
  refine lv_iconst (v := 2) hx hb dX7_cofactor_56 (by decide) ?_
  refine lv_iadd hx hb dX7_cofactor_57 (sv_i (v := 2) (by decide +kernel) ?_)
  refine lv_iconst (v := 3) hx hb dX7_cofactor_58 (by decide) ?_
  refine lv_irem hx hb dX7_cofactor_59 (by decide +kernel) (sv_i (v := 2) (by decide +kernel) ?_)
  refine lv_iconst (v := 3) hx hb dX7_cofactor_60 (by decide) ?_
  refine lv_imul hx hb dX7_cofactor_61 (sv_i (v := 6) (by decide +kernel) ?_)
  refine lv_iadd hx hb dX7_cofactor_62 (lv_topi (fun v2 e_v2 => ?_))
  have e_v2 := ai_add e_v2 rfl li_6 (by omega)
  refine lv_istore (lv' := [(6, .int v2), (5, .int v1), (0, .ref h0), (1, .int x1), (2, .int 3), (3, .int 0), (4, .int x4)]) hx hb dX7_cofactor_63 hl (by decide) rfl (fun ls hl => ?_)
  refine lv_iload hx hb dX7_cofactor_65 (lv_at hl 6 rfl) ?_
  refine lv_iconst (v := 1) hx hb dX7_cofactor_67 (by decide) ?_
  refine lv_iadd hx hb dX7_cofactor_68 (lv_topi (fun v3 e_v3 => ?_))
  have e_v3 := ai_add e_v3 rfl li_1 (by omega)
  refine lv_iconst (v := 3) hx hb dX7_cofactor_69 (by decide) ?_
  refine lv_irem hx hb dX7_cofactor_70 (by decide +kernel) (lv_topi (fun v4 e_v4 => ?_))
  have e_v4 := ai_rem e_v4 rfl li_3 (by omega)
  refine lv_istore (lv' := [(7, .int v4), (6, .int v2), (5, .int v1), (0, .ref h0), (1, .int x1), (2, .int 3), (3, .int 0), (4, .int x4)]) hx hb dX7_cofactor_71 hl (by decide) rfl (fun ls hl => ?_)
  refine lv_iload hx hb dX7_cofactor_73 (lv_at hl 7 rfl) ?_
  refine lv_iconst (v := 2) hx hb dX7_cofactor_75 (by decide) ?_
  refine lv_iadd hx hb dX7_cofactor_76 (lv_topi (fun v5 e_v5 => ?_))
  have e_v5 := ai_add e_v5 rfl li_2 (by omega)
  refine lv_iconst (v := 3) hx hb dX7_cofactor_77 (by decide) ?_
  refine lv_irem hx hb dX7_cofactor_78 (by decide +kernel) (lv_topi (fun v6 e_v6 => ?_))
  have e_v6 := ai_rem e_v6 rfl li_3 (by omega)
  refine lv_istore (lv' := [(8, .int v6), (7, .int v4), (6, .int v2), (5, .int v1), (0, .ref h0), (1, .int x1), (2, .int 3), (3, .int 0), (4, .int x4)]) hx hb dX7_cofactor_79 hl (by decide) rfl (fun ls hl => ?_)
  refine lv_aload_n hx hb dX7_cofactor_81 rfl (lv_at hl 4 rfl) ?_
  refine lv_iload hx hb dX7_cofactor_82 (lv_at hl 3 rfl) ?_
  refine lv_iload hx hb dX7_cofactor_84 (lv_at hl 1 rfl) ?_
  refine lv_iadd hx hb dX7_cofactor_86 (lv_topi (fun v7 e_v7 => ?_))
  have e_v7 := ai_add e_v7 rfl rfl (by omega)
  refine tz_lald hx hb hK hT 0 rfl (by omega) dX7_cofactor_87 (fun v8 e_v8 => ?_)
  clear e_v8
  refine lv_aload_n hx hb dX7_cofactor_88 rfl (lv_at hl 4 rfl) ?_
  refine lv_iload hx hb dX7_cofactor_89 (lv_at hl 2 rfl) ?_
  refine lv_iload hx hb dX7_cofactor_91 (lv_at hl 0 rfl) ?_
  refine lv_iadd hx hb dX7_cofactor_93 (lv_topi (fun v9 e_v9 => ?_))
  have e_v9 := ai_add e_v9 rfl rfl (by omega)
  refine tz_lald hx hb hK hT 0 rfl (by omega) dX7_cofactor_94 (fun v10 e_v10 => ?_)
  clear e_v10
  refine lv_lmul hx hb dX7_cofactor_95 (lv_topl (fun v11 e_v11 => ?_))
  refine lv_aload_n hx hb dX7_cofactor_96 rfl (lv_at hl 4 rfl) ?_
  refine lv_iload hx hb dX7_cofactor_97 (lv_at hl 3 rfl) ?_
  refine lv_iload hx hb dX7_cofactor_99 (lv_at hl 0 rfl) ?_
  refine lv_iadd hx hb dX7_cofactor_101 (lv_topi (fun v12 e_v12 => ?_))
  have e_v12 := ai_add e_v12 rfl rfl (by omega)
  refine tz_lald hx hb hK hT 0 rfl (by omega) dX7_cofactor_102 (fun v13 e_v13 => ?_)
  clear e_v13
  refine lv_aload_n hx hb dX7_cofactor_103 rfl (lv_at hl 4 rfl) ?_
  refine lv_iload hx hb dX7_cofactor_104 (lv_at hl 2 rfl) ?_
  refine lv_iload hx hb dX7_cofactor_106 (lv_at hl 1 rfl) ?_
  refine lv_iadd hx hb dX7_cofactor_108 (lv_topi (fun v14 e_v14 => ?_))
  have e_v14 := ai_add e_v14 rfl rfl (by omega)
  refine tz_lald hx hb hK hT 0 rfl (by omega) dX7_cofactor_109 (fun v15 e_v15 => ?_)
  clear e_v15
  refine lv_lmul hx hb dX7_cofactor_110 (lv_topl (fun v16 e_v16 => ?_))
  refine lv_lsub hx hb dX7_cofactor_111 (lv_topl (fun v17 e_v17 => ?_))
  exact tz_retL (B := B_cX7_cofactor_006a1 D k h0 x1 x4) (v := v17) hQ hx hb hr hlocks hS (Nat.le_of_ble_eq_true rfl) (Nat.le_of_ble_eq_true rfl) dX7_cofactor_112 (hT)
abbrev Rm_cX7_determinant_05929 : Room := { frames := 1, cells := 0, slots := 0, locals := 28 }
abbrev B_cX7_determinant_05929 (D : va_G) (k : Nat → ClassId) (h0 : Nat) (x1 : Int32) (x2 : Int32) (x3 : Int32) (A : Nat → Prop) (r : Int64) (H : Heap) : Prop := TP D A [(h0, aJ (k 1) 36 anJ)] H
set_option maxHeartbeats 4000000 in
set_option maxRecDepth 100000 in
theorem cX7_determinant_05929 (l : Launch) (D : va_G) (k : Nat → ClassId) (sz : Nat) (h0 : Nat) (x1 : Int32) (x2 : Int32) (x3 : Int32) (b_x1 : 0 ≤ x1.toInt ∧ x1.toInt ≤ 27) (b_x2 : 1 ≤ x2.toInt ∧ x2.toInt ≤ 3) (b_x3 : 1 ≤ x3.toInt ∧ x3.toInt ≤ 3) : Met l yX7_determinant (Cond.code yX7_determinant cX7_determinant 7 (some .long) :: uw) Rm_cX7_determinant_05929 (pT D k sz [.ref h0, .int x1, .int x2, .int x3] [(h0, aJ (k 1) 36 anJ)]) (qL (B_cX7_determinant_05929 D k h0 x1 x2 x3 (zA [h0] sz)) (zA [h0] sz)) 0 0 (zA [h0] sz) := by
  refine tz_begin (as := [h0]) (Qc := fun A => qL (B_cX7_determinant_05929 D k h0 x1 x2 x3 A) A) (by decide +kernel) rfl (Nat.le_of_ble_eq_true rfl) ?_
  intro p e s m args below meth c ls A Q hx hb hr hml hown hlocks hin hU hK hT hS hA hl hQ
  have hl : lv_has ls 7 [(0, .ref h0), (1, .int x1), (2, .int x2), (3, .int x3)] := hl
  have hT : TP D A [(h0, aJ (k 1) 36 anJ)] s.heap := hT
  refine lv_iload_n hx hb dX7_determinant_0 rfl (lv_at hl 3 rfl) ?_
  refine lv_iconst (v := 1) hx hb dX7_determinant_1 (by decide) ?_
  refine lv_icmp_ne (tgt := 9) hx hb dX7_determinant_2 (by decide) (fun c_1 => ?_) (fun c_1 => ?_)
  · skip
    have c_1 := ni_ne c_1 rfl li_1
    refine lv_iload_n hx hb dX7_determinant_9 rfl (lv_at hl 3 rfl) ?_
    refine lv_iconst (v := 2) hx hb dX7_determinant_10 (by decide) ?_
    refine lv_icmp_ne (tgt := 38) hx hb dX7_determinant_11 (by decide) (fun c_2 => ?_) (fun c_2 => ?_)
    · skip
      have c_2 := ni_ne c_2 rfl li_2
      refine lv_lconst (v := 0) hx hb dX7_determinant_38 (by decide) ?_
      refine lv_lstore (lv' := [(4, .long 0), (0, .ref h0), (1, .int x1), (2, .int x2), (3, .int x3)]) hx hb dX7_determinant_39 hl (by decide) rfl (fun ls hl => ?_)
      refine lv_iconst (v := 0) hx hb dX7_determinant_41 (by decide) ?_
      refine lv_istore (lv' := [(6, .int 0), (4, .long 0), (0, .ref h0), (1, .int x1), (2, .int x2), (3, .int x3)]) hx hb dX7_determinant_42 hl (by decide) rfl (fun ls hl => ?_)
      have lp44_9 : ∀ (n : Nat) (y7 : Int32) (y8 : Int64) (H : Heap) (locs : List Loc) (ls : Array Slot), (0 ≤ y7.toInt ∧ y7.toInt ≤ 3) → ((-1) * y7.toInt + 3 + 1).toNat < n → TP D A [(h0, aJ (k 1) 36 anJ)] H → va_S A s.heap H locs → lv_has ls 7 [(0, .ref h0), (1, .int x1), (4, .long y8), (6, .int y7)] → W p l e Rm_cX7_determinant_05929 s m args below meth c H locs 0 0 Q (F0 m 44 ls []) := by
        intro n
        induction n with
        | zero => intro y7 y8 H locs ls b_y7 hm hT hS hl; exact absurd hm (Nat.not_lt_zero _)
        | succ n ih =>
          intro y7 y8 H locs ls b_y7 hm hT hS hl
          have ih44_9 := ih
          clear ih
          refine lv_iload hx hb dX7_determinant_44 (lv_at hl 3 rfl) ?_
          refine lv_iconst (v := 3) hx hb dX7_determinant_46 (by decide) ?_
          refine lv_icmp_ge (tgt := 77) hx hb dX7_determinant_47 (by decide) (fun c_10 => ?_) (fun c_10 => ?_)
          · skip
            have c_10 := ni_le c_10 li_3 rfl
            refine lv_lload hx hb dX7_determinant_77 (lv_at hl 2 rfl) ?_
            exact tz_retL (B := B_cX7_determinant_05929 D k h0 x1 x2 x3) (v := y8) hQ hx hb hr hlocks hS (Nat.le_of_ble_eq_true rfl) (Nat.le_of_ble_eq_true rfl) dX7_determinant_79 (hT)
          · skip
            have c_10 := ni_nle c_10 li_3 rfl
            refine lv_lload hx hb dX7_determinant_50 (lv_at hl 2 rfl) ?_
            refine lv_aload_n hx hb dX7_determinant_52 rfl (lv_at hl 0 rfl) ?_
            refine lv_iload_n hx hb dX7_determinant_53 rfl (lv_at hl 1 rfl) ?_
            refine lv_iload hx hb dX7_determinant_54 (lv_at hl 3 rfl) ?_
            refine lv_iadd hx hb dX7_determinant_56 (lv_topi (fun v11 e_v11 => ?_))
            have e_v11 := ai_add e_v11 rfl rfl (by omega)
            refine tz_lald hx hb hK hT 0 rfl (by omega) dX7_determinant_57 (fun v12 e_v12 => ?_)
            clear e_v12
            refine lv_aload_n hx hb dX7_determinant_58 rfl (lv_at hl 0 rfl) ?_
            refine lv_iload_n hx hb dX7_determinant_59 rfl (lv_at hl 1 rfl) ?_
            refine lv_iconst (v := 3) hx hb dX7_determinant_60 (by decide) ?_
            refine lv_iconst (v := 0) hx hb dX7_determinant_61 (by decide) ?_
            refine lv_iload hx hb dX7_determinant_62 (lv_at hl 3 rfl) ?_
            refine tcL (Tc := [(h0, aJ (k 1) 36 anJ)]) (Tr := []) (as := [h0]) (zcS (As := [.ref h0, .int x1, .int 3, .int 0, .int y7]) (rest := [.long v12, .long y8]) (Tc := [(h0, aJ (k 1) 36 anJ)]) hx hb hml hown hU hK hT [0] rfl (by decide) (cX7_cofactor_006a1 l D k _ h0 x1 y7 (by omega) (by omega)) w375 w373 w374 w74 hdX7_cofactor ⟨rfl, rfl⟩ ⟨Nat.le_of_ble_eq_true rfl, Nat.le_of_ble_eq_true rfl⟩ rfl hl.1 (Nat.le_of_ble_eq_true rfl) dX7_determinant_64 ⟨Nat.le_of_ble_eq_true rfl, Nat.le_of_ble_eq_true rfl⟩) hT hS hA [0] [] rfl rfl rfl (by decide) (by decide) (fun r13 H locs hB J hS => ?_)
            have hT1 := hB
            have hT := J _ hT1
            have hT : TP D A [(h0, aJ (k 1) 36 anJ)] _ := hT
            refine lv_lmul hx hb dX7_determinant_67 (lv_topl (fun v14 e_v14 => ?_))
            refine lv_ladd hx hb dX7_determinant_68 (lv_topl (fun v15 e_v15 => ?_))
            refine lv_lstore (lv' := [(4, .long v15), (0, .ref h0), (1, .int x1), (6, .int y7)]) hx hb dX7_determinant_69 hl (by decide) rfl (fun ls hl => ?_)
            obtain ⟨v16, e_v16⟩ : ∃ x : Int32, x = y7 + Int32.ofInt 1 := ⟨_, rfl⟩
            have f_v16 := e_v16.symm
            have e_v16 : v16.toInt = y7.toInt + 1 := ai_add e_v16 rfl (show (Int32.ofInt 1).toInt = 1 from (by decide +kernel)) (by omega)
            refine lv_iinc (v := v16) (lv' := [(6, .int v16), (4, .long v15), (0, .ref h0), (1, .int x1)]) hx hb dX7_determinant_71 hl (k := 3) rfl f_v16 (by decide) rfl (fun ls hl => ?_)
            refine lv_goto (tgt := 44) hx hb dX7_determinant_74 (by decide) ?_
            exact ih44_9 v16 v15 _ _ _ (by omega)  (by omega) hT hS (lv_sub hl [2, 3, 1, 0] rfl)
      exact lp44_9 (((-1) * (0 : Int32).toInt + 3 + 1).toNat + 1) (0) (0) _ _ _ (by have := li_0; have := ll_0; omega)  (Nat.lt_succ_self _) hT hS (lv_sub hl [2, 3, 1, 0] rfl)
    · skip
      have c_2 := ni_eq c_2 rfl li_2
      refine lv_aload_n hx hb dX7_determinant_14 rfl (lv_at hl 0 rfl) ?_
      refine lv_iload_n hx hb dX7_determinant_15 rfl (lv_at hl 1 rfl) ?_
      refine tz_lald hx hb hK hT 0 rfl (by omega) dX7_determinant_16 (fun v17 e_v17 => ?_)
      clear e_v17
      refine lv_aload_n hx hb dX7_determinant_17 rfl (lv_at hl 0 rfl) ?_
      refine lv_iload_n hx hb dX7_determinant_18 rfl (lv_at hl 1 rfl) ?_
      refine lv_iload_n hx hb dX7_determinant_19 rfl (lv_at hl 2 rfl) ?_
      refine lv_iadd hx hb dX7_determinant_20 (lv_topi (fun v18 e_v18 => ?_))
      have e_v18 := ai_add e_v18 rfl rfl (by omega)
      refine lv_iconst (v := 1) hx hb dX7_determinant_21 (by decide) ?_
      refine lv_iadd hx hb dX7_determinant_22 (lv_topi (fun v19 e_v19 => ?_))
      have e_v19 := ai_add e_v19 rfl li_1 (by omega)
      refine tz_lald hx hb hK hT 0 rfl (by omega) dX7_determinant_23 (fun v20 e_v20 => ?_)
      clear e_v20
      refine lv_lmul hx hb dX7_determinant_24 (lv_topl (fun v21 e_v21 => ?_))
      refine lv_aload_n hx hb dX7_determinant_25 rfl (lv_at hl 0 rfl) ?_
      refine lv_iload_n hx hb dX7_determinant_26 rfl (lv_at hl 1 rfl) ?_
      refine lv_iconst (v := 1) hx hb dX7_determinant_27 (by decide) ?_
      refine lv_iadd hx hb dX7_determinant_28 (lv_topi (fun v22 e_v22 => ?_))
      have e_v22 := ai_add e_v22 rfl li_1 (by omega)
      refine tz_lald hx hb hK hT 0 rfl (by omega) dX7_determinant_29 (fun v23 e_v23 => ?_)
      clear e_v23
      refine lv_aload_n hx hb dX7_determinant_30 rfl (lv_at hl 0 rfl) ?_
      refine lv_iload_n hx hb dX7_determinant_31 rfl (lv_at hl 1 rfl) ?_
      refine lv_iload_n hx hb dX7_determinant_32 rfl (lv_at hl 2 rfl) ?_
      refine lv_iadd hx hb dX7_determinant_33 (lv_topi (fun v24 e_v24 => ?_))
      have e_v24 := ai_add e_v24 rfl rfl (by omega)
      refine tz_lald hx hb hK hT 0 rfl (by omega) dX7_determinant_34 (fun v25 e_v25 => ?_)
      clear e_v25
      refine lv_lmul hx hb dX7_determinant_35 (lv_topl (fun v26 e_v26 => ?_))
      refine lv_lsub hx hb dX7_determinant_36 (lv_topl (fun v27 e_v27 => ?_))
      exact tz_retL (B := B_cX7_determinant_05929 D k h0 x1 x2 x3) (v := v27) hQ hx hb hr hlocks hS (Nat.le_of_ble_eq_true rfl) (Nat.le_of_ble_eq_true rfl) dX7_determinant_37 (hT)
  · skip
    have c_1 := ni_eq c_1 rfl li_1
    refine lv_aload_n hx hb dX7_determinant_5 rfl (lv_at hl 0 rfl) ?_
    refine lv_iload_n hx hb dX7_determinant_6 rfl (lv_at hl 1 rfl) ?_
    refine tz_lald hx hb hK hT 0 rfl (by omega) dX7_determinant_7 (fun v28 e_v28 => ?_)
    clear e_v28
    exact tz_retL (B := B_cX7_determinant_05929 D k h0 x1 x2 x3) (v := v28) hQ hx hb hr hlocks hS (Nat.le_of_ble_eq_true rfl) (Nat.le_of_ble_eq_true rfl) dX7_determinant_8 (hT)
abbrev Rm_cX7_cofactor_b0b8d : Room := { frames := 0, cells := 0, slots := 0, locals := 0 }
abbrev B_cX7_cofactor_b0b8d (D : va_G) (k : Nat → ClassId) (h0 : Nat) (x1 : Int32) (x2 : Int32) (x3 : Int32) (x4 : Int32) (A : Nat → Prop) (r : Int64) (H : Heap) : Prop := 1 = r ∧ TP D A [] H
set_option maxHeartbeats 4000000 in
set_option maxRecDepth 100000 in
theorem cX7_cofactor_b0b8d (l : Launch) (D : va_G) (k : Nat → ClassId) (sz : Nat) (h0 : Nat) (x1 : Int32) (x2 : Int32) (x3 : Int32) (x4 : Int32) (b_x1 : 0 ≤ x1.toInt ∧ x1.toInt ≤ 18) (b_x2 : 1 ≤ x2.toInt ∧ x2.toInt ≤ 1) (b_x3 : 0 ≤ x3.toInt ∧ x3.toInt ≤ 0) (b_x4 : 0 ≤ x4.toInt ∧ x4.toInt ≤ 0) : Met l yX7_cofactor (Cond.code yX7_cofactor cX7_cofactor 9 (some .long) :: uw) Rm_cX7_cofactor_b0b8d (pT D k sz [.ref h0, .int x1, .int x2, .int x3, .int x4] []) (qL (B_cX7_cofactor_b0b8d D k h0 x1 x2 x3 x4 (zA [] sz)) (zA [] sz)) 0 0 (zA [] sz) := by
  refine tz_begin (as := []) (Qc := fun A => qL (B_cX7_cofactor_b0b8d D k h0 x1 x2 x3 x4 A) A) (by decide +kernel) rfl (Nat.le_of_ble_eq_true rfl) ?_
  intro p e s m args below meth c ls A Q hx hb hr hml hown hlocks hin hU hK hT hS hA hl hQ
  have hl : lv_has ls 9 [(0, .ref h0), (1, .int x1), (2, .int x2), (3, .int x3), (4, .int x4)] := hl
  have hT : TP D A [] s.heap := hT
  refine lv_iload_n hx hb dX7_cofactor_0 rfl (lv_at hl 2 rfl) ?_
  refine lv_iconst (v := 1) hx hb dX7_cofactor_1 (by decide) ?_
  refine lv_icmp_ne (tgt := 7) hx hb dX7_cofactor_2 (by decide) (fun c_1 => ?_) (fun c_1 => ?_)
  · skip
    have c_1 := ni_ne c_1 rfl li_1
    exfalso; omega
  · skip
    have c_1 := ni_eq c_1 rfl li_1
    refine lv_lconst (v := 1) hx hb dX7_cofactor_5 (by decide) ?_
    exact tz_retL (B := B_cX7_cofactor_b0b8d D k h0 x1 x2 x3 x4) (v := 1) hQ hx hb hr hlocks hS (Nat.le_of_ble_eq_true rfl) (Nat.le_of_ble_eq_true rfl) dX7_cofactor_6 (⟨rfl, hT⟩)
abbrev Rm_cX7_cofactor_c07fc : Room := { frames := 0, cells := 0, slots := 0, locals := 0 }
abbrev B_cX7_cofactor_c07fc (D : va_G) (k : Nat → ClassId) (h0 : Nat) (x1 : Int32) (x2 : Int32) (x3 : Int32) (x4 : Int32) (A : Nat → Prop) (r : Int64) (H : Heap) : Prop := TP D A [(h0, aJ (k 1) 36 anJ)] H
set_option maxHeartbeats 4000000 in
set_option maxRecDepth 100000 in
theorem cX7_cofactor_c07fc (l : Launch) (D : va_G) (k : Nat → ClassId) (sz : Nat) (h0 : Nat) (x1 : Int32) (x2 : Int32) (x3 : Int32) (x4 : Int32) (b_x1 : 0 ≤ x1.toInt ∧ x1.toInt ≤ 18) (b_x2 : 2 ≤ x2.toInt ∧ x2.toInt ≤ 2) (b_x3 : 0 ≤ x3.toInt ∧ x3.toInt ≤ 1) (b_x4 : 0 ≤ x4.toInt ∧ x4.toInt ≤ 1) : Met l yX7_cofactor (Cond.code yX7_cofactor cX7_cofactor 9 (some .long) :: uw) Rm_cX7_cofactor_c07fc (pT D k sz [.ref h0, .int x1, .int x2, .int x3, .int x4] [(h0, aJ (k 1) 36 anJ)]) (qL (B_cX7_cofactor_c07fc D k h0 x1 x2 x3 x4 (zA [h0] sz)) (zA [h0] sz)) 0 0 (zA [h0] sz) := by
  refine tz_begin (as := [h0]) (Qc := fun A => qL (B_cX7_cofactor_c07fc D k h0 x1 x2 x3 x4 A) A) (by decide +kernel) rfl (Nat.le_of_ble_eq_true rfl) ?_
  intro p e s m args below meth c ls A Q hx hb hr hml hown hlocks hin hU hK hT hS hA hl hQ
  have hl : lv_has ls 9 [(0, .ref h0), (1, .int x1), (2, .int x2), (3, .int x3), (4, .int x4)] := hl
  have hT : TP D A [(h0, aJ (k 1) 36 anJ)] s.heap := hT
  refine lv_iload_n hx hb dX7_cofactor_0 rfl (lv_at hl 2 rfl) ?_
  refine lv_iconst (v := 1) hx hb dX7_cofactor_1 (by decide) ?_
  refine lv_icmp_ne (tgt := 7) hx hb dX7_cofactor_2 (by decide) (fun c_1 => ?_) (fun c_1 => ?_)
  · skip
    have c_1 := ni_ne c_1 rfl li_1
    refine lv_iload_n hx hb dX7_cofactor_7 rfl (lv_at hl 2 rfl) ?_
    refine lv_iconst (v := 2) hx hb dX7_cofactor_8 (by decide) ?_
    refine lv_icmp_ne (tgt := 43) hx hb dX7_cofactor_9 (by decide) (fun c_2 => ?_) (fun c_2 => ?_)
    · skip
      have c_2 := ni_ne c_2 rfl li_2
      exfalso; omega
    · skip
      have c_2 := ni_eq c_2 rfl li_2
      refine lv_aload_n hx hb dX7_cofactor_12 rfl (lv_at hl 0 rfl) ?_
      refine lv_iload_n hx hb dX7_cofactor_13 rfl (lv_at hl 1 rfl) ?_
      refine lv_iconst (v := 1) hx hb dX7_cofactor_14 (by decide) ?_
      refine lv_iload_n hx hb dX7_cofactor_15 rfl (lv_at hl 3 rfl) ?_
      refine lv_isub hx hb dX7_cofactor_16 (lv_topi (fun v3 e_v3 => ?_))
      have e_v3 := ai_sub e_v3 li_1 rfl (by omega)
      refine lv_iconst (v := 2) hx hb dX7_cofactor_17 (by decide) ?_
      refine lv_imul hx hb dX7_cofactor_18 (lv_topi (fun v4 e_v4 => ?_))
      have e_v4 := ai_mul e_v4 rfl li_2 (by omega)
      refine lv_iadd hx hb dX7_cofactor_19 (lv_topi (fun v5 e_v5 => ?_))
      have e_v5 := ai_add e_v5 rfl rfl (by omega)
      refine lv_iconst (v := 1) hx hb dX7_cofactor_20 (by decide) ?_
      refine lv_iadd hx hb dX7_cofactor_21 (lv_topi (fun v6 e_v6 => ?_))
      have e_v6 := ai_add e_v6 rfl li_1 (by omega)
      refine lv_iload hx hb dX7_cofactor_22 (lv_at hl 4 rfl) ?_
      refine lv_isub hx hb dX7_cofactor_24 (lv_topi (fun v7 e_v7 => ?_))
      have e_v7 := ai_sub e_v7 rfl rfl (by omega)
      refine tz_lald hx hb hK hT 0 rfl (by omega) dX7_cofactor_25 (fun v8 e_v8 => ?_)
      clear e_v8
      refine lv_lstore (lv' := [(5, .long v8), (0, .ref h0), (1, .int x1), (2, .int x2), (3, .int x3), (4, .int x4)]) hx hb dX7_cofactor_26 hl (by decide) rfl (fun ls hl => ?_)
      refine lv_iload_n hx hb dX7_cofactor_28 rfl (lv_at hl 4 rfl) ?_
      refine lv_iload hx hb dX7_cofactor_29 (lv_at hl 5 rfl) ?_
      refine lv_icmp_ne (tgt := 39) hx hb dX7_cofactor_31 (by decide) (fun c_9 => ?_) (fun c_9 => ?_)
      · skip
        have c_9 := ni_ne c_9 rfl rfl
        refine lv_lload hx hb dX7_cofactor_39 (lv_at hl 0 rfl) ?_
        refine lv_lneg hx hb dX7_cofactor_41 (lv_topl (fun v10 e_v10 => ?_))
        have e_v10 := al_negz e_v10
        exact tz_retL (B := B_cX7_cofactor_c07fc D k h0 x1 x2 x3 x4) (v := v10) hQ hx hb hr hlocks hS (Nat.le_of_ble_eq_true rfl) (Nat.le_of_ble_eq_true rfl) dX7_cofactor_42 (hT)
      · skip
        have c_9 := ni_eq c_9 rfl rfl
        refine lv_lload hx hb dX7_cofactor_34 (lv_at hl 0 rfl) ?_
        refine lv_goto (tgt := 42) hx hb dX7_cofactor_36 (by decide) ?_
        exact tz_retL (B := B_cX7_cofactor_c07fc D k h0 x1 x2 x3 x4) (v := v8) hQ hx hb hr hlocks hS (Nat.le_of_ble_eq_true rfl) (Nat.le_of_ble_eq_true rfl) dX7_cofactor_42 (hT)
  · skip
    have c_1 := ni_eq c_1 rfl li_1
    exfalso; omega
abbrev Rm_cX7_cofactor_10201 : Room := { frames := 0, cells := 0, slots := 0, locals := 0 }
abbrev B_cX7_cofactor_10201 (D : va_G) (k : Nat → ClassId) (h0 : Nat) (x1 : Int32) (x2 : Int32) (x3 : Int32) (x4 : Int32) (A : Nat → Prop) (r : Int64) (H : Heap) : Prop := TP D A [(h0, aJ (k 1) 36 anJ)] H
set_option maxHeartbeats 4000000 in
set_option maxRecDepth 100000 in
theorem cX7_cofactor_10201 (l : Launch) (D : va_G) (k : Nat → ClassId) (sz : Nat) (h0 : Nat) (x1 : Int32) (x2 : Int32) (x3 : Int32) (x4 : Int32) (b_x1 : 0 ≤ x1.toInt ∧ x1.toInt ≤ 18) (b_x2 : 3 ≤ x2.toInt ∧ x2.toInt ≤ 3) (b_x3 : 0 ≤ x3.toInt ∧ x3.toInt ≤ 2) (b_x4 : 0 ≤ x4.toInt ∧ x4.toInt ≤ 2) : Met l yX7_cofactor (Cond.code yX7_cofactor cX7_cofactor 9 (some .long) :: uw) Rm_cX7_cofactor_10201 (pT D k sz [.ref h0, .int x1, .int x2, .int x3, .int x4] [(h0, aJ (k 1) 36 anJ)]) (qL (B_cX7_cofactor_10201 D k h0 x1 x2 x3 x4 (zA [h0] sz)) (zA [h0] sz)) 0 0 (zA [h0] sz) := by
  refine tz_begin (as := [h0]) (Qc := fun A => qL (B_cX7_cofactor_10201 D k h0 x1 x2 x3 x4 A) A) (by decide +kernel) rfl (Nat.le_of_ble_eq_true rfl) ?_
  intro p e s m args below meth c ls A Q hx hb hr hml hown hlocks hin hU hK hT hS hA hl hQ
  have hl : lv_has ls 9 [(0, .ref h0), (1, .int x1), (2, .int x2), (3, .int x3), (4, .int x4)] := hl
  have hT : TP D A [(h0, aJ (k 1) 36 anJ)] s.heap := hT
  refine lv_iload_n hx hb dX7_cofactor_0 rfl (lv_at hl 2 rfl) ?_
  refine lv_iconst (v := 1) hx hb dX7_cofactor_1 (by decide) ?_
  refine lv_icmp_ne (tgt := 7) hx hb dX7_cofactor_2 (by decide) (fun c_1 => ?_) (fun c_1 => ?_)
  · skip
    have c_1 := ni_ne c_1 rfl li_1
    refine lv_iload_n hx hb dX7_cofactor_7 rfl (lv_at hl 2 rfl) ?_
    refine lv_iconst (v := 2) hx hb dX7_cofactor_8 (by decide) ?_
    refine lv_icmp_ne (tgt := 43) hx hb dX7_cofactor_9 (by decide) (fun c_2 => ?_) (fun c_2 => ?_)
    · skip
      have c_2 := ni_ne c_2 rfl li_2
      refine lv_iload_n hx hb dX7_cofactor_43 rfl (lv_at hl 1 rfl) ?_
      refine lv_iload_n hx hb dX7_cofactor_44 rfl (lv_at hl 3 rfl) ?_
      refine lv_iconst (v := 1) hx hb dX7_cofactor_45 (by decide) ?_
      refine lv_iadd hx hb dX7_cofactor_46 (lv_topi (fun v3 e_v3 => ?_))
      have e_v3 := ai_add e_v3 rfl li_1 (by omega)
      refine lv_iconst (v := 3) hx hb dX7_cofactor_47 (by decide) ?_
      refine lv_irem hx hb dX7_cofactor_48 (by decide +kernel) (lv_topi (fun v4 e_v4 => ?_))
      have e_v4 := ai_rem e_v4 rfl li_3 (by omega)
      refine lv_iconst (v := 3) hx hb dX7_cofactor_49 (by decide) ?_
      refine lv_imul hx hb dX7_cofactor_50 (lv_topi (fun v5 e_v5 => ?_))
      have e_v5 := ai_mul e_v5 rfl li_3 (by omega)
      refine lv_iadd hx hb dX7_cofactor_51 (lv_topi (fun v6 e_v6 => ?_))
      have e_v6 := ai_add e_v6 rfl rfl (by omega)
      refine lv_istore (lv' := [(5, .int v6), (0, .ref h0), (1, .int x1), (2, .int x2), (3, .int x3), (4, .int x4)]) hx hb dX7_cofactor_52 hl (by decide) rfl (fun ls hl => ?_)
      refine lv_iload_n hx hb dX7_cofactor_54 rfl (lv_at hl 2 rfl) ?_
      refine lv_iload_n hx hb dX7_cofactor_55 rfl (lv_at hl 4 rfl) ?_
      refine lv_iconst (v := 2) hx hb dX7_cofactor_56 (by decide) ?_
      refine lv_iadd hx hb dX7_cofactor_57 (lv_topi (fun v7 e_v7 => ?_))
      have e_v7 := ai_add e_v7 rfl li_2 (by omega)
      refine lv_iconst (v := 3) hx hb dX7_cofactor_58 (by decide) ?_
      refine lv_irem hx hb dX7_cofactor_59 (by decide +kernel) (lv_topi (fun v8 e_v8 => ?_))
      have e_v8 := ai_rem e_v8 rfl li_3 (by omega)
      refine lv_iconst (v := 3) hx hb dX7_cofactor_60 (by decide) ?_
      refine lv_imul hx hb dX7_cofactor_61 (lv_topi (fun v9 e_v9 => ?_))
      have e_v9 := ai_mul e_v9 rfl li_3 (by omega)
      refine lv_iadd hx hb dX7_cofactor_62 (lv_topi (fun v10 e_v10 => ?_))
      have e_v10 := ai_add e_v10 rfl rfl (by omega)
      refine lv_istore (lv' := [(6, .int v10), (5, .int v6), (0, .ref h0), (1, .int x1), (2, .int x2), (3, .int x3), (4, .int x4)]) hx hb dX7_cofactor_63 hl (by decide) rfl (fun ls hl => ?_)
      refine lv_iload hx hb dX7_cofactor_65 (lv_at hl 6 rfl) ?_
      refine lv_iconst (v := 1) hx hb dX7_cofactor_67 (by decide) ?_
      refine lv_iadd hx hb dX7_cofactor_68 (lv_topi (fun v11 e_v11 => ?_))
      have e_v11 := ai_add e_v11 rfl li_1 (by omega)
      refine lv_iconst (v := 3) hx hb dX7_cofactor_69 (by decide) ?_
      refine lv_irem hx hb dX7_cofactor_70 (by decide +kernel) (lv_topi (fun v12 e_v12 => ?_))
      have e_v12 := ai_rem e_v12 rfl li_3 (by omega)
      refine lv_istore (lv' := [(7, .int v12), (6, .int v10), (5, .int v6), (0, .ref h0), (1, .int x1), (2, .int x2), (3, .int x3), (4, .int x4)]) hx hb dX7_cofactor_71 hl (by decide) rfl (fun ls hl => ?_)
      refine lv_iload hx hb dX7_cofactor_73 (lv_at hl 7 rfl) ?_
      refine lv_iconst (v := 2) hx hb dX7_cofactor_75 (by decide) ?_
      refine lv_iadd hx hb dX7_cofactor_76 (lv_topi (fun v13 e_v13 => ?_))
      have e_v13 := ai_add e_v13 rfl li_2 (by omega)
      refine lv_iconst (v := 3) hx hb dX7_cofactor_77 (by decide) ?_
      refine lv_irem hx hb dX7_cofactor_78 (by decide +kernel) (lv_topi (fun v14 e_v14 => ?_))
      have e_v14 := ai_rem e_v14 rfl li_3 (by omega)
      refine lv_istore (lv' := [(8, .int v14), (7, .int v12), (6, .int v10), (5, .int v6), (0, .ref h0), (1, .int x1), (2, .int x2), (3, .int x3), (4, .int x4)]) hx hb dX7_cofactor_79 hl (by decide) rfl (fun ls hl => ?_)
      refine lv_aload_n hx hb dX7_cofactor_81 rfl (lv_at hl 4 rfl) ?_
      refine lv_iload hx hb dX7_cofactor_82 (lv_at hl 3 rfl) ?_
      refine lv_iload hx hb dX7_cofactor_84 (lv_at hl 1 rfl) ?_
      refine lv_iadd hx hb dX7_cofactor_86 (lv_topi (fun v15 e_v15 => ?_))
      have e_v15 := ai_add e_v15 rfl rfl (by omega)
      refine tz_lald hx hb hK hT 0 rfl (by omega) dX7_cofactor_87 (fun v16 e_v16 => ?_)
      clear e_v16
      refine lv_aload_n hx hb dX7_cofactor_88 rfl (lv_at hl 4 rfl) ?_
      refine lv_iload hx hb dX7_cofactor_89 (lv_at hl 2 rfl) ?_
      refine lv_iload hx hb dX7_cofactor_91 (lv_at hl 0 rfl) ?_
      refine lv_iadd hx hb dX7_cofactor_93 (lv_topi (fun v17 e_v17 => ?_))
      have e_v17 := ai_add e_v17 rfl rfl (by omega)
      refine tz_lald hx hb hK hT 0 rfl (by omega) dX7_cofactor_94 (fun v18 e_v18 => ?_)
      clear e_v18
      refine lv_lmul hx hb dX7_cofactor_95 (lv_topl (fun v19 e_v19 => ?_))
      refine lv_aload_n hx hb dX7_cofactor_96 rfl (lv_at hl 4 rfl) ?_
      refine lv_iload hx hb dX7_cofactor_97 (lv_at hl 3 rfl) ?_
      refine lv_iload hx hb dX7_cofactor_99 (lv_at hl 0 rfl) ?_
      refine lv_iadd hx hb dX7_cofactor_101 (lv_topi (fun v20 e_v20 => ?_))
      have e_v20 := ai_add e_v20 rfl rfl (by omega)
      refine tz_lald hx hb hK hT 0 rfl (by omega) dX7_cofactor_102 (fun v21 e_v21 => ?_)
      clear e_v21
      refine lv_aload_n hx hb dX7_cofactor_103 rfl (lv_at hl 4 rfl) ?_
      refine lv_iload hx hb dX7_cofactor_104 (lv_at hl 2 rfl) ?_
      refine lv_iload hx hb dX7_cofactor_106 (lv_at hl 1 rfl) ?_
      refine lv_iadd hx hb dX7_cofactor_108 (lv_topi (fun v22 e_v22 => ?_))
      have e_v22 := ai_add e_v22 rfl rfl (by omega)
      refine tz_lald hx hb hK hT 0 rfl (by omega) dX7_cofactor_109 (fun v23 e_v23 => ?_)
      clear e_v23
      refine lv_lmul hx hb dX7_cofactor_110 (lv_topl (fun v24 e_v24 => ?_))
      refine lv_lsub hx hb dX7_cofactor_111 (lv_topl (fun v25 e_v25 => ?_))
      exact tz_retL (B := B_cX7_cofactor_10201 D k h0 x1 x2 x3 x4) (v := v25) hQ hx hb hr hlocks hS (Nat.le_of_ble_eq_true rfl) (Nat.le_of_ble_eq_true rfl) dX7_cofactor_112 (hT)
    · skip
      have c_2 := ni_eq c_2 rfl li_2
      exfalso; omega
  · skip
    have c_1 := ni_eq c_1 rfl li_1
    exfalso; omega
abbrev Rm_cX7_invert_5336c : Room := { frames := 2, cells := 0, slots := 0, locals := 54 }
abbrev B_cX7_invert_5336c (D : va_G) (k : Nat → ClassId) (h0 h1 : Nat) (x1 : Int32) (x3 : Int32) (A : Nat → Prop) (H : Heap) : Prop := TP D A [(h0, aJ (k 1) 36 anJ), (h1, aJ (k 1) 9 anJ)] H
set_option maxHeartbeats 4000000 in
set_option maxRecDepth 100000 in
theorem cX7_invert_5336c (l : Launch) (D : va_G) (k : Nat → ClassId) (sz : Nat) (h0 h1 : Nat) (x1 : Int32) (x3 : Int32) (b_x1 : 0 ≤ x1.toInt ∧ x1.toInt ≤ 18) (b_x3 : 1 ≤ x3.toInt ∧ x3.toInt ≤ 3) : Met l yX7_invert (Cond.code yX7_invert cX7_invert 8 none :: uw) Rm_cX7_invert_5336c (pT D k sz [.ref h0, .int x1, .ref h1, .int x3] [(h0, aJ (k 1) 36 anJ), (h1, aJ (k 1) 9 anJ)]) (qV (B_cX7_invert_5336c D k h0 h1 x1 x3 (zA [h0, h1] sz)) (zA [h0, h1] sz)) 0 0 (zA [h0, h1] sz) := by
  refine tz_begin (as := [h0, h1]) (Qc := fun A => qV (B_cX7_invert_5336c D k h0 h1 x1 x3 A) A) (by decide +kernel) rfl (Nat.le_of_ble_eq_true rfl) ?_
  intro p e s m args below meth c ls A Q hx hb hr hml hown hlocks hin hU hK hT hS hA hl hQ
  have hl : lv_has ls 8 [(0, .ref h0), (1, .int x1), (2, .ref h1), (3, .int x3)] := hl
  have hT : TP D A [(h0, aJ (k 1) 36 anJ), (h1, aJ (k 1) 9 anJ)] s.heap := hT
  rcases (show x3.toInt = 1 ∨ x3.toInt = 2 ∨ x3.toInt = 3 by omega) with hq1 | hq1 | hq1
  · skip
    refine lv_aload_n hx hb dX7_invert_0 rfl (lv_at hl 0 rfl) ?_
    refine lv_iload_n hx hb dX7_invert_1 rfl (lv_at hl 1 rfl) ?_
    refine lv_iload_n hx hb dX7_invert_2 rfl (lv_at hl 3 rfl) ?_
    refine lv_iload_n hx hb dX7_invert_3 rfl (lv_at hl 3 rfl) ?_
    refine tcL (Tc := [(h0, aJ (k 1) 36 anJ)]) (Tr := [(h1, aJ (k 1) 9 anJ)]) (as := [h0]) (zcS (As := [.ref h0, .int x1, .int x3, .int x3]) (rest := []) (Tc := [(h0, aJ (k 1) 36 anJ)]) hx hb hml hown hU hK hT [0] rfl (by decide) (cX7_determinant_05929 l D k _ h0 x1 x3 x3 (by omega) (by omega) (by omega)) w372 w370 w371 w74 hdX7_determinant ⟨rfl, rfl⟩ ⟨Nat.le_of_ble_eq_true rfl, Nat.le_of_ble_eq_true rfl⟩ rfl hl.1 (Nat.le_of_ble_eq_true rfl) dX7_invert_4 ⟨Nat.le_of_ble_eq_true rfl, Nat.le_of_ble_eq_true rfl⟩) hT hS hA [0] [1] rfl rfl rfl (by decide) (by decide) (fun r2 H locs hB J hS => ?_)
    have hT1 := hB
    have hT := J _ hT1
    have hT : TP D A [(h1, aJ (k 1) 9 anJ), (h0, aJ (k 1) 36 anJ)] _ := hT
    refine lv_lstore (lv' := [(4, .long r2), (0, .ref h0), (1, .int x1), (2, .ref h1), (3, .int x3)]) hx hb dX7_invert_7 hl (by decide) rfl (fun ls hl => ?_)
    refine lv_iconst (v := 0) hx hb dX7_invert_9 (by decide) ?_
    refine lv_istore (lv' := [(6, .int 0), (4, .long r2), (0, .ref h0), (1, .int x1), (2, .ref h1), (3, .int x3)]) hx hb dX7_invert_10 hl (by decide) rfl (fun ls hl => ?_)
    have lp12_4 : ∀ (n : Nat) (y3 : Int32) (H : Heap) (locs : List Loc) (ls : Array Slot), (0 ≤ y3.toInt ∧ y3.toInt ≤ 1) → (x3.toInt + (-1) * y3.toInt + 1).toNat < n → TP D A [(h1, aJ (k 1) 9 anJ), (h0, aJ (k 1) 36 anJ)] H → va_S A s.heap H locs → lv_has ls 8 [(0, .ref h0), (1, .int x1), (2, .ref h1), (3, .int x3), (4, .long r2), (6, .int y3)] → W p l e Rm_cX7_invert_5336c s m args below meth c H locs 0 0 Q (F0 m 12 ls []) := by
      intro n
      induction n with
      | zero => intro y3 H locs ls b_y3 hm hT hS hl; exact absurd hm (Nat.not_lt_zero _)
      | succ n ih =>
        intro y3 H locs ls b_y3 hm hT hS hl
        have ih12_4 := ih
        clear ih
        refine lv_iload hx hb dX7_invert_12 (lv_at hl 5 rfl) ?_
        refine lv_iload_n hx hb dX7_invert_14 rfl (lv_at hl 3 rfl) ?_
        refine lv_icmp_ge (tgt := 61) hx hb dX7_invert_15 (by decide) (fun c_5 => ?_) (fun c_5 => ?_)
        · skip
          have c_5 := ni_le c_5 hq1 rfl
          exact tz_retV (B := B_cX7_invert_5336c D k h0 h1 x1 x3) hQ hx hb hr hlocks hS (Nat.le_of_ble_eq_true rfl) (Nat.le_of_ble_eq_true rfl) dX7_invert_61 ((hT.sub [1, 0] (by decide) rfl))
        · skip
          have c_5 := ni_nle c_5 hq1 rfl
          refine lv_iconst (v := 0) hx hb dX7_invert_18 (by decide) ?_
          refine lv_istore (lv' := [(7, .int 0), (0, .ref h0), (1, .int x1), (2, .ref h1), (3, .int x3), (4, .long r2), (6, .int y3)]) hx hb dX7_invert_19 hl (by decide) rfl (fun ls hl => ?_)
          have lp21_7 : ∀ (n : Nat) (y6 : Int32) (H : Heap) (locs : List Loc) (ls : Array Slot), (0 ≤ y6.toInt ∧ y6.toInt ≤ 1) → (x3.toInt + (-1) * y6.toInt + 1).toNat < n → TP D A [(h1, aJ (k 1) 9 anJ), (h0, aJ (k 1) 36 anJ)] H → va_S A s.heap H locs → lv_has ls 8 [(0, .ref h0), (1, .int x1), (2, .ref h1), (3, .int x3), (4, .long r2), (6, .int y3), (7, .int y6)] → W p l e Rm_cX7_invert_5336c s m args below meth c H locs 0 0 Q (F0 m 21 ls []) := by
            intro n
            induction n with
            | zero => intro y6 H locs ls b_y6 hm hT hS hl; exact absurd hm (Nat.not_lt_zero _)
            | succ n ih =>
              intro y6 H locs ls b_y6 hm hT hS hl
              have ih21_7 := ih
              clear ih
              refine lv_iload hx hb dX7_invert_21 (lv_at hl 6 rfl) ?_
              refine lv_iload_n hx hb dX7_invert_23 rfl (lv_at hl 3 rfl) ?_
              refine lv_icmp_ge (tgt := 55) hx hb dX7_invert_24 (by decide) (fun c_8 => ?_) (fun c_8 => ?_)
              · skip
                have c_8 := ni_le c_8 hq1 rfl
                obtain ⟨v9, e_v9⟩ : ∃ x : Int32, x = y3 + Int32.ofInt 1 := ⟨_, rfl⟩
                have f_v9 := e_v9.symm
                have e_v9 : v9.toInt = y3.toInt + 1 := ai_add e_v9 rfl (show (Int32.ofInt 1).toInt = 1 from (by decide +kernel)) (by omega)
                refine lv_iinc (v := v9) (lv' := [(6, .int v9), (0, .ref h0), (1, .int x1), (2, .ref h1), (3, .int x3), (4, .long r2), (7, .int y6)]) hx hb dX7_invert_55 hl (k := 5) rfl f_v9 (by decide) rfl (fun ls hl => ?_)
                refine lv_goto (tgt := 12) hx hb dX7_invert_58 (by decide) ?_
                exact ih12_4 v9 _ _ _ (by omega)  (by omega) hT hS (lv_sub hl [1, 2, 3, 4, 5, 0] rfl)
              · skip
                have c_8 := ni_nle c_8 hq1 rfl
                refine lv_aload_n hx hb dX7_invert_27 rfl (lv_at hl 2 rfl) ?_
                refine lv_iload hx hb dX7_invert_28 (lv_at hl 6 rfl) ?_
                refine lv_iload_n hx hb dX7_invert_30 rfl (lv_at hl 3 rfl) ?_
                have hq10 : y6.toInt = 0 := by omega
                refine lv_imul hx hb dX7_invert_31 (lv_topi (fun v11 e_v11 => ?_))
                have e_v11 := ai_mul e_v11 hq10 hq1 (by omega)
                refine lv_iload hx hb dX7_invert_32 (lv_at hl 5 rfl) ?_
                have hq12 : v11.toInt = 0 := by omega
                have hq13 : y3.toInt = 0 := by omega
                refine lv_iadd hx hb dX7_invert_34 (lv_topi (fun v14 e_v14 => ?_))
                have e_v14 := ai_add e_v14 hq12 hq13 (by omega)
                refine lv_lload hx hb dX7_invert_35 (lv_at hl 4 rfl) ?_
                refine lv_aload_n hx hb dX7_invert_37 rfl (lv_at hl 0 rfl) ?_
                refine lv_iload_n hx hb dX7_invert_38 rfl (lv_at hl 1 rfl) ?_
                refine lv_iload_n hx hb dX7_invert_39 rfl (lv_at hl 3 rfl) ?_
                refine lv_iload hx hb dX7_invert_40 (lv_at hl 5 rfl) ?_
                refine lv_iload hx hb dX7_invert_42 (lv_at hl 6 rfl) ?_
                refine tcL (Tc := []) (Tr := [(h1, aJ (k 1) 9 anJ), (h0, aJ (k 1) 36 anJ)]) (as := []) (zcS (As := [.ref h0, .int x1, .int x3, .int y3, .int y6]) (rest := [.long r2, .int v14, .ref h1]) (Tc := []) hx hb hml hown hU hK hT [] rfl (by decide) (cX7_cofactor_b0b8d l D k _ h0 x1 x3 y3 y6 (by omega) (by omega) (by omega) (by omega)) w375 w373 w374 w74 hdX7_cofactor ⟨rfl, rfl⟩ ⟨Nat.le_of_ble_eq_true rfl, Nat.le_of_ble_eq_true rfl⟩ rfl hl.1 (Nat.le_of_ble_eq_true rfl) dX7_invert_44 ⟨Nat.le_of_ble_eq_true rfl, Nat.le_of_ble_eq_true rfl⟩) hT hS hA [] [0, 1] rfl rfl rfl (by decide) (by decide) (fun r15 H locs hB J hS => ?_)
                obtain ⟨rfl, hT1⟩ := hB
                have hT := J _ hT1
                have hT : TP D A [(h1, aJ (k 1) 9 anJ), (h0, aJ (k 1) 36 anJ)] _ := hT
                refine lv_lmul hx hb dX7_invert_47 (lv_topl (fun v16 e_v16 => ?_))
                refine tz_last hx hb hK hT hS 0 rfl (by omega) (fun _ _ => trivial) dX7_invert_48 (fun H locs hT hS => ?_)
                obtain ⟨v17, e_v17⟩ : ∃ x : Int32, x = y6 + Int32.ofInt 1 := ⟨_, rfl⟩
                have f_v17 := e_v17.symm
                have e_v17 : v17.toInt = 0 + 1 := ai_add e_v17 hq10 (show (Int32.ofInt 1).toInt = 1 from (by decide +kernel)) (by omega)
                refine lv_iinc (v := v17) (lv' := [(7, .int v17), (0, .ref h0), (1, .int x1), (2, .ref h1), (3, .int x3), (4, .long r2), (6, .int y3)]) hx hb dX7_invert_49 hl (k := 6) rfl f_v17 (by decide) rfl (fun ls hl => ?_)
                refine lv_goto (tgt := 21) hx hb dX7_invert_52 (by decide) ?_
                exact ih21_7 v17 _ _ _ (by omega)  (by omega) hT hS (lv_sub hl [1, 2, 3, 4, 5, 6, 0] rfl)
          exact lp21_7 ((x3.toInt + (-1) * (0 : Int32).toInt + 1).toNat + 1) (0) _ _ _ (by have := li_0; omega)  (Nat.lt_succ_self _) hT hS (lv_sub hl [1, 2, 3, 4, 5, 6, 0] rfl)
    exact lp12_4 ((x3.toInt + (-1) * (0 : Int32).toInt + 1).toNat + 1) (0) _ _ _ (by have := li_0; omega)  (Nat.lt_succ_self _) hT hS (lv_sub hl [2, 3, 4, 5, 1, 0] rfl)
  · skip
    refine lv_aload_n hx hb dX7_invert_0 rfl (lv_at hl 0 rfl) ?_
    refine lv_iload_n hx hb dX7_invert_1 rfl (lv_at hl 1 rfl) ?_
    refine lv_iload_n hx hb dX7_invert_2 rfl (lv_at hl 3 rfl) ?_
    refine lv_iload_n hx hb dX7_invert_3 rfl (lv_at hl 3 rfl) ?_
    refine tcL (Tc := [(h0, aJ (k 1) 36 anJ)]) (Tr := [(h1, aJ (k 1) 9 anJ)]) (as := [h0]) (zcS (As := [.ref h0, .int x1, .int x3, .int x3]) (rest := []) (Tc := [(h0, aJ (k 1) 36 anJ)]) hx hb hml hown hU hK hT [0] rfl (by decide) (cX7_determinant_05929 l D k _ h0 x1 x3 x3 (by omega) (by omega) (by omega)) w372 w370 w371 w74 hdX7_determinant ⟨rfl, rfl⟩ ⟨Nat.le_of_ble_eq_true rfl, Nat.le_of_ble_eq_true rfl⟩ rfl hl.1 (Nat.le_of_ble_eq_true rfl) dX7_invert_4 ⟨Nat.le_of_ble_eq_true rfl, Nat.le_of_ble_eq_true rfl⟩) hT hS hA [0] [1] rfl rfl rfl (by decide) (by decide) (fun r18 H locs hB J hS => ?_)
    have hT1 := hB
    have hT := J _ hT1
    have hT : TP D A [(h1, aJ (k 1) 9 anJ), (h0, aJ (k 1) 36 anJ)] _ := hT
    refine lv_lstore (lv' := [(4, .long r18), (0, .ref h0), (1, .int x1), (2, .ref h1), (3, .int x3)]) hx hb dX7_invert_7 hl (by decide) rfl (fun ls hl => ?_)
    refine lv_iconst (v := 0) hx hb dX7_invert_9 (by decide) ?_
    refine lv_istore (lv' := [(6, .int 0), (4, .long r18), (0, .ref h0), (1, .int x1), (2, .ref h1), (3, .int x3)]) hx hb dX7_invert_10 hl (by decide) rfl (fun ls hl => ?_)
    have lp12_21 : ∀ (n : Nat) (y20 : Int32) (H : Heap) (locs : List Loc) (ls : Array Slot), (0 ≤ y20.toInt ∧ y20.toInt ≤ 2) → (x3.toInt + (-1) * y20.toInt + 1).toNat < n → TP D A [(h1, aJ (k 1) 9 anJ), (h0, aJ (k 1) 36 anJ)] H → va_S A s.heap H locs → lv_has ls 8 [(0, .ref h0), (1, .int x1), (2, .ref h1), (3, .int x3), (4, .long r18), (6, .int y20)] → W p l e Rm_cX7_invert_5336c s m args below meth c H locs 0 0 Q (F0 m 12 ls []) := by
      intro n
      induction n with
      | zero => intro y20 H locs ls b_y20 hm hT hS hl; exact absurd hm (Nat.not_lt_zero _)
      | succ n ih =>
        intro y20 H locs ls b_y20 hm hT hS hl
        have ih12_21 := ih
        clear ih
        refine lv_iload hx hb dX7_invert_12 (lv_at hl 5 rfl) ?_
        refine lv_iload_n hx hb dX7_invert_14 rfl (lv_at hl 3 rfl) ?_
        refine lv_icmp_ge (tgt := 61) hx hb dX7_invert_15 (by decide) (fun c_22 => ?_) (fun c_22 => ?_)
        · skip
          have c_22 := ni_le c_22 hq1 rfl
          exact tz_retV (B := B_cX7_invert_5336c D k h0 h1 x1 x3) hQ hx hb hr hlocks hS (Nat.le_of_ble_eq_true rfl) (Nat.le_of_ble_eq_true rfl) dX7_invert_61 ((hT.sub [1, 0] (by decide) rfl))
        · skip
          have c_22 := ni_nle c_22 hq1 rfl
          refine lv_iconst (v := 0) hx hb dX7_invert_18 (by decide) ?_
          refine lv_istore (lv' := [(7, .int 0), (0, .ref h0), (1, .int x1), (2, .ref h1), (3, .int x3), (4, .long r18), (6, .int y20)]) hx hb dX7_invert_19 hl (by decide) rfl (fun ls hl => ?_)
          have lp21_25 : ∀ (n : Nat) (y24 : Int32) (H : Heap) (locs : List Loc) (ls : Array Slot), (0 ≤ y24.toInt ∧ y24.toInt ≤ 2) → (x3.toInt + (-1) * y24.toInt + 1).toNat < n → TP D A [(h1, aJ (k 1) 9 anJ), (h0, aJ (k 1) 36 anJ)] H → va_S A s.heap H locs → lv_has ls 8 [(0, .ref h0), (1, .int x1), (2, .ref h1), (3, .int x3), (4, .long r18), (6, .int y20), (7, .int y24)] → W p l e Rm_cX7_invert_5336c s m args below meth c H locs 0 0 Q (F0 m 21 ls []) := by
            intro n
            induction n with
            | zero => intro y24 H locs ls b_y24 hm hT hS hl; exact absurd hm (Nat.not_lt_zero _)
            | succ n ih =>
              intro y24 H locs ls b_y24 hm hT hS hl
              have ih21_25 := ih
              clear ih
              refine lv_iload hx hb dX7_invert_21 (lv_at hl 6 rfl) ?_
              refine lv_iload_n hx hb dX7_invert_23 rfl (lv_at hl 3 rfl) ?_
              refine lv_icmp_ge (tgt := 55) hx hb dX7_invert_24 (by decide) (fun c_26 => ?_) (fun c_26 => ?_)
              · skip
                have c_26 := ni_le c_26 hq1 rfl
                obtain ⟨v27, e_v27⟩ : ∃ x : Int32, x = y20 + Int32.ofInt 1 := ⟨_, rfl⟩
                have f_v27 := e_v27.symm
                have e_v27 : v27.toInt = y20.toInt + 1 := ai_add e_v27 rfl (show (Int32.ofInt 1).toInt = 1 from (by decide +kernel)) (by omega)
                refine lv_iinc (v := v27) (lv' := [(6, .int v27), (0, .ref h0), (1, .int x1), (2, .ref h1), (3, .int x3), (4, .long r18), (7, .int y24)]) hx hb dX7_invert_55 hl (k := 5) rfl f_v27 (by decide) rfl (fun ls hl => ?_)
                refine lv_goto (tgt := 12) hx hb dX7_invert_58 (by decide) ?_
                exact ih12_21 v27 _ _ _ (by omega)  (by omega) hT hS (lv_sub hl [1, 2, 3, 4, 5, 0] rfl)
              · skip
                have c_26 := ni_nle c_26 hq1 rfl
                refine lv_aload_n hx hb dX7_invert_27 rfl (lv_at hl 2 rfl) ?_
                refine lv_iload hx hb dX7_invert_28 (lv_at hl 6 rfl) ?_
                refine lv_iload_n hx hb dX7_invert_30 rfl (lv_at hl 3 rfl) ?_
                refine lv_imul hx hb dX7_invert_31 (lv_topi (fun v28 e_v28 => ?_))
                have e_v28 := ai_mul e_v28 rfl hq1 (by omega)
                refine lv_iload hx hb dX7_invert_32 (lv_at hl 5 rfl) ?_
                refine lv_iadd hx hb dX7_invert_34 (lv_topi (fun v29 e_v29 => ?_))
                have e_v29 := ai_add e_v29 rfl rfl (by omega)
                refine lv_lload hx hb dX7_invert_35 (lv_at hl 4 rfl) ?_
                refine lv_aload_n hx hb dX7_invert_37 rfl (lv_at hl 0 rfl) ?_
                refine lv_iload_n hx hb dX7_invert_38 rfl (lv_at hl 1 rfl) ?_
                refine lv_iload_n hx hb dX7_invert_39 rfl (lv_at hl 3 rfl) ?_
                refine lv_iload hx hb dX7_invert_40 (lv_at hl 5 rfl) ?_
                refine lv_iload hx hb dX7_invert_42 (lv_at hl 6 rfl) ?_
                refine tcL (Tc := [(h0, aJ (k 1) 36 anJ)]) (Tr := [(h1, aJ (k 1) 9 anJ)]) (as := [h0]) (zcS (As := [.ref h0, .int x1, .int x3, .int y20, .int y24]) (rest := [.long r18, .int v29, .ref h1]) (Tc := [(h0, aJ (k 1) 36 anJ)]) hx hb hml hown hU hK hT [1] rfl (by decide) (cX7_cofactor_c07fc l D k _ h0 x1 x3 y20 y24 (by omega) (by omega) (by omega) (by omega)) w375 w373 w374 w74 hdX7_cofactor ⟨rfl, rfl⟩ ⟨Nat.le_of_ble_eq_true rfl, Nat.le_of_ble_eq_true rfl⟩ rfl hl.1 (Nat.le_of_ble_eq_true rfl) dX7_invert_44 ⟨Nat.le_of_ble_eq_true rfl, Nat.le_of_ble_eq_true rfl⟩) hT hS hA [1] [0] rfl rfl rfl (by decide) (by decide) (fun r30 H locs hB J hS => ?_)
                have hT1 := hB
                have hT := J _ hT1
                have hT : TP D A [(h1, aJ (k 1) 9 anJ), (h0, aJ (k 1) 36 anJ)] _ := hT
                refine lv_lmul hx hb dX7_invert_47 (lv_topl (fun v31 e_v31 => ?_))
                refine tz_last hx hb hK hT hS 0 rfl (by omega) (fun _ _ => trivial) dX7_invert_48 (fun H locs hT hS => ?_)
                obtain ⟨v32, e_v32⟩ : ∃ x : Int32, x = y24 + Int32.ofInt 1 := ⟨_, rfl⟩
                have f_v32 := e_v32.symm
                have e_v32 : v32.toInt = y24.toInt + 1 := ai_add e_v32 rfl (show (Int32.ofInt 1).toInt = 1 from (by decide +kernel)) (by omega)
                refine lv_iinc (v := v32) (lv' := [(7, .int v32), (0, .ref h0), (1, .int x1), (2, .ref h1), (3, .int x3), (4, .long r18), (6, .int y20)]) hx hb dX7_invert_49 hl (k := 6) rfl f_v32 (by decide) rfl (fun ls hl => ?_)
                refine lv_goto (tgt := 21) hx hb dX7_invert_52 (by decide) ?_
                exact ih21_25 v32 _ _ _ (by omega)  (by omega) hT hS (lv_sub hl [1, 2, 3, 4, 5, 6, 0] rfl)
          exact lp21_25 ((x3.toInt + (-1) * (0 : Int32).toInt + 1).toNat + 1) (0) _ _ _ (by have := li_0; omega)  (Nat.lt_succ_self _) hT hS (lv_sub hl [1, 2, 3, 4, 5, 6, 0] rfl)
    exact lp12_21 ((x3.toInt + (-1) * (0 : Int32).toInt + 1).toNat + 1) (0) _ _ _ (by have := li_0; omega)  (Nat.lt_succ_self _) hT hS (lv_sub hl [2, 3, 4, 5, 1, 0] rfl)
  · skip
    refine lv_aload_n hx hb dX7_invert_0 rfl (lv_at hl 0 rfl) ?_
    refine lv_iload_n hx hb dX7_invert_1 rfl (lv_at hl 1 rfl) ?_
    refine lv_iload_n hx hb dX7_invert_2 rfl (lv_at hl 3 rfl) ?_
    refine lv_iload_n hx hb dX7_invert_3 rfl (lv_at hl 3 rfl) ?_
    refine tcL (Tc := [(h0, aJ (k 1) 36 anJ)]) (Tr := [(h1, aJ (k 1) 9 anJ)]) (as := [h0]) (zcS (As := [.ref h0, .int x1, .int x3, .int x3]) (rest := []) (Tc := [(h0, aJ (k 1) 36 anJ)]) hx hb hml hown hU hK hT [0] rfl (by decide) (cX7_determinant_05929 l D k _ h0 x1 x3 x3 (by omega) (by omega) (by omega)) w372 w370 w371 w74 hdX7_determinant ⟨rfl, rfl⟩ ⟨Nat.le_of_ble_eq_true rfl, Nat.le_of_ble_eq_true rfl⟩ rfl hl.1 (Nat.le_of_ble_eq_true rfl) dX7_invert_4 ⟨Nat.le_of_ble_eq_true rfl, Nat.le_of_ble_eq_true rfl⟩) hT hS hA [0] [1] rfl rfl rfl (by decide) (by decide) (fun r33 H locs hB J hS => ?_)
    have hT1 := hB
    have hT := J _ hT1
    have hT : TP D A [(h1, aJ (k 1) 9 anJ), (h0, aJ (k 1) 36 anJ)] _ := hT
    refine lv_lstore (lv' := [(4, .long r33), (0, .ref h0), (1, .int x1), (2, .ref h1), (3, .int x3)]) hx hb dX7_invert_7 hl (by decide) rfl (fun ls hl => ?_)
    refine lv_iconst (v := 0) hx hb dX7_invert_9 (by decide) ?_
    refine lv_istore (lv' := [(6, .int 0), (4, .long r33), (0, .ref h0), (1, .int x1), (2, .ref h1), (3, .int x3)]) hx hb dX7_invert_10 hl (by decide) rfl (fun ls hl => ?_)
    have lp12_37 : ∀ (n : Nat) (y36 : Int32) (H : Heap) (locs : List Loc) (ls : Array Slot), (0 ≤ y36.toInt ∧ y36.toInt ≤ 3) → (x3.toInt + (-1) * y36.toInt + 1).toNat < n → TP D A [(h1, aJ (k 1) 9 anJ), (h0, aJ (k 1) 36 anJ)] H → va_S A s.heap H locs → lv_has ls 8 [(0, .ref h0), (1, .int x1), (2, .ref h1), (3, .int x3), (4, .long r33), (6, .int y36)] → W p l e Rm_cX7_invert_5336c s m args below meth c H locs 0 0 Q (F0 m 12 ls []) := by
      intro n
      induction n with
      | zero => intro y36 H locs ls b_y36 hm hT hS hl; exact absurd hm (Nat.not_lt_zero _)
      | succ n ih =>
        intro y36 H locs ls b_y36 hm hT hS hl
        have ih12_37 := ih
        clear ih
        refine lv_iload hx hb dX7_invert_12 (lv_at hl 5 rfl) ?_
        refine lv_iload_n hx hb dX7_invert_14 rfl (lv_at hl 3 rfl) ?_
        refine lv_icmp_ge (tgt := 61) hx hb dX7_invert_15 (by decide) (fun c_38 => ?_) (fun c_38 => ?_)
        · skip
          have c_38 := ni_le c_38 hq1 rfl
          exact tz_retV (B := B_cX7_invert_5336c D k h0 h1 x1 x3) hQ hx hb hr hlocks hS (Nat.le_of_ble_eq_true rfl) (Nat.le_of_ble_eq_true rfl) dX7_invert_61 ((hT.sub [1, 0] (by decide) rfl))
        · skip
          have c_38 := ni_nle c_38 hq1 rfl
          refine lv_iconst (v := 0) hx hb dX7_invert_18 (by decide) ?_
          refine lv_istore (lv' := [(7, .int 0), (0, .ref h0), (1, .int x1), (2, .ref h1), (3, .int x3), (4, .long r33), (6, .int y36)]) hx hb dX7_invert_19 hl (by decide) rfl (fun ls hl => ?_)
          have lp21_42 : ∀ (n : Nat) (y41 : Int32) (H : Heap) (locs : List Loc) (ls : Array Slot), (0 ≤ y41.toInt ∧ y41.toInt ≤ 3) → (x3.toInt + (-1) * y41.toInt + 1).toNat < n → TP D A [(h1, aJ (k 1) 9 anJ), (h0, aJ (k 1) 36 anJ)] H → va_S A s.heap H locs → lv_has ls 8 [(0, .ref h0), (1, .int x1), (2, .ref h1), (3, .int x3), (4, .long r33), (6, .int y36), (7, .int y41)] → W p l e Rm_cX7_invert_5336c s m args below meth c H locs 0 0 Q (F0 m 21 ls []) := by
            intro n
            induction n with
            | zero => intro y41 H locs ls b_y41 hm hT hS hl; exact absurd hm (Nat.not_lt_zero _)
            | succ n ih =>
              intro y41 H locs ls b_y41 hm hT hS hl
              have ih21_42 := ih
              clear ih
              refine lv_iload hx hb dX7_invert_21 (lv_at hl 6 rfl) ?_
              refine lv_iload_n hx hb dX7_invert_23 rfl (lv_at hl 3 rfl) ?_
              refine lv_icmp_ge (tgt := 55) hx hb dX7_invert_24 (by decide) (fun c_43 => ?_) (fun c_43 => ?_)
              · skip
                have c_43 := ni_le c_43 hq1 rfl
                obtain ⟨v44, e_v44⟩ : ∃ x : Int32, x = y36 + Int32.ofInt 1 := ⟨_, rfl⟩
                have f_v44 := e_v44.symm
                have e_v44 : v44.toInt = y36.toInt + 1 := ai_add e_v44 rfl (show (Int32.ofInt 1).toInt = 1 from (by decide +kernel)) (by omega)
                refine lv_iinc (v := v44) (lv' := [(6, .int v44), (0, .ref h0), (1, .int x1), (2, .ref h1), (3, .int x3), (4, .long r33), (7, .int y41)]) hx hb dX7_invert_55 hl (k := 5) rfl f_v44 (by decide) rfl (fun ls hl => ?_)
                refine lv_goto (tgt := 12) hx hb dX7_invert_58 (by decide) ?_
                exact ih12_37 v44 _ _ _ (by omega)  (by omega) hT hS (lv_sub hl [1, 2, 3, 4, 5, 0] rfl)
              · skip
                have c_43 := ni_nle c_43 hq1 rfl
                refine lv_aload_n hx hb dX7_invert_27 rfl (lv_at hl 2 rfl) ?_
                refine lv_iload hx hb dX7_invert_28 (lv_at hl 6 rfl) ?_
                refine lv_iload_n hx hb dX7_invert_30 rfl (lv_at hl 3 rfl) ?_
                refine lv_imul hx hb dX7_invert_31 (lv_topi (fun v45 e_v45 => ?_))
                have e_v45 := ai_mul e_v45 rfl hq1 (by omega)
                refine lv_iload hx hb dX7_invert_32 (lv_at hl 5 rfl) ?_
                refine lv_iadd hx hb dX7_invert_34 (lv_topi (fun v46 e_v46 => ?_))
                have e_v46 := ai_add e_v46 rfl rfl (by omega)
                refine lv_lload hx hb dX7_invert_35 (lv_at hl 4 rfl) ?_
                refine lv_aload_n hx hb dX7_invert_37 rfl (lv_at hl 0 rfl) ?_
                refine lv_iload_n hx hb dX7_invert_38 rfl (lv_at hl 1 rfl) ?_
                refine lv_iload_n hx hb dX7_invert_39 rfl (lv_at hl 3 rfl) ?_
                refine lv_iload hx hb dX7_invert_40 (lv_at hl 5 rfl) ?_
                refine lv_iload hx hb dX7_invert_42 (lv_at hl 6 rfl) ?_
                refine tcL (Tc := [(h0, aJ (k 1) 36 anJ)]) (Tr := [(h1, aJ (k 1) 9 anJ)]) (as := [h0]) (zcS (As := [.ref h0, .int x1, .int x3, .int y36, .int y41]) (rest := [.long r33, .int v46, .ref h1]) (Tc := [(h0, aJ (k 1) 36 anJ)]) hx hb hml hown hU hK hT [1] rfl (by decide) (cX7_cofactor_10201 l D k _ h0 x1 x3 y36 y41 (by omega) (by omega) (by omega) (by omega)) w375 w373 w374 w74 hdX7_cofactor ⟨rfl, rfl⟩ ⟨Nat.le_of_ble_eq_true rfl, Nat.le_of_ble_eq_true rfl⟩ rfl hl.1 (Nat.le_of_ble_eq_true rfl) dX7_invert_44 ⟨Nat.le_of_ble_eq_true rfl, Nat.le_of_ble_eq_true rfl⟩) hT hS hA [1] [0] rfl rfl rfl (by decide) (by decide) (fun r47 H locs hB J hS => ?_)
                have hT1 := hB
                have hT := J _ hT1
                have hT : TP D A [(h1, aJ (k 1) 9 anJ), (h0, aJ (k 1) 36 anJ)] _ := hT
                refine lv_lmul hx hb dX7_invert_47 (lv_topl (fun v48 e_v48 => ?_))
                refine tz_last hx hb hK hT hS 0 rfl (by omega) (fun _ _ => trivial) dX7_invert_48 (fun H locs hT hS => ?_)
                obtain ⟨v49, e_v49⟩ : ∃ x : Int32, x = y41 + Int32.ofInt 1 := ⟨_, rfl⟩
                have f_v49 := e_v49.symm
                have e_v49 : v49.toInt = y41.toInt + 1 := ai_add e_v49 rfl (show (Int32.ofInt 1).toInt = 1 from (by decide +kernel)) (by omega)
                refine lv_iinc (v := v49) (lv' := [(7, .int v49), (0, .ref h0), (1, .int x1), (2, .ref h1), (3, .int x3), (4, .long r33), (6, .int y36)]) hx hb dX7_invert_49 hl (k := 6) rfl f_v49 (by decide) rfl (fun ls hl => ?_)
                refine lv_goto (tgt := 21) hx hb dX7_invert_52 (by decide) ?_
                exact ih21_42 v49 _ _ _ (by omega)  (by omega) hT hS (lv_sub hl [1, 2, 3, 4, 5, 6, 0] rfl)
          exact lp21_42 ((x3.toInt + (-1) * (0 : Int32).toInt + 1).toNat + 1) (0) _ _ _ (by have := li_0; omega)  (Nat.lt_succ_self _) hT hS (lv_sub hl [1, 2, 3, 4, 5, 6, 0] rfl)
    exact lp12_37 ((x3.toInt + (-1) * (0 : Int32).toInt + 1).toNat + 1) (0) _ _ _ (by have := li_0; omega)  (Nat.lt_succ_self _) hT hS (lv_sub hl [2, 3, 4, 5, 1, 0] rfl)
abbrev Rm_cX10_makeOf_303fc : Room := { frames := 3, cells := 0, slots := 0, locals := 81 }
abbrev B_cX10_makeOf_303fc (D : va_G) (k : Nat → ClassId) (h0 h1 h11 h13 h2 h3 h4 h5 h6 h7 h8 h9 h10 h12 : Nat) (x1 : Int32) (x2 : Int32) (x3 : Int32) (h0f2 : Int32) (h0f6 : Int32) (h0f8 : Int32) (h0f11 : Int32) (h1f0 : Int32) (h1f1 : Int32) (h1f2 : Int32) (A : Nat → Prop) (H : Heap) : Prop := TP D A [(h0, ob 7 [.ref h1, .ref h2, .int h0f2, .ref h3, .ref h4, .ref h5, .int h0f6, .ref h6, .int h0f8, .null, .ref h7, .int h0f11, .ref h8, .ref h9, .ref h10, .ref h11, .ref h12]), (h1, ob 4 [.int h1f0, .int h1f1, .int h1f2, .ref h13]), (h11, aJ (k 1) 9 anJ), (h13, aJ (k 1) 36 anJ)] H
set_option maxHeartbeats 4000000 in
set_option maxRecDepth 100000 in
theorem cX10_makeOf_303fc (l : Launch) (D : va_G) (k : Nat → ClassId) (sz : Nat) (h0 h1 h11 h13 h2 h3 h4 h5 h6 h7 h8 h9 h10 h12 : Nat) (x1 : Int32) (x2 : Int32) (x3 : Int32) (h0f2 : Int32) (h0f6 : Int32) (h0f8 : Int32) (h0f11 : Int32) (h1f0 : Int32) (h1f1 : Int32) (h1f2 : Int32) (b_x1 : 1 ≤ x1.toInt ∧ x1.toInt ≤ 3) (b_x2 : 0 ≤ x2.toInt ∧ x2.toInt ≤ 2) (b_h0f2 : 0 ≤ h0f2.toInt ∧ h0f2.toInt ≤ 1) (b_h0f6 : 0 ≤ h0f6.toInt ∧ h0f6.toInt ≤ 1) (b_h0f8 : 0 ≤ h0f8.toInt ∧ h0f8.toInt ≤ 1) (b_h0f11 : 0 ≤ h0f11.toInt ∧ h0f11.toInt ≤ 200) (b_h1f0 : 1 ≤ h1f0.toInt ∧ h1f0.toInt ≤ 3) (b_h1f1 : 1 ≤ h1f1.toInt ∧ h1f1.toInt ≤ 3) : Met l yX10_makeOf (Cond.code yX10_makeOf cX10_makeOf 5 none :: uw) Rm_cX10_makeOf_303fc (pT D k sz [.ref h0, .int x1, .int x2, .int x3] [(h0, ob 7 [.ref h1, .ref h2, .int h0f2, .ref h3, .ref h4, .ref h5, .int h0f6, .ref h6, .int h0f8, .null, .ref h7, .int h0f11, .ref h8, .ref h9, .ref h10, .ref h11, .ref h12]), (h1, ob 4 [.int h1f0, .int h1f1, .int h1f2, .ref h13]), (h11, aJ (k 1) 9 anJ), (h13, aJ (k 1) 36 anJ)]) (qV (B_cX10_makeOf_303fc D k h0 h1 h11 h13 h2 h3 h4 h5 h6 h7 h8 h9 h10 h12 x1 x2 x3 h0f2 h0f6 h0f8 h0f11 h1f0 h1f1 h1f2 (zA [h0, h1, h11, h13] sz)) (zA [h0, h1, h11, h13] sz)) 0 0 (zA [h0, h1, h11, h13] sz) := by
  refine tz_begin (as := [h0, h1, h11, h13]) (Qc := fun A => qV (B_cX10_makeOf_303fc D k h0 h1 h11 h13 h2 h3 h4 h5 h6 h7 h8 h9 h10 h12 x1 x2 x3 h0f2 h0f6 h0f8 h0f11 h1f0 h1f1 h1f2 A) A) (by decide +kernel) rfl (Nat.le_of_ble_eq_true rfl) ?_
  intro p e s m args below meth c ls A Q hx hb hr hml hown hlocks hin hU hK hT hS hA hl hQ
  have hl : lv_has ls 5 [(0, .ref h0), (1, .int x1), (2, .int x2), (3, .int x3)] := hl
  have hT : TP D A [(h0, ob 7 [.ref h1, .ref h2, .int h0f2, .ref h3, .ref h4, .ref h5, .int h0f6, .ref h6, .int h0f8, .null, .ref h7, .int h0f11, .ref h8, .ref h9, .ref h10, .ref h11, .ref h12]), (h1, ob 4 [.int h1f0, .int h1f1, .int h1f2, .ref h13]), (h11, aJ (k 1) 9 anJ), (h13, aJ (k 1) 36 anJ)] s.heap := hT
  refine lv_iload_n hx hb dX10_makeOf_0 rfl (lv_at hl 2 rfl) ?_
  refine lv_bipush (v := 9) hx hb dX10_makeOf_1 (by decide) ?_
  refine lv_imul hx hb dX10_makeOf_3 (lv_topi (fun v1 e_v1 => ?_))
  have e_v1 := ai_mul e_v1 rfl li_9 (by omega)
  refine lv_istore (lv' := [(4, .int v1), (0, .ref h0), (1, .int x1), (2, .int x2), (3, .int x3)]) hx hb dX10_makeOf_4 hl (by decide) rfl (fun ls hl => ?_)
  refine lv_iload_n hx hb dX10_makeOf_6 rfl (lv_at hl 2 rfl) ?_
  refine lv_if_ne (tgt := 47) hx hb dX10_makeOf_7 (by decide) (fun c_2 => ?_) (fun c_2 => ?_)
  · skip
    have c_2 := ni_ne c_2 rfl li_0
    refine lv_iload_n hx hb dX10_makeOf_47 rfl (lv_at hl 2 rfl) ?_
    refine lv_iconst (v := 1) hx hb dX10_makeOf_48 (by decide) ?_
    refine lv_icmp_ne (tgt := 78) hx hb dX10_makeOf_49 (by decide) (fun c_3 => ?_) (fun c_3 => ?_)
    · skip
      have c_3 := ni_ne c_3 rfl li_1
      refine lv_iload_n hx hb dX10_makeOf_78 rfl (lv_at hl 2 rfl) ?_
      refine lv_iconst (v := 2) hx hb dX10_makeOf_79 (by decide) ?_
      refine lv_icmp_ne (tgt := 109) hx hb dX10_makeOf_80 (by decide) (fun c_4 => ?_) (fun c_4 => ?_)
      · skip
        have c_4 := ni_ne c_4 rfl li_2
        refine lv_aload_n hx hb dX10_makeOf_109 rfl (lv_at hl 1 rfl) ?_
        refine tz_get (ci := 7) (v := .ref h1) (C := RX10) (F := TX10) (N := 17) hx hb hU iX10 hown hK hT 0 rfl rfl 0 (by decide) w249 (fun _ h9 => h9) rfl dX10_makeOf_110 ?_
        refine tz_get (ci := 4) (v := .ref h13) (C := RX5) (F := TX5) (N := 4) hx hb hU iX5 hown hK hT 1 rfl rfl 3 (by decide) w103 (fun _ h9 => h9) rfl dX10_makeOf_113 ?_
        refine lv_iload hx hb dX10_makeOf_116 (lv_at hl 0 rfl) ?_
        refine lv_aload_n hx hb dX10_makeOf_118 rfl (lv_at hl 1 rfl) ?_
        refine tz_get (ci := 7) (v := .ref h11) (C := RX10) (F := TX10) (N := 17) hx hb hU iX10 hown hK hT 0 rfl rfl 15 (by decide) w264 (fun _ h9 => h9) rfl dX10_makeOf_119 ?_
        refine lv_aload_n hx hb dX10_makeOf_122 rfl (lv_at hl 1 rfl) ?_
        refine tz_get (ci := 7) (v := .ref h1) (C := RX10) (F := TX10) (N := 17) hx hb hU iX10 hown hK hT 0 rfl rfl 0 (by decide) w249 (fun _ h9 => h9) rfl dX10_makeOf_123 ?_
        refine tz_get (ci := 4) (v := .int h1f0) (C := RX5) (F := TX5) (N := 4) hx hb hU iX5 hown hK hT 1 rfl rfl 0 (by decide) w93 (fun _ h9 => h9) rfl dX10_makeOf_126 ?_
        refine tcV (Tc := [(h13, aJ (k 1) 36 anJ), (h11, aJ (k 1) 9 anJ)]) (Tr := [(h0, ob 7 [.ref h1, .ref h2, .int h0f2, .ref h3, .ref h4, .ref h5, .int h0f6, .ref h6, .int h0f8, .null, .ref h7, .int h0f11, .ref h8, .ref h9, .ref h10, .ref h11, .ref h12]), (h1, ob 4 [.int h1f0, .int h1f1, .int h1f2, .ref h13])]) (as := [h13, h11]) (zcS (As := [.ref h13, .int v1, .ref h11, .int h1f0]) (rest := []) (Tc := [(h13, aJ (k 1) 36 anJ), (h11, aJ (k 1) 9 anJ)]) hx hb hml hown hU hK hT [3, 2] rfl (by decide) (cX7_negate_f53fc l D k _ h13 h11 v1 h1f0 (by omega) (by omega)) w381 w379 w380 w74 hdX7_negate ⟨rfl, rfl⟩ ⟨Nat.le_of_ble_eq_true rfl, Nat.le_of_ble_eq_true rfl⟩ rfl hl.1 (Nat.le_of_ble_eq_true rfl) dX10_makeOf_129 ⟨Nat.le_of_ble_eq_true rfl, Nat.le_of_ble_eq_true rfl⟩) hT hS hA [3, 2] [0, 1] rfl rfl rfl (by decide) (by decide) (fun H locs hB J hS => ?_)
        have hT1 := hB
        have hT := J _ hT1
        have hT : TP D A [(h0, ob 7 [.ref h1, .ref h2, .int h0f2, .ref h3, .ref h4, .ref h5, .int h0f6, .ref h6, .int h0f8, .null, .ref h7, .int h0f11, .ref h8, .ref h9, .ref h10, .ref h11, .ref h12]), (h1, ob 4 [.int h1f0, .int h1f1, .int h1f2, .ref h13]), (h13, aJ (k 1) 36 anJ), (h11, aJ (k 1) 9 anJ)] _ := hT
        exact tz_retV (B := B_cX10_makeOf_303fc D k h0 h1 h11 h13 h2 h3 h4 h5 h6 h7 h8 h9 h10 h12 x1 x2 x3 h0f2 h0f6 h0f8 h0f11 h1f0 h1f1 h1f2) hQ hx hb hr hlocks hS (Nat.le_of_ble_eq_true rfl) (Nat.le_of_ble_eq_true rfl) dX10_makeOf_132 ((hT.sub [0, 1, 3, 2] (by decide) rfl))
      · skip
        have c_4 := ni_eq c_4 rfl li_2
        refine lv_aload_n hx hb dX10_makeOf_83 rfl (lv_at hl 1 rfl) ?_
        refine tz_get (ci := 7) (v := .ref h1) (C := RX10) (F := TX10) (N := 17) hx hb hU iX10 hown hK hT 0 rfl rfl 0 (by decide) w249 (fun _ h9 => h9) rfl dX10_makeOf_84 ?_
        refine tz_get (ci := 4) (v := .ref h13) (C := RX5) (F := TX5) (N := 4) hx hb hU iX5 hown hK hT 1 rfl rfl 3 (by decide) w103 (fun _ h9 => h9) rfl dX10_makeOf_87 ?_
        refine lv_iload hx hb dX10_makeOf_90 (lv_at hl 0 rfl) ?_
        refine lv_aload_n hx hb dX10_makeOf_92 rfl (lv_at hl 1 rfl) ?_
        refine tz_get (ci := 7) (v := .ref h11) (C := RX10) (F := TX10) (N := 17) hx hb hU iX10 hown hK hT 0 rfl rfl 15 (by decide) w264 (fun _ h9 => h9) rfl dX10_makeOf_93 ?_
        refine lv_aload_n hx hb dX10_makeOf_96 rfl (lv_at hl 1 rfl) ?_
        refine tz_get (ci := 7) (v := .ref h1) (C := RX10) (F := TX10) (N := 17) hx hb hU iX10 hown hK hT 0 rfl rfl 0 (by decide) w249 (fun _ h9 => h9) rfl dX10_makeOf_97 ?_
        refine tz_get (ci := 4) (v := .int h1f0) (C := RX5) (F := TX5) (N := 4) hx hb hU iX5 hown hK hT 1 rfl rfl 0 (by decide) w93 (fun _ h9 => h9) rfl dX10_makeOf_100 ?_
        refine tcV (Tc := [(h13, aJ (k 1) 36 anJ), (h11, aJ (k 1) 9 anJ)]) (Tr := [(h0, ob 7 [.ref h1, .ref h2, .int h0f2, .ref h3, .ref h4, .ref h5, .int h0f6, .ref h6, .int h0f8, .null, .ref h7, .int h0f11, .ref h8, .ref h9, .ref h10, .ref h11, .ref h12]), (h1, ob 4 [.int h1f0, .int h1f1, .int h1f2, .ref h13])]) (as := [h13, h11]) (zcS (As := [.ref h13, .int v1, .ref h11, .int h1f0]) (rest := []) (Tc := [(h13, aJ (k 1) 36 anJ), (h11, aJ (k 1) 9 anJ)]) hx hb hml hown hU hK hT [3, 2] rfl (by decide) (cX7_turn_1605a l D k _ h13 h11 v1 h1f0 (by omega) (by omega)) w378 w376 w377 w74 hdX7_turn ⟨rfl, rfl⟩ ⟨Nat.le_of_ble_eq_true rfl, Nat.le_of_ble_eq_true rfl⟩ rfl hl.1 (Nat.le_of_ble_eq_true rfl) dX10_makeOf_103 ⟨Nat.le_of_ble_eq_true rfl, Nat.le_of_ble_eq_true rfl⟩) hT hS hA [3, 2] [0, 1] rfl rfl rfl (by decide) (by decide) (fun H locs hB J hS => ?_)
        have hT1 := hB
        have hT := J _ hT1
        have hT : TP D A [(h0, ob 7 [.ref h1, .ref h2, .int h0f2, .ref h3, .ref h4, .ref h5, .int h0f6, .ref h6, .int h0f8, .null, .ref h7, .int h0f11, .ref h8, .ref h9, .ref h10, .ref h11, .ref h12]), (h1, ob 4 [.int h1f0, .int h1f1, .int h1f2, .ref h13]), (h13, aJ (k 1) 36 anJ), (h11, aJ (k 1) 9 anJ)] _ := hT
        refine lv_goto (tgt := 132) hx hb dX10_makeOf_106 (by decide) ?_
        exact tz_retV (B := B_cX10_makeOf_303fc D k h0 h1 h11 h13 h2 h3 h4 h5 h6 h7 h8 h9 h10 h12 x1 x2 x3 h0f2 h0f6 h0f8 h0f11 h1f0 h1f1 h1f2) hQ hx hb hr hlocks hS (Nat.le_of_ble_eq_true rfl) (Nat.le_of_ble_eq_true rfl) dX10_makeOf_132 ((hT.sub [0, 1, 3, 2] (by decide) rfl))
    · skip
      have c_3 := ni_eq c_3 rfl li_1
      refine lv_aload_n hx hb dX10_makeOf_52 rfl (lv_at hl 1 rfl) ?_
      refine tz_get (ci := 7) (v := .ref h1) (C := RX10) (F := TX10) (N := 17) hx hb hU iX10 hown hK hT 0 rfl rfl 0 (by decide) w249 (fun _ h9 => h9) rfl dX10_makeOf_53 ?_
      refine tz_get (ci := 4) (v := .ref h13) (C := RX5) (F := TX5) (N := 4) hx hb hU iX5 hown hK hT 1 rfl rfl 3 (by decide) w103 (fun _ h9 => h9) rfl dX10_makeOf_56 ?_
      refine lv_iload hx hb dX10_makeOf_59 (lv_at hl 0 rfl) ?_
      refine lv_aload_n hx hb dX10_makeOf_61 rfl (lv_at hl 1 rfl) ?_
      refine tz_get (ci := 7) (v := .ref h11) (C := RX10) (F := TX10) (N := 17) hx hb hU iX10 hown hK hT 0 rfl rfl 15 (by decide) w264 (fun _ h9 => h9) rfl dX10_makeOf_62 ?_
      refine lv_aload_n hx hb dX10_makeOf_65 rfl (lv_at hl 1 rfl) ?_
      refine tz_get (ci := 7) (v := .ref h1) (C := RX10) (F := TX10) (N := 17) hx hb hU iX10 hown hK hT 0 rfl rfl 0 (by decide) w249 (fun _ h9 => h9) rfl dX10_makeOf_66 ?_
      refine tz_get (ci := 4) (v := .int h1f0) (C := RX5) (F := TX5) (N := 4) hx hb hU iX5 hown hK hT 1 rfl rfl 0 (by decide) w93 (fun _ h9 => h9) rfl dX10_makeOf_69 ?_
      refine tcV (Tc := [(h13, aJ (k 1) 36 anJ), (h11, aJ (k 1) 9 anJ)]) (Tr := [(h0, ob 7 [.ref h1, .ref h2, .int h0f2, .ref h3, .ref h4, .ref h5, .int h0f6, .ref h6, .int h0f8, .null, .ref h7, .int h0f11, .ref h8, .ref h9, .ref h10, .ref h11, .ref h12]), (h1, ob 4 [.int h1f0, .int h1f1, .int h1f2, .ref h13])]) (as := [h13, h11]) (zcS (As := [.ref h13, .int v1, .ref h11, .int h1f0]) (rest := []) (Tc := [(h13, aJ (k 1) 36 anJ), (h11, aJ (k 1) 9 anJ)]) hx hb hml hown hU hK hT [3, 2] rfl (by decide) (cX7_invert_5336c l D k _ h13 h11 v1 h1f0 (by omega) (by omega)) w369 w367 w368 w74 hdX7_invert ⟨rfl, rfl⟩ ⟨Nat.le_of_ble_eq_true rfl, Nat.le_of_ble_eq_true rfl⟩ rfl hl.1 (Nat.le_of_ble_eq_true rfl) dX10_makeOf_72 ⟨Nat.le_of_ble_eq_true rfl, Nat.le_of_ble_eq_true rfl⟩) hT hS hA [3, 2] [0, 1] rfl rfl rfl (by decide) (by decide) (fun H locs hB J hS => ?_)
      have hT1 := hB
      have hT := J _ hT1
      have hT : TP D A [(h0, ob 7 [.ref h1, .ref h2, .int h0f2, .ref h3, .ref h4, .ref h5, .int h0f6, .ref h6, .int h0f8, .null, .ref h7, .int h0f11, .ref h8, .ref h9, .ref h10, .ref h11, .ref h12]), (h1, ob 4 [.int h1f0, .int h1f1, .int h1f2, .ref h13]), (h13, aJ (k 1) 36 anJ), (h11, aJ (k 1) 9 anJ)] _ := hT
      refine lv_goto (tgt := 132) hx hb dX10_makeOf_75 (by decide) ?_
      exact tz_retV (B := B_cX10_makeOf_303fc D k h0 h1 h11 h13 h2 h3 h4 h5 h6 h7 h8 h9 h10 h12 x1 x2 x3 h0f2 h0f6 h0f8 h0f11 h1f0 h1f1 h1f2) hQ hx hb hr hlocks hS (Nat.le_of_ble_eq_true rfl) (Nat.le_of_ble_eq_true rfl) dX10_makeOf_132 ((hT.sub [0, 1, 3, 2] (by decide) rfl))
  · skip
    have c_2 := ni_eq c_2 rfl li_0
    exfalso; omega
abbrev Rm_cX5_cellCount_642c9 : Room := { frames := 0, cells := 0, slots := 0, locals := 0 }
abbrev B_cX5_cellCount_642c9 (D : va_G) (k : Nat → ClassId) (h0 h1 : Nat) (h0f0 : Int32) (h0f1 : Int32) (h0f2 : Int32) (A : Nat → Prop) (r : Int32) (H : Heap) : Prop := (1 ≤ r.toInt ∧ r.toInt ≤ 9) ∧ TP D A [(h0, ob 4 [.int h0f0, .int h0f1, .int h0f2, .ref h1])] H
set_option maxHeartbeats 4000000 in
set_option maxRecDepth 100000 in
theorem cX5_cellCount_642c9 (l : Launch) (D : va_G) (k : Nat → ClassId) (sz : Nat) (h0 h1 : Nat) (h0f0 : Int32) (h0f1 : Int32) (h0f2 : Int32) (b_h0f0 : 1 ≤ h0f0.toInt ∧ h0f0.toInt ≤ 3) (b_h0f1 : 0 ≤ h0f1.toInt ∧ h0f1.toInt ≤ 4) : Met l yX5_cellCount (Cond.code yX5_cellCount cX5_cellCount 1 (some .int) :: uw) Rm_cX5_cellCount_642c9 (pT D k sz [.ref h0] [(h0, ob 4 [.int h0f0, .int h0f1, .int h0f2, .ref h1])]) (qI (B_cX5_cellCount_642c9 D k h0 h1 h0f0 h0f1 h0f2 (zA [h0] sz)) (zA [h0] sz)) 0 0 (zA [h0] sz) := by
  refine tz_begin (as := [h0]) (Qc := fun A => qI (B_cX5_cellCount_642c9 D k h0 h1 h0f0 h0f1 h0f2 A) A) (by decide +kernel) rfl (Nat.le_of_ble_eq_true rfl) ?_
  intro p e s m args below meth c ls A Q hx hb hr hml hown hlocks hin hU hK hT hS hA hl hQ
  have hl : lv_has ls 1 [(0, .ref h0)] := hl
  have hT : TP D A [(h0, ob 4 [.int h0f0, .int h0f1, .int h0f2, .ref h1])] s.heap := hT
  refine lv_aload_n hx hb dX5_cellCount_0 rfl (lv_at hl 0 rfl) ?_
  refine tz_get (ci := 4) (v := .int h0f0) (C := RX5) (F := TX5) (N := 4) hx hb hU iX5 hown hK hT 0 rfl rfl 0 (by decide) w92 (fun _ h9 => h9) rfl dX5_cellCount_1 ?_
  refine lv_aload_n hx hb dX5_cellCount_4 rfl (lv_at hl 0 rfl) ?_
  refine tz_get (ci := 4) (v := .int h0f0) (C := RX5) (F := TX5) (N := 4) hx hb hU iX5 hown hK hT 0 rfl rfl 0 (by decide) w92 (fun _ h9 => h9) rfl dX5_cellCount_5 ?_
  refine lv_imul hx hb dX5_cellCount_8 (lv_topi (fun v1 e_v1 => ?_))
  have e_v1 := ai_mm (la := 1) (ua := 3) (lb := 1) (ub := 3) e_v1 rfl rfl (by omega) (by decide)
  exact tz_retI (B := B_cX5_cellCount_642c9 D k h0 h1 h0f0 h0f1 h0f2) (v := v1) hQ hx hb hr hlocks hS (Nat.le_of_ble_eq_true rfl) (Nat.le_of_ble_eq_true rfl) dX5_cellCount_9 (⟨(by omega), hT⟩)
abbrev Rm_cX7_isWithin_443ab : Room := { frames := 0, cells := 0, slots := 0, locals := 0 }
abbrev B_cX7_isWithin_443ab (D : va_G) (k : Nat → ClassId) (h0 : Nat) (x1 : Int32) (x2 : Int64) (A : Nat → Prop) (r : Int32) (H : Heap) : Prop := (0 ≤ r.toInt ∧ r.toInt ≤ 1) ∧ TP D A [(h0, aJ (k 1) 9 anJ)] H
set_option maxHeartbeats 4000000 in
set_option maxRecDepth 100000 in
theorem cX7_isWithin_443ab (l : Launch) (D : va_G) (k : Nat → ClassId) (sz : Nat) (h0 : Nat) (x1 : Int32) (x2 : Int64) (b_x1 : 1 ≤ x1.toInt ∧ x1.toInt ≤ 9) (b_x2 : 99 ≤ x2.toInt ∧ x2.toInt ≤ 1000000000) : Met l yX7_isWithin (Cond.code yX7_isWithin cX7_isWithin 5 (some .boolean) :: uw) Rm_cX7_isWithin_443ab (pT D k sz [.ref h0, .int x1, .long x2] [(h0, aJ (k 1) 9 anJ)]) (qI (B_cX7_isWithin_443ab D k h0 x1 x2 (zA [h0] sz)) (zA [h0] sz)) 0 0 (zA [h0] sz) := by
  refine tz_begin (as := [h0]) (Qc := fun A => qI (B_cX7_isWithin_443ab D k h0 x1 x2 A) A) (by decide +kernel) rfl (Nat.le_of_ble_eq_true rfl) ?_
  intro p e s m args below meth c ls A Q hx hb hr hml hown hlocks hin hU hK hT hS hA hl hQ
  have hl : lv_has ls 5 [(0, .ref h0), (1, .int x1), (2, .long x2)] := hl
  have hT : TP D A [(h0, aJ (k 1) 9 anJ)] s.heap := hT
  refine lv_iconst (v := 0) hx hb dX7_isWithin_0 (by decide) ?_
  refine lv_istore (lv' := [(4, .int 0), (0, .ref h0), (1, .int x1), (2, .long x2)]) hx hb dX7_isWithin_1 hl (by decide) rfl (fun ls hl => ?_)
  have lp3_8 : ∀ (n : Nat) (y7 : Int32) (H : Heap) (locs : List Loc) (ls : Array Slot), (0 ≤ y7.toInt ∧ y7.toInt ≤ 9) → (x1.toInt + (-1) * y7.toInt + 1).toNat < n → TP D A [(h0, aJ (k 1) 9 anJ)] H → va_S A s.heap H locs → lv_has ls 5 [(0, .ref h0), (1, .int x1), (2, .long x2), (4, .int y7)] → W p l e Rm_cX7_isWithin_443ab s m args below meth c H locs 0 0 Q (F0 m 3 ls []) := by
    intro n
    induction n with
    | zero => intro y7 H locs ls b_y7 hm hT hS hl; exact absurd hm (Nat.not_lt_zero _)
    | succ n ih =>
      intro y7 H locs ls b_y7 hm hT hS hl
      have ih3_8 := ih
      clear ih
      refine lv_iload hx hb dX7_isWithin_3 (lv_at hl 3 rfl) ?_
      refine lv_iload_n hx hb dX7_isWithin_5 rfl (lv_at hl 1 rfl) ?_
      refine lv_icmp_ge (tgt := 36) hx hb dX7_isWithin_6 (by decide) (fun c_9 => ?_) (fun c_9 => ?_)
      · skip
        have c_9 := ni_le c_9 rfl rfl
        refine lv_iconst (v := 1) hx hb dX7_isWithin_36 (by decide) ?_
        exact tz_retZ (B := B_cX7_isWithin_443ab D k h0 x1 x2) (v := 1) hQ hx hb hr hlocks hS (Nat.le_of_ble_eq_true rfl) (Nat.le_of_ble_eq_true rfl) dX7_isWithin_37 (by have := li_1; omega) (⟨(by have := li_1; omega), hT⟩)
      · skip
        have c_9 := ni_nle c_9 rfl rfl
        refine lv_aload_n hx hb dX7_isWithin_9 rfl (lv_at hl 0 rfl) ?_
        refine lv_iload hx hb dX7_isWithin_10 (lv_at hl 3 rfl) ?_
        refine tz_lald hx hb hK hT 0 rfl (by omega) dX7_isWithin_12 (fun v10 e_v10 => ?_)
        clear e_v10
        refine lv_lload_n hx hb dX7_isWithin_13 rfl (lv_at hl 2 rfl) ?_
        refine lv_lneg hx hb dX7_isWithin_14 (lv_topl (fun v11 e_v11 => ?_))
        have e_v11 := al_neg e_v11 rfl (by omega)
        refine W.lcmp hx hb dX7_isWithin_15 ?_
        refine lv_if_lt (tgt := 28) hx hb dX7_isWithin_16 (by decide) (fun c_12 => ?_) (fun c_12 => ?_)
        · skip
          have c_12 := nl_lt c_12 rfl rfl
          refine lv_iconst (v := 0) hx hb dX7_isWithin_28 (by decide) ?_
          exact tz_retZ (B := B_cX7_isWithin_443ab D k h0 x1 x2) (v := 0) hQ hx hb hr hlocks hS (Nat.le_of_ble_eq_true rfl) (Nat.le_of_ble_eq_true rfl) dX7_isWithin_29 (by have := li_0; omega) (⟨(by have := li_0; omega), hT⟩)
        · skip
          have c_12 := nl_nlt c_12 rfl rfl
          refine lv_aload_n hx hb dX7_isWithin_19 rfl (lv_at hl 0 rfl) ?_
          refine lv_iload hx hb dX7_isWithin_20 (lv_at hl 3 rfl) ?_
          refine tz_lald hx hb hK hT 0 rfl (by omega) dX7_isWithin_22 (fun v13 e_v13 => ?_)
          clear e_v13
          refine lv_lload_n hx hb dX7_isWithin_23 rfl (lv_at hl 2 rfl) ?_
          refine W.lcmp hx hb dX7_isWithin_24 ?_
          refine lv_if_le (tgt := 30) hx hb dX7_isWithin_25 (by decide) (fun c_14 => ?_) (fun c_14 => ?_)
          · skip
            have c_14 := nl_le c_14 rfl rfl
            obtain ⟨v15, e_v15⟩ : ∃ x : Int32, x = y7 + Int32.ofInt 1 := ⟨_, rfl⟩
            have f_v15 := e_v15.symm
            have e_v15 : v15.toInt = y7.toInt + 1 := ai_add e_v15 rfl (show (Int32.ofInt 1).toInt = 1 from (by decide +kernel)) (by omega)
            refine lv_iinc (v := v15) (lv' := [(4, .int v15), (0, .ref h0), (1, .int x1), (2, .long x2)]) hx hb dX7_isWithin_30 hl (k := 3) rfl f_v15 (by decide) rfl (fun ls hl => ?_)
            refine lv_goto (tgt := 3) hx hb dX7_isWithin_33 (by decide) ?_
            exact ih3_8 v15 _ _ _ (by omega)  (by omega) hT hS (lv_sub hl [1, 2, 3, 0] rfl)
          · skip
            have c_14 := nl_nle c_14 rfl rfl
            refine lv_iconst (v := 0) hx hb dX7_isWithin_28 (by decide) ?_
            exact tz_retZ (B := B_cX7_isWithin_443ab D k h0 x1 x2) (v := 0) hQ hx hb hr hlocks hS (Nat.le_of_ble_eq_true rfl) (Nat.le_of_ble_eq_true rfl) dX7_isWithin_29 (by have := li_0; omega) (⟨(by have := li_0; omega), hT⟩)
  exact lp3_8 ((x1.toInt + (-1) * (0 : Int32).toInt + 1).toNat + 1) (0) _ _ _ (by have := li_0; omega)  (Nat.lt_succ_self _) hT hS (lv_sub hl [1, 2, 3, 0] rfl)
abbrev Rm_cX7_addUp_3e2a8 : Room := { frames := 0, cells := 0, slots := 0, locals := 0 }
abbrev B_cX7_addUp_3e2a8 (D : va_G) (k : Nat → ClassId) (h0 : Nat) (x1 : Int32) (x4 : Int32) (x5 : Int32) (x6 : Int32) (A : Nat → Prop) (r : Int64) (H : Heap) : Prop := TP D A [(h0, aJ (k 1) 36 anJ)] H
set_option maxHeartbeats 4000000 in
set_option maxRecDepth 100000 in
theorem cX7_addUp_3e2a8 (l : Launch) (D : va_G) (k : Nat → ClassId) (sz : Nat) (h0 : Nat) (x1 : Int32) (x4 : Int32) (x5 : Int32) (x6 : Int32) (b_x1 : 0 ≤ x1.toInt ∧ x1.toInt ≤ 24) (b_x4 : 0 ≤ x4.toInt ∧ x4.toInt ≤ 20) (b_x5 : 1 ≤ x5.toInt ∧ x5.toInt ≤ 3) (b_x6 : 1 ≤ x6.toInt ∧ x6.toInt ≤ 3) : Met l yX7_addUp (Cond.code yX7_addUp cX7_addUp 10 (some .long) :: uw) Rm_cX7_addUp_3e2a8 (pT D k sz [.ref h0, .int x1, .int 1, .ref h0, .int x4, .int x5, .int x6] [(h0, aJ (k 1) 36 anJ)]) (qL (B_cX7_addUp_3e2a8 D k h0 x1 x4 x5 x6 (zA [h0] sz)) (zA [h0] sz)) 0 0 (zA [h0] sz) := by
  refine tz_begin (as := [h0]) (Qc := fun A => qL (B_cX7_addUp_3e2a8 D k h0 x1 x4 x5 x6 A) A) (by decide +kernel) rfl (Nat.le_of_ble_eq_true rfl) ?_
  intro p e s m args below meth c ls A Q hx hb hr hml hown hlocks hin hU hK hT hS hA hl hQ
  have hl : lv_has ls 10 [(0, .ref h0), (1, .int x1), (2, .int 1), (3, .ref h0), (4, .int x4), (5, .int x5), (6, .int x6)] := hl
  have hT : TP D A [(h0, aJ (k 1) 36 anJ)] s.heap := hT
  refine lv_lconst (v := 0) hx hb dX7_addUp_0 (by decide) ?_
  refine lv_lstore (lv' := [(7, .long 0), (0, .ref h0), (1, .int x1), (2, .int 1), (3, .ref h0), (4, .int x4), (5, .int x5), (6, .int x6)]) hx hb dX7_addUp_1 hl (by decide) rfl (fun ls hl => ?_)
  refine lv_iconst (v := 0) hx hb dX7_addUp_3 (by decide) ?_
  refine lv_istore (lv' := [(9, .int 0), (7, .long 0), (0, .ref h0), (1, .int x1), (2, .int 1), (3, .ref h0), (4, .int x4), (5, .int x5), (6, .int x6)]) hx hb dX7_addUp_4 hl (by decide) rfl (fun ls hl => ?_)
  have lp6_7 : ∀ (n : Nat) (y5 : Int32) (y6 : Int64) (H : Heap) (locs : List Loc) (ls : Array Slot), (0 ≤ y5.toInt ∧ y5.toInt ≤ 3) → (x6.toInt + (-1) * y5.toInt + 1).toNat < n → TP D A [(h0, aJ (k 1) 36 anJ)] H → va_S A s.heap H locs → lv_has ls 10 [(0, .ref h0), (1, .int x1), (2, .int 1), (3, .ref h0), (4, .int x4), (5, .int x5), (6, .int x6), (7, .long y6), (9, .int y5)] → W p l e Rm_cX7_addUp_3e2a8 s m args below meth c H locs 0 0 Q (F0 m 6 ls []) := by
    intro n
    induction n with
    | zero => intro y5 y6 H locs ls b_y5 hm hT hS hl; exact absurd hm (Nat.not_lt_zero _)
    | succ n ih =>
      intro y5 y6 H locs ls b_y5 hm hT hS hl
      have ih6_7 := ih
      clear ih
      refine lv_iload hx hb dX7_addUp_6 (lv_at hl 8 rfl) ?_
      refine lv_iload hx hb dX7_addUp_8 (lv_at hl 6 rfl) ?_
      refine lv_icmp_ge (tgt := 43) hx hb dX7_addUp_10 (by decide) (fun c_8 => ?_) (fun c_8 => ?_)
      · skip
        have c_8 := ni_le c_8 rfl rfl
        refine lv_lload hx hb dX7_addUp_43 (lv_at hl 7 rfl) ?_
        exact tz_retL (B := B_cX7_addUp_3e2a8 D k h0 x1 x4 x5 x6) (v := y6) hQ hx hb hr hlocks hS (Nat.le_of_ble_eq_true rfl) (Nat.le_of_ble_eq_true rfl) dX7_addUp_45 (hT)
      · skip
        have c_8 := ni_nle c_8 rfl rfl
        refine lv_lload hx hb dX7_addUp_13 (lv_at hl 7 rfl) ?_
        refine lv_aload_n hx hb dX7_addUp_15 rfl (lv_at hl 0 rfl) ?_
        refine lv_iload_n hx hb dX7_addUp_16 rfl (lv_at hl 1 rfl) ?_
        refine lv_iload hx hb dX7_addUp_17 (lv_at hl 8 rfl) ?_
        refine lv_iload_n hx hb dX7_addUp_19 rfl (lv_at hl 2 rfl) ?_
        refine lv_imul hx hb dX7_addUp_20 (lv_topi (fun v9 e_v9 => ?_))
        have e_v9 := ai_mul e_v9 rfl li_1 (by omega)
        refine lv_iadd hx hb dX7_addUp_21 (lv_topi (fun v10 e_v10 => ?_))
        have e_v10 := ai_add e_v10 rfl rfl (by omega)
        refine tz_lald hx hb hK hT 0 rfl (by omega) dX7_addUp_22 (fun v11 e_v11 => ?_)
        clear e_v11
        refine lv_aload_n hx hb dX7_addUp_23 rfl (lv_at hl 3 rfl) ?_
        refine lv_iload hx hb dX7_addUp_24 (lv_at hl 4 rfl) ?_
        refine lv_iload hx hb dX7_addUp_26 (lv_at hl 8 rfl) ?_
        refine lv_iload hx hb dX7_addUp_28 (lv_at hl 5 rfl) ?_
        refine lv_imul hx hb dX7_addUp_30 (lv_topi (fun v12 e_v12 => ?_))
        have e_v12 := ai_mm (la := 0) (ua := 2) (lb := 1) (ub := 3) e_v12 rfl rfl (by omega) (by decide)
        refine lv_iadd hx hb dX7_addUp_31 (lv_topi (fun v13 e_v13 => ?_))
        have e_v13 := ai_add e_v13 rfl rfl (by omega)
        refine tz_lald hx hb hK hT 0 rfl (by omega) dX7_addUp_32 (fun v14 e_v14 => ?_)
        clear e_v14
        refine lv_lmul hx hb dX7_addUp_33 (lv_topl (fun v15 e_v15 => ?_))
        refine lv_ladd hx hb dX7_addUp_34 (lv_topl (fun v16 e_v16 => ?_))
        refine lv_lstore (lv' := [(7, .long v16), (0, .ref h0), (1, .int x1), (2, .int 1), (3, .ref h0), (4, .int x4), (5, .int x5), (6, .int x6), (9, .int y5)]) hx hb dX7_addUp_35 hl (by decide) rfl (fun ls hl => ?_)
        obtain ⟨v17, e_v17⟩ : ∃ x : Int32, x = y5 + Int32.ofInt 1 := ⟨_, rfl⟩
        have f_v17 := e_v17.symm
        have e_v17 : v17.toInt = y5.toInt + 1 := ai_add e_v17 rfl (show (Int32.ofInt 1).toInt = 1 from (by decide +kernel)) (by omega)
        refine lv_iinc (v := v17) (lv' := [(9, .int v17), (7, .long v16), (0, .ref h0), (1, .int x1), (2, .int 1), (3, .ref h0), (4, .int x4), (5, .int x5), (6, .int x6)]) hx hb dX7_addUp_37 hl (k := 8) rfl f_v17 (by decide) rfl (fun ls hl => ?_)
        refine lv_goto (tgt := 6) hx hb dX7_addUp_40 (by decide) ?_
        exact ih6_7 v17 v16 _ _ _ (by omega)  (by omega) hT hS (lv_sub hl [2, 3, 4, 5, 6, 7, 8, 1, 0] rfl)
  exact lp6_7 ((x6.toInt + (-1) * (0 : Int32).toInt + 1).toNat + 1) (0) (0) _ _ _ (by have := li_0; have := ll_0; omega)  (Nat.lt_succ_self _) hT hS (lv_sub hl [2, 3, 4, 5, 6, 7, 8, 1, 0] rfl)
abbrev Rm_cX7_multiply_00e06 : Room := { frames := 1, cells := 0, slots := 0, locals := 29 }
abbrev B_cX7_multiply_00e06 (D : va_G) (k : Nat → ClassId) (h0 h1 : Nat) (x1 : Int32) (x3 : Int32) (x5 : Int32) (A : Nat → Prop) (H : Heap) : Prop := TP D A [(h0, aJ (k 1) 36 anJ), (h1, aJ (k 1) 9 anJ)] H
set_option maxHeartbeats 4000000 in
set_option maxRecDepth 100000 in
theorem cX7_multiply_00e06 (l : Launch) (D : va_G) (k : Nat → ClassId) (sz : Nat) (h0 h1 : Nat) (x1 : Int32) (x3 : Int32) (x5 : Int32) (b_x1 : 0 ≤ x1.toInt ∧ x1.toInt ≤ 18) (b_x3 : 0 ≤ x3.toInt ∧ x3.toInt ≤ 18) (b_x5 : 1 ≤ x5.toInt ∧ x5.toInt ≤ 3) : Met l yX7_multiply (Cond.code yX7_multiply cX7_multiply 8 none :: uw) Rm_cX7_multiply_00e06 (pT D k sz [.ref h0, .int x1, .ref h0, .int x3, .ref h1, .int x5] [(h0, aJ (k 1) 36 anJ), (h1, aJ (k 1) 9 anJ)]) (qV (B_cX7_multiply_00e06 D k h0 h1 x1 x3 x5 (zA [h0, h1] sz)) (zA [h0, h1] sz)) 0 0 (zA [h0, h1] sz) := by
  refine tz_begin (as := [h0, h1]) (Qc := fun A => qV (B_cX7_multiply_00e06 D k h0 h1 x1 x3 x5 A) A) (by decide +kernel) rfl (Nat.le_of_ble_eq_true rfl) ?_
  intro p e s m args below meth c ls A Q hx hb hr hml hown hlocks hin hU hK hT hS hA hl hQ
  have hl : lv_has ls 8 [(0, .ref h0), (1, .int x1), (2, .ref h0), (3, .int x3), (4, .ref h1), (5, .int x5)] := hl
  have hT : TP D A [(h0, aJ (k 1) 36 anJ), (h1, aJ (k 1) 9 anJ)] s.heap := hT
  refine lv_iconst (v := 0) hx hb dX7_multiply_0 (by decide) ?_
  refine lv_istore (lv' := [(6, .int 0), (0, .ref h0), (1, .int x1), (2, .ref h0), (3, .int x3), (4, .ref h1), (5, .int x5)]) hx hb dX7_multiply_1 hl (by decide) rfl (fun ls hl => ?_)
  have lp3_4 : ∀ (n : Nat) (y3 : Int32) (H : Heap) (locs : List Loc) (ls : Array Slot), (0 ≤ y3.toInt ∧ y3.toInt ≤ 3) → (x5.toInt + (-1) * y3.toInt + 1).toNat < n → TP D A [(h0, aJ (k 1) 36 anJ), (h1, aJ (k 1) 9 anJ)] H → va_S A s.heap H locs → lv_has ls 8 [(0, .ref h0), (1, .int x1), (2, .ref h0), (3, .int x3), (4, .ref h1), (5, .int x5), (6, .int y3)] → W p l e Rm_cX7_multiply_00e06 s m args below meth c H locs 0 0 Q (F0 m 3 ls []) := by
    intro n
    induction n with
    | zero => intro y3 H locs ls b_y3 hm hT hS hl; exact absurd hm (Nat.not_lt_zero _)
    | succ n ih =>
      intro y3 H locs ls b_y3 hm hT hS hl
      have ih3_4 := ih
      clear ih
      refine lv_iload hx hb dX7_multiply_3 (lv_at hl 6 rfl) ?_
      refine lv_iload hx hb dX7_multiply_5 (lv_at hl 5 rfl) ?_
      refine lv_icmp_ge (tgt := 64) hx hb dX7_multiply_7 (by decide) (fun c_5 => ?_) (fun c_5 => ?_)
      · skip
        have c_5 := ni_le c_5 rfl rfl
        exact tz_retV (B := B_cX7_multiply_00e06 D k h0 h1 x1 x3 x5) hQ hx hb hr hlocks hS (Nat.le_of_ble_eq_true rfl) (Nat.le_of_ble_eq_true rfl) dX7_multiply_64 (hT)
      · skip
        have c_5 := ni_nle c_5 rfl rfl
        refine lv_iconst (v := 0) hx hb dX7_multiply_10 (by decide) ?_
        refine lv_istore (lv' := [(7, .int 0), (0, .ref h0), (1, .int x1), (2, .ref h0), (3, .int x3), (4, .ref h1), (5, .int x5), (6, .int y3)]) hx hb dX7_multiply_11 hl (by decide) rfl (fun ls hl => ?_)
        have lp13_9 : ∀ (n : Nat) (y8 : Int32) (H : Heap) (locs : List Loc) (ls : Array Slot), (0 ≤ y8.toInt ∧ y8.toInt ≤ 3) → (x5.toInt + (-1) * y8.toInt + 1).toNat < n → TP D A [(h0, aJ (k 1) 36 anJ), (h1, aJ (k 1) 9 anJ)] H → va_S A s.heap H locs → lv_has ls 8 [(0, .ref h0), (1, .int x1), (2, .ref h0), (3, .int x3), (4, .ref h1), (5, .int x5), (6, .int y3), (7, .int y8)] → W p l e Rm_cX7_multiply_00e06 s m args below meth c H locs 0 0 Q (F0 m 13 ls []) := by
          intro n
          induction n with
          | zero => intro y8 H locs ls b_y8 hm hT hS hl; exact absurd hm (Nat.not_lt_zero _)
          | succ n ih =>
            intro y8 H locs ls b_y8 hm hT hS hl
            have ih13_9 := ih
            clear ih
            refine lv_iload hx hb dX7_multiply_13 (lv_at hl 7 rfl) ?_
            refine lv_iload hx hb dX7_multiply_15 (lv_at hl 5 rfl) ?_
            refine lv_icmp_ge (tgt := 58) hx hb dX7_multiply_17 (by decide) (fun c_10 => ?_) (fun c_10 => ?_)
            · skip
              have c_10 := ni_le c_10 rfl rfl
              obtain ⟨v11, e_v11⟩ : ∃ x : Int32, x = y3 + Int32.ofInt 1 := ⟨_, rfl⟩
              have f_v11 := e_v11.symm
              have e_v11 : v11.toInt = y3.toInt + 1 := ai_add e_v11 rfl (show (Int32.ofInt 1).toInt = 1 from (by decide +kernel)) (by omega)
              refine lv_iinc (v := v11) (lv' := [(6, .int v11), (0, .ref h0), (1, .int x1), (2, .ref h0), (3, .int x3), (4, .ref h1), (5, .int x5), (7, .int y8)]) hx hb dX7_multiply_58 hl (k := 6) rfl f_v11 (by decide) rfl (fun ls hl => ?_)
              refine lv_goto (tgt := 3) hx hb dX7_multiply_61 (by decide) ?_
              exact ih3_4 v11 _ _ _ (by omega)  (by omega) hT hS (lv_sub hl [1, 2, 3, 4, 5, 6, 0] rfl)
            · skip
              have c_10 := ni_nle c_10 rfl rfl
              refine lv_aload hx hb dX7_multiply_20 (lv_at hl 4 rfl) ?_
              refine lv_iload hx hb dX7_multiply_22 (lv_at hl 6 rfl) ?_
              refine lv_iload hx hb dX7_multiply_24 (lv_at hl 5 rfl) ?_
              refine lv_imul hx hb dX7_multiply_26 (lv_topi (fun v12 e_v12 => ?_))
              have e_v12 := ai_mm (la := 0) (ua := 2) (lb := 1) (ub := 3) e_v12 rfl rfl (by omega) (by decide)
              refine lv_iload hx hb dX7_multiply_27 (lv_at hl 7 rfl) ?_
              refine lv_iadd hx hb dX7_multiply_29 (lv_topi (fun v13 e_v13 => ?_))
              have e_v13 := ai_add e_v13 rfl rfl (by omega)
              refine lv_aload_n hx hb dX7_multiply_30 rfl (lv_at hl 0 rfl) ?_
              refine lv_iload_n hx hb dX7_multiply_31 rfl (lv_at hl 1 rfl) ?_
              refine lv_iload hx hb dX7_multiply_32 (lv_at hl 6 rfl) ?_
              refine lv_iload hx hb dX7_multiply_34 (lv_at hl 5 rfl) ?_
              refine lv_imul hx hb dX7_multiply_36 (lv_topi (fun v14 e_v14 => ?_))
              have e_v14 := ai_mm (la := 0) (ua := 2) (lb := 1) (ub := 3) e_v14 rfl rfl (by omega) (by decide)
              refine lv_iadd hx hb dX7_multiply_37 (lv_topi (fun v15 e_v15 => ?_))
              have e_v15 := ai_add e_v15 rfl rfl (by omega)
              refine lv_iconst (v := 1) hx hb dX7_multiply_38 (by decide) ?_
              refine lv_aload_n hx hb dX7_multiply_39 rfl (lv_at hl 2 rfl) ?_
              refine lv_iload_n hx hb dX7_multiply_40 rfl (lv_at hl 3 rfl) ?_
              refine lv_iload hx hb dX7_multiply_41 (lv_at hl 7 rfl) ?_
              refine lv_iadd hx hb dX7_multiply_43 (lv_topi (fun v16 e_v16 => ?_))
              have e_v16 := ai_add e_v16 rfl rfl (by omega)
              refine lv_iload hx hb dX7_multiply_44 (lv_at hl 5 rfl) ?_
              refine lv_iload hx hb dX7_multiply_46 (lv_at hl 5 rfl) ?_
              refine tcL (Tc := [(h0, aJ (k 1) 36 anJ)]) (Tr := [(h1, aJ (k 1) 9 anJ)]) (as := [h0]) (zcS (As := [.ref h0, .int v15, .int 1, .ref h0, .int v16, .int x5, .int x5]) (rest := [.int v13, .ref h1]) (Tc := [(h0, aJ (k 1) 36 anJ)]) hx hb hml hown hU hK hT [0] rfl (by decide) (cX7_addUp_3e2a8 l D k _ h0 v15 v16 x5 x5 (by omega) (by omega) (by omega) (by omega)) w366 w364 w365 w74 hdX7_addUp ⟨rfl, rfl⟩ ⟨Nat.le_of_ble_eq_true rfl, Nat.le_of_ble_eq_true rfl⟩ rfl hl.1 (Nat.le_of_ble_eq_true rfl) dX7_multiply_48 ⟨Nat.le_of_ble_eq_true rfl, Nat.le_of_ble_eq_true rfl⟩) hT hS hA [0] [1] rfl rfl rfl (by decide) (by decide) (fun r17 H locs hB J hS => ?_)
              have hT1 := hB
              have hT := J _ hT1
              have hT : TP D A [(h1, aJ (k 1) 9 anJ), (h0, aJ (k 1) 36 anJ)] _ := hT
              refine tz_last hx hb hK hT hS 0 rfl (by omega) (fun _ _ => trivial) dX7_multiply_51 (fun H locs hT hS => ?_)
              obtain ⟨v18, e_v18⟩ : ∃ x : Int32, x = y8 + Int32.ofInt 1 := ⟨_, rfl⟩
              have f_v18 := e_v18.symm
              have e_v18 : v18.toInt = y8.toInt + 1 := ai_add e_v18 rfl (show (Int32.ofInt 1).toInt = 1 from (by decide +kernel)) (by omega)
              refine lv_iinc (v := v18) (lv' := [(7, .int v18), (0, .ref h0), (1, .int x1), (2, .ref h0), (3, .int x3), (4, .ref h1), (5, .int x5), (6, .int y3)]) hx hb dX7_multiply_52 hl (k := 7) rfl f_v18 (by decide) rfl (fun ls hl => ?_)
              refine lv_goto (tgt := 13) hx hb dX7_multiply_55 (by decide) ?_
              exact ih13_9 v18 _ _ _ (by omega)  (by omega) (hT.sub [1, 0] (by decide) rfl) hS (lv_sub hl [1, 2, 3, 4, 5, 6, 7, 0] rfl)
        exact lp13_9 ((x5.toInt + (-1) * (0 : Int32).toInt + 1).toNat + 1) (0) _ _ _ (by have := li_0; omega)  (Nat.lt_succ_self _) hT hS (lv_sub hl [1, 2, 3, 4, 5, 6, 7, 0] rfl)
  exact lp3_4 ((x5.toInt + (-1) * (0 : Int32).toInt + 1).toNat + 1) (0) _ _ _ (by have := li_0; omega)  (Nat.lt_succ_self _) hT hS (lv_sub hl [1, 2, 3, 4, 5, 6, 0] rfl)
abbrev Rm_cX10_makeOf_0e41d : Room := { frames := 2, cells := 0, slots := 0, locals := 56 }
abbrev B_cX10_makeOf_0e41d (D : va_G) (k : Nat → ClassId) (h0 h1 h11 h13 h2 h3 h4 h5 h6 h7 h8 h9 h10 h12 : Nat) (x1 : Int32) (x2 : Int32) (x3 : Int32) (h0f2 : Int32) (h0f6 : Int32) (h0f8 : Int32) (h0f11 : Int32) (h1f0 : Int32) (h1f1 : Int32) (h1f2 : Int32) (A : Nat → Prop) (H : Heap) : Prop := TP D A [(h0, ob 7 [.ref h1, .ref h2, .int h0f2, .ref h3, .ref h4, .ref h5, .int h0f6, .ref h6, .int h0f8, .null, .ref h7, .int h0f11, .ref h8, .ref h9, .ref h10, .ref h11, .ref h12]), (h1, ob 4 [.int h1f0, .int h1f1, .int h1f2, .ref h13]), (h11, aJ (k 1) 9 anJ), (h13, aJ (k 1) 36 anJ)] H
set_option maxHeartbeats 4000000 in
set_option maxRecDepth 100000 in
theorem cX10_makeOf_0e41d (l : Launch) (D : va_G) (k : Nat → ClassId) (sz : Nat) (h0 h1 h11 h13 h2 h3 h4 h5 h6 h7 h8 h9 h10 h12 : Nat) (x1 : Int32) (x2 : Int32) (x3 : Int32) (h0f2 : Int32) (h0f6 : Int32) (h0f8 : Int32) (h0f11 : Int32) (h1f0 : Int32) (h1f1 : Int32) (h1f2 : Int32) (b_x1 : 0 ≤ x1.toInt ∧ x1.toInt ≤ 0) (b_x2 : 0 ≤ x2.toInt ∧ x2.toInt ≤ 2) (b_x3 : 0 ≤ x3.toInt ∧ x3.toInt ≤ 2) (b_h0f2 : 0 ≤ h0f2.toInt ∧ h0f2.toInt ≤ 1) (b_h0f6 : 0 ≤ h0f6.toInt ∧ h0f6.toInt ≤ 1) (b_h0f8 : 0 ≤ h0f8.toInt ∧ h0f8.toInt ≤ 1) (b_h0f11 : 0 ≤ h0f11.toInt ∧ h0f11.toInt ≤ 200) (b_h1f0 : 1 ≤ h1f0.toInt ∧ h1f0.toInt ≤ 3) (b_h1f1 : 1 ≤ h1f1.toInt ∧ h1f1.toInt ≤ 3) : Met l yX10_makeOf (Cond.code yX10_makeOf cX10_makeOf 5 none :: uw) Rm_cX10_makeOf_0e41d (pT D k sz [.ref h0, .int x1, .int x2, .int x3] [(h0, ob 7 [.ref h1, .ref h2, .int h0f2, .ref h3, .ref h4, .ref h5, .int h0f6, .ref h6, .int h0f8, .null, .ref h7, .int h0f11, .ref h8, .ref h9, .ref h10, .ref h11, .ref h12]), (h1, ob 4 [.int h1f0, .int h1f1, .int h1f2, .ref h13]), (h11, aJ (k 1) 9 anJ), (h13, aJ (k 1) 36 anJ)]) (qV (B_cX10_makeOf_0e41d D k h0 h1 h11 h13 h2 h3 h4 h5 h6 h7 h8 h9 h10 h12 x1 x2 x3 h0f2 h0f6 h0f8 h0f11 h1f0 h1f1 h1f2 (zA [h0, h1, h11, h13] sz)) (zA [h0, h1, h11, h13] sz)) 0 0 (zA [h0, h1, h11, h13] sz) := by
  refine tz_begin (as := [h0, h1, h11, h13]) (Qc := fun A => qV (B_cX10_makeOf_0e41d D k h0 h1 h11 h13 h2 h3 h4 h5 h6 h7 h8 h9 h10 h12 x1 x2 x3 h0f2 h0f6 h0f8 h0f11 h1f0 h1f1 h1f2 A) A) (by decide +kernel) rfl (Nat.le_of_ble_eq_true rfl) ?_
  intro p e s m args below meth c ls A Q hx hb hr hml hown hlocks hin hU hK hT hS hA hl hQ
  have hl : lv_has ls 5 [(0, .ref h0), (1, .int x1), (2, .int x2), (3, .int x3)] := hl
  have hT : TP D A [(h0, ob 7 [.ref h1, .ref h2, .int h0f2, .ref h3, .ref h4, .ref h5, .int h0f6, .ref h6, .int h0f8, .null, .ref h7, .int h0f11, .ref h8, .ref h9, .ref h10, .ref h11, .ref h12]), (h1, ob 4 [.int h1f0, .int h1f1, .int h1f2, .ref h13]), (h11, aJ (k 1) 9 anJ), (h13, aJ (k 1) 36 anJ)] s.heap := hT
  refine lv_iload_n hx hb dX10_makeOf_0 rfl (lv_at hl 2 rfl) ?_
  refine lv_bipush (v := 9) hx hb dX10_makeOf_1 (by decide) ?_
  refine lv_imul hx hb dX10_makeOf_3 (lv_topi (fun v1 e_v1 => ?_))
  have e_v1 := ai_mul e_v1 rfl li_9 (by omega)
  refine lv_istore (lv' := [(4, .int v1), (0, .ref h0), (1, .int x1), (2, .int x2), (3, .int x3)]) hx hb dX10_makeOf_4 hl (by decide) rfl (fun ls hl => ?_)
  refine lv_iload_n hx hb dX10_makeOf_6 rfl (lv_at hl 2 rfl) ?_
  refine lv_if_ne (tgt := 47) hx hb dX10_makeOf_7 (by decide) (fun c_2 => ?_) (fun c_2 => ?_)
  · skip
    have c_2 := ni_ne c_2 rfl li_0
    exfalso; omega
  · skip
    have c_2 := ni_eq c_2 rfl li_0
    refine lv_aload_n hx hb dX10_makeOf_10 rfl (lv_at hl 1 rfl) ?_
    refine tz_get (ci := 7) (v := .ref h1) (C := RX10) (F := TX10) (N := 17) hx hb hU iX10 hown hK hT 0 rfl rfl 0 (by decide) w249 (fun _ h9 => h9) rfl dX10_makeOf_11 ?_
    refine tz_get (ci := 4) (v := .ref h13) (C := RX5) (F := TX5) (N := 4) hx hb hU iX5 hown hK hT 1 rfl rfl 3 (by decide) w103 (fun _ h9 => h9) rfl dX10_makeOf_14 ?_
    refine lv_iload hx hb dX10_makeOf_17 (lv_at hl 0 rfl) ?_
    refine lv_aload_n hx hb dX10_makeOf_19 rfl (lv_at hl 1 rfl) ?_
    refine tz_get (ci := 7) (v := .ref h1) (C := RX10) (F := TX10) (N := 17) hx hb hU iX10 hown hK hT 0 rfl rfl 0 (by decide) w249 (fun _ h9 => h9) rfl dX10_makeOf_20 ?_
    refine tz_get (ci := 4) (v := .ref h13) (C := RX5) (F := TX5) (N := 4) hx hb hU iX5 hown hK hT 1 rfl rfl 3 (by decide) w103 (fun _ h9 => h9) rfl dX10_makeOf_23 ?_
    refine lv_iload_n hx hb dX10_makeOf_26 rfl (lv_at hl 4 rfl) ?_
    refine lv_bipush (v := 9) hx hb dX10_makeOf_27 (by decide) ?_
    refine lv_imul hx hb dX10_makeOf_29 (lv_topi (fun v3 e_v3 => ?_))
    have e_v3 := ai_mul e_v3 rfl li_9 (by omega)
    refine lv_aload_n hx hb dX10_makeOf_30 rfl (lv_at hl 1 rfl) ?_
    refine tz_get (ci := 7) (v := .ref h11) (C := RX10) (F := TX10) (N := 17) hx hb hU iX10 hown hK hT 0 rfl rfl 15 (by decide) w264 (fun _ h9 => h9) rfl dX10_makeOf_31 ?_
    refine lv_aload_n hx hb dX10_makeOf_34 rfl (lv_at hl 1 rfl) ?_
    refine tz_get (ci := 7) (v := .ref h1) (C := RX10) (F := TX10) (N := 17) hx hb hU iX10 hown hK hT 0 rfl rfl 0 (by decide) w249 (fun _ h9 => h9) rfl dX10_makeOf_35 ?_
    refine tz_get (ci := 4) (v := .int h1f0) (C := RX5) (F := TX5) (N := 4) hx hb hU iX5 hown hK hT 1 rfl rfl 0 (by decide) w93 (fun _ h9 => h9) rfl dX10_makeOf_38 ?_
    refine tcV (Tc := [(h13, aJ (k 1) 36 anJ), (h11, aJ (k 1) 9 anJ)]) (Tr := [(h0, ob 7 [.ref h1, .ref h2, .int h0f2, .ref h3, .ref h4, .ref h5, .int h0f6, .ref h6, .int h0f8, .null, .ref h7, .int h0f11, .ref h8, .ref h9, .ref h10, .ref h11, .ref h12]), (h1, ob 4 [.int h1f0, .int h1f1, .int h1f2, .ref h13])]) (as := [h13, h11]) (zcS (As := [.ref h13, .int v1, .ref h13, .int v3, .ref h11, .int h1f0]) (rest := []) (Tc := [(h13, aJ (k 1) 36 anJ), (h11, aJ (k 1) 9 anJ)]) hx hb hml hown hU hK hT [3, 2] rfl (by decide) (cX7_multiply_00e06 l D k _ h13 h11 v1 v3 h1f0 (by omega) (by omega) (by omega)) w363 w361 w362 w74 hdX7_multiply ⟨rfl, rfl⟩ ⟨Nat.le_of_ble_eq_true rfl, Nat.le_of_ble_eq_true rfl⟩ rfl hl.1 (Nat.le_of_ble_eq_true rfl) dX10_makeOf_41 ⟨Nat.le_of_ble_eq_true rfl, Nat.le_of_ble_eq_true rfl⟩) hT hS hA [3, 2] [0, 1] rfl rfl rfl (by decide) (by decide) (fun H locs hB J hS => ?_)
    have hT1 := hB
    have hT := J _ hT1
    have hT : TP D A [(h0, ob 7 [.ref h1, .ref h2, .int h0f2, .ref h3, .ref h4, .ref h5, .int h0f6, .ref h6, .int h0f8, .null, .ref h7, .int h0f11, .ref h8, .ref h9, .ref h10, .ref h11, .ref h12]), (h1, ob 4 [.int h1f0, .int h1f1, .int h1f2, .ref h13]), (h13, aJ (k 1) 36 anJ), (h11, aJ (k 1) 9 anJ)] _ := hT
    refine lv_goto (tgt := 132) hx hb dX10_makeOf_44 (by decide) ?_
    exact tz_retV (B := B_cX10_makeOf_0e41d D k h0 h1 h11 h13 h2 h3 h4 h5 h6 h7 h8 h9 h10 h12 x1 x2 x3 h0f2 h0f6 h0f8 h0f11 h1f0 h1f1 h1f2) hQ hx hb hr hlocks hS (Nat.le_of_ble_eq_true rfl) (Nat.le_of_ble_eq_true rfl) dX10_makeOf_132 ((hT.sub [0, 1, 3, 2] (by decide) rfl))
abbrev Rm_cX10_made_71988 : Room := { frames := 4, cells := 0, slots := 0, locals := 105 }
abbrev B_cX10_made_71988 (D : va_G) (k : Nat → ClassId) (h0 h1 h7 h11 h13 h2 h3 h4 h5 h6 h8 h9 h10 h12 : Nat) (x1 : Int32) (x2 : Int32) (x3 : Int32) (h0f2 : Int32) (h0f6 : Int32) (h0f8 : Int32) (h0f11 : Int32) (h1f0 : Int32) (h1f1 : Int32) (h1f2 : Int32) (A : Nat → Prop) (r : Int32) (H : Heap) : Prop := ∃ o0 : Int32, ∃ o1 : Int32, ∃ o2 : Int32, (0 ≤ o0.toInt ∧ o0.toInt ≤ 1) ∧ (0 ≤ o1.toInt ∧ o1.toInt ≤ 1) ∧ (0 ≤ o2.toInt ∧ o2.toInt ≤ 4) ∧ ((-16) ≤ r.toInt ∧ r.toInt ≤ 3) ∧ TP D A [(h0, ob 7 [.ref h1, .ref h2, .int h0f2, .ref h3, .ref h4, .ref h5, .int o0, .ref h6, .int o1, .null, .ref h7, .int h0f11, .ref h8, .ref h9, .ref h10, .ref h11, .ref h12]), (h1, ob 4 [.int h1f0, .int o2, .int h1f2, .ref h13]), (h7, aI (k 0) 8 anI), (h11, aJ (k 1) 9 anJ), (h13, aJ (k 1) 36 anJ)] H
set_option maxHeartbeats 4000000 in
set_option maxRecDepth 100000 in
theorem cX10_made_71988 (l : Launch) (D : va_G) (k : Nat → ClassId) (sz : Nat) (h0 h1 h7 h11 h13 h2 h3 h4 h5 h6 h8 h9 h10 h12 : Nat) (x1 : Int32) (x2 : Int32) (x3 : Int32) (h0f2 : Int32) (h0f6 : Int32) (h0f8 : Int32) (h0f11 : Int32) (h1f0 : Int32) (h1f1 : Int32) (h1f2 : Int32) (b_h0f2 : 0 ≤ h0f2.toInt ∧ h0f2.toInt ≤ 1) (b_h0f6 : 0 ≤ h0f6.toInt ∧ h0f6.toInt ≤ 1) (b_h0f8 : 0 ≤ h0f8.toInt ∧ h0f8.toInt ≤ 1) (b_h0f11 : 0 ≤ h0f11.toInt ∧ h0f11.toInt ≤ 200) (b_h1f0 : 1 ≤ h1f0.toInt ∧ h1f0.toInt ≤ 3) (b_h1f1 : 0 ≤ h1f1.toInt ∧ h1f1.toInt ≤ 4) : Met l yX10_made (Cond.code yX10_made cX10_made 4 (some .int) :: uw) Rm_cX10_made_71988 (pT D k sz [.ref h0, .int x1, .int x2, .int x3] [(h0, ob 7 [.ref h1, .ref h2, .int h0f2, .ref h3, .ref h4, .ref h5, .int h0f6, .ref h6, .int h0f8, .null, .ref h7, .int h0f11, .ref h8, .ref h9, .ref h10, .ref h11, .ref h12]), (h1, ob 4 [.int h1f0, .int h1f1, .int h1f2, .ref h13]), (h7, aI (k 0) 8 anI), (h11, aJ (k 1) 9 anJ), (h13, aJ (k 1) 36 anJ)]) (qI (B_cX10_made_71988 D k h0 h1 h7 h11 h13 h2 h3 h4 h5 h6 h8 h9 h10 h12 x1 x2 x3 h0f2 h0f6 h0f8 h0f11 h1f0 h1f1 h1f2 (zA [h0, h1, h7, h11, h13] sz)) (zA [h0, h1, h7, h11, h13] sz)) 0 0 (zA [h0, h1, h7, h11, h13] sz) := by
  refine tz_begin (as := [h0, h1, h7, h11, h13]) (Qc := fun A => qI (B_cX10_made_71988 D k h0 h1 h7 h11 h13 h2 h3 h4 h5 h6 h8 h9 h10 h12 x1 x2 x3 h0f2 h0f6 h0f8 h0f11 h1f0 h1f1 h1f2 A) A) (by decide +kernel) rfl (Nat.le_of_ble_eq_true rfl) ?_
  intro p e s m args below meth c ls A Q hx hb hr hml hown hlocks hin hU hK hT hS hA hl hQ
  have hl : lv_has ls 4 [(0, .ref h0), (1, .int x1), (2, .int x2), (3, .int x3)] := hl
  have hT : TP D A [(h0, ob 7 [.ref h1, .ref h2, .int h0f2, .ref h3, .ref h4, .ref h5, .int h0f6, .ref h6, .int h0f8, .null, .ref h7, .int h0f11, .ref h8, .ref h9, .ref h10, .ref h11, .ref h12]), (h1, ob 4 [.int h1f0, .int h1f1, .int h1f2, .ref h13]), (h7, aI (k 0) 8 anI), (h11, aJ (k 1) 9 anJ), (h13, aJ (k 1) 36 anJ)] s.heap := hT
  refine lv_iload_n hx hb dX10_made_0 rfl (lv_at hl 1 rfl) ?_
  refine lv_if_lt (tgt := 35) hx hb dX10_made_1 (by decide) (fun c_1 => ?_) (fun c_1 => ?_)
  · skip
    have c_1 := ni_lt c_1 rfl li_0
    refine lv_iconst (v := (-1)) hx hb dX10_made_35 (by decide) ?_
    exact tz_retI (B := B_cX10_made_71988 D k h0 h1 h7 h11 h13 h2 h3 h4 h5 h6 h8 h9 h10 h12 x1 x2 x3 h0f2 h0f6 h0f8 h0f11 h1f0 h1f1 h1f2) (v := (-1)) hQ hx hb hr hlocks hS (Nat.le_of_ble_eq_true rfl) (Nat.le_of_ble_eq_true rfl) dX10_made_36 (⟨h0f6, h0f8, h1f1, (by have := li_m1; omega), (by have := li_m1; omega), (by have := li_m1; omega), (by have := li_m1; omega), hT⟩)
  · skip
    have c_1 := ni_nlt c_1 rfl li_0
    refine lv_iload_n hx hb dX10_made_4 rfl (lv_at hl 1 rfl) ?_
    refine lv_iconst (v := 3) hx hb dX10_made_5 (by decide) ?_
    refine lv_icmp_gt (tgt := 35) hx hb dX10_made_6 (by decide) (fun c_2 => ?_) (fun c_2 => ?_)
    · skip
      have c_2 := ni_lt c_2 li_3 rfl
      refine lv_iconst (v := (-1)) hx hb dX10_made_35 (by decide) ?_
      exact tz_retI (B := B_cX10_made_71988 D k h0 h1 h7 h11 h13 h2 h3 h4 h5 h6 h8 h9 h10 h12 x1 x2 x3 h0f2 h0f6 h0f8 h0f11 h1f0 h1f1 h1f2) (v := (-1)) hQ hx hb hr hlocks hS (Nat.le_of_ble_eq_true rfl) (Nat.le_of_ble_eq_true rfl) dX10_made_36 (⟨h0f6, h0f8, h1f1, (by have := li_m1; omega), (by have := li_m1; omega), (by have := li_m1; omega), (by have := li_m1; omega), hT⟩)
    · skip
      have c_2 := ni_nlt c_2 li_3 rfl
      refine lv_aload_n hx hb dX10_made_9 rfl (lv_at hl 0 rfl) ?_
      refine tz_get (ci := 7) (v := .ref h1) (C := RX10) (F := TX10) (N := 17) hx hb hU iX10 hown hK hT 0 rfl rfl 0 (by decide) w249 (fun _ h9 => h9) rfl dX10_made_10 ?_
      refine lv_iload_n hx hb dX10_made_13 rfl (lv_at hl 2 rfl) ?_
      refine tcI (Tc := [(h1, ob 4 [.int h1f0, .int h1f1, .int h1f2, .ref h13])]) (Tr := [(h0, ob 7 [.ref h1, .ref h2, .int h0f2, .ref h3, .ref h4, .ref h5, .int h0f6, .ref h6, .int h0f8, .null, .ref h7, .int h0f11, .ref h8, .ref h9, .ref h10, .ref h11, .ref h12]), (h7, aI (k 0) 8 anI), (h11, aJ (k 1) 9 anJ), (h13, aJ (k 1) 36 anJ)]) (as := [h1]) (zcV (q0 := 1) (ci := 4) (As := [.int x2]) (rest := []) (Tc := [(h1, ob 4 [.int h1f0, .int h1f1, .int h1f2, .ref h13])]) hx hb hml hown hU hK hT rfl rfl [1] rfl (by decide) (cX5_has_64567 l D k _ h1 h13 x2 h1f0 h1f1 h1f2 (by omega) (by omega)) w356 w353 w354 w355 w64 hdX5_has ⟨rfl, rfl⟩ ⟨Nat.le_of_ble_eq_true rfl, Nat.le_of_ble_eq_true rfl⟩ rfl hl.1 (Nat.le_of_ble_eq_true rfl) dX10_made_14 ⟨Nat.le_of_ble_eq_true rfl, Nat.le_of_ble_eq_true rfl⟩) hT hS hA [1] [0, 2, 3, 4] rfl rfl rfl (by decide) (by decide) (fun r3 H locs hB J hS => ?_)
      rcases hB with ⟨rfl, hT1⟩ | ⟨c_4, c_5, rfl, hT1⟩
      · skip
        have hT := J _ hT1
        have hT : TP D A [(h0, ob 7 [.ref h1, .ref h2, .int h0f2, .ref h3, .ref h4, .ref h5, .int h0f6, .ref h6, .int h0f8, .null, .ref h7, .int h0f11, .ref h8, .ref h9, .ref h10, .ref h11, .ref h12]), (h7, aI (k 0) 8 anI), (h11, aJ (k 1) 9 anJ), (h13, aJ (k 1) 36 anJ), (h1, ob 4 [.int h1f0, .int h1f1, .int h1f2, .ref h13])] _ := hT
        refine lv_if_eq (tgt := 35) hx hb dX10_made_17 (by decide) (fun _ => ?_) (fun cc => absurd (by decide +kernel) cc)
        refine lv_iconst (v := (-1)) hx hb dX10_made_35 (by decide) ?_
        exact tz_retI (B := B_cX10_made_71988 D k h0 h1 h7 h11 h13 h2 h3 h4 h5 h6 h8 h9 h10 h12 x1 x2 x3 h0f2 h0f6 h0f8 h0f11 h1f0 h1f1 h1f2) (v := (-1)) hQ hx hb hr hlocks hS (Nat.le_of_ble_eq_true rfl) (Nat.le_of_ble_eq_true rfl) dX10_made_36 (⟨h0f6, h0f8, h1f1, (by have := li_m1; omega), (by have := li_m1; omega), (by have := li_m1; omega), (by have := li_m1; omega), (hT.sub [0, 4, 1, 2, 3] (by decide) rfl)⟩)
      · skip
        have hT := J _ hT1
        have hT : TP D A [(h0, ob 7 [.ref h1, .ref h2, .int h0f2, .ref h3, .ref h4, .ref h5, .int h0f6, .ref h6, .int h0f8, .null, .ref h7, .int h0f11, .ref h8, .ref h9, .ref h10, .ref h11, .ref h12]), (h7, aI (k 0) 8 anI), (h11, aJ (k 1) 9 anJ), (h13, aJ (k 1) 36 anJ), (h1, ob 4 [.int h1f0, .int h1f1, .int h1f2, .ref h13])] _ := hT
        refine lv_if_eq (tgt := 35) hx hb dX10_made_17 (by decide) (fun cc => absurd cc (by decide +kernel)) (fun _ => ?_)
        refine lv_iload_n hx hb dX10_made_20 rfl (lv_at hl 1 rfl) ?_
        refine lv_if_ne (tgt := 37) hx hb dX10_made_21 (by decide) (fun c_6 => ?_) (fun c_6 => ?_)
        · skip
          have c_6 := ni_ne c_6 rfl li_0
          refine lv_aload_n hx hb dX10_made_37 rfl (lv_at hl 0 rfl) ?_
          refine tz_get (ci := 7) (v := .ref h1) (C := RX10) (F := TX10) (N := 17) hx hb hU iX10 hown hK hT 0 rfl rfl 0 (by decide) w249 (fun _ h9 => h9) rfl dX10_made_38 ?_
          refine tcI (Tc := [(h1, ob 4 [.int h1f0, .int h1f1, .int h1f2, .ref h13])]) (Tr := [(h0, ob 7 [.ref h1, .ref h2, .int h0f2, .ref h3, .ref h4, .ref h5, .int h0f6, .ref h6, .int h0f8, .null, .ref h7, .int h0f11, .ref h8, .ref h9, .ref h10, .ref h11, .ref h12]), (h7, aI (k 0) 8 anI), (h11, aJ (k 1) 9 anJ), (h13, aJ (k 1) 36 anJ)]) (as := [h1]) (zcV (q0 := 4) (ci := 4) (As := []) (rest := []) (Tc := [(h1, ob 4 [.int h1f0, .int h1f1, .int h1f2, .ref h13])]) hx hb hml hown hU hK hT rfl rfl [4] rfl (by decide) (cX5_isFull_cc49c l D k _ h1 h13 h1f0 h1f1 h1f2 (by omega) (by omega)) w326 w323 w324 w325 w64 hdX5_isFull ⟨rfl, rfl⟩ ⟨Nat.le_of_ble_eq_true rfl, Nat.le_of_ble_eq_true rfl⟩ rfl hl.1 (Nat.le_of_ble_eq_true rfl) dX10_made_41 ⟨Nat.le_of_ble_eq_true rfl, Nat.le_of_ble_eq_true rfl⟩) hT hS hA [4] [0, 1, 2, 3] rfl rfl rfl (by decide) (by decide) (fun r7 H locs hB J hS => ?_)
          rcases hB with ⟨c_8, rfl, hT1⟩ | ⟨rfl, hT1⟩
          · skip
            have hT := J _ hT1
            have hT : TP D A [(h0, ob 7 [.ref h1, .ref h2, .int h0f2, .ref h3, .ref h4, .ref h5, .int h0f6, .ref h6, .int h0f8, .null, .ref h7, .int h0f11, .ref h8, .ref h9, .ref h10, .ref h11, .ref h12]), (h7, aI (k 0) 8 anI), (h11, aJ (k 1) 9 anJ), (h13, aJ (k 1) 36 anJ), (h1, ob 4 [.int h1f0, .int h1f1, .int h1f2, .ref h13])] _ := hT
            refine lv_if_eq (tgt := 50) hx hb dX10_made_44 (by decide) (fun _ => ?_) (fun cc => absurd (by decide +kernel) cc)
            refine lv_aload_n hx hb dX10_made_50 rfl (lv_at hl 0 rfl) ?_
            refine lv_iload_n hx hb dX10_made_51 rfl (lv_at hl 1 rfl) ?_
            refine lv_iload_n hx hb dX10_made_52 rfl (lv_at hl 2 rfl) ?_
            refine lv_iload_n hx hb dX10_made_53 rfl (lv_at hl 3 rfl) ?_
            refine tcV (Tc := [(h0, ob 7 [.ref h1, .ref h2, .int h0f2, .ref h3, .ref h4, .ref h5, .int h0f6, .ref h6, .int h0f8, .null, .ref h7, .int h0f11, .ref h8, .ref h9, .ref h10, .ref h11, .ref h12]), (h1, ob 4 [.int h1f0, .int h1f1, .int h1f2, .ref h13]), (h11, aJ (k 1) 9 anJ), (h13, aJ (k 1) 36 anJ)]) (Tr := [(h7, aI (k 0) 8 anI)]) (as := [h0, h1, h11, h13]) (zcV (q0 := 0) (ci := 7) (As := [.int x1, .int x2, .int x3]) (rest := []) (Tc := [(h0, ob 7 [.ref h1, .ref h2, .int h0f2, .ref h3, .ref h4, .ref h5, .int h0f6, .ref h6, .int h0f8, .null, .ref h7, .int h0f11, .ref h8, .ref h9, .ref h10, .ref h11, .ref h12]), (h1, ob 4 [.int h1f0, .int h1f1, .int h1f2, .ref h13]), (h11, aJ (k 1) 9 anJ), (h13, aJ (k 1) 36 anJ)]) hx hb hml hown hU hK hT rfl rfl [0, 4, 2, 3] rfl (by decide) (cX10_makeOf_303fc l D k _ h0 h1 h11 h13 h2 h3 h4 h5 h6 h7 h8 h9 h10 h12 x1 x2 x3 h0f2 h0f6 h0f8 h0f11 h1f0 h1f1 h1f2 (by omega) (by omega) (by omega) (by omega) (by omega) (by omega) (by omega) (by omega)) w360 w357 w359 w3 w63 hdX10_makeOf ⟨rfl, rfl⟩ ⟨Nat.le_of_ble_eq_true rfl, Nat.le_of_ble_eq_true rfl⟩ rfl hl.1 (Nat.le_of_ble_eq_true rfl) dX10_made_54 ⟨Nat.le_of_ble_eq_true rfl, Nat.le_of_ble_eq_true rfl⟩) hT hS hA [0, 4, 2, 3] [1] rfl rfl rfl (by decide) (by decide) (fun H locs hB J hS => ?_)
            have hT1 := hB
            have hT := J _ hT1
            have hT : TP D A [(h7, aI (k 0) 8 anI), (h0, ob 7 [.ref h1, .ref h2, .int h0f2, .ref h3, .ref h4, .ref h5, .int h0f6, .ref h6, .int h0f8, .null, .ref h7, .int h0f11, .ref h8, .ref h9, .ref h10, .ref h11, .ref h12]), (h1, ob 4 [.int h1f0, .int h1f1, .int h1f2, .ref h13]), (h11, aJ (k 1) 9 anJ), (h13, aJ (k 1) 36 anJ)] _ := hT
            refine lv_aload_n hx hb dX10_made_57 rfl (lv_at hl 0 rfl) ?_
            refine tz_get (ci := 7) (v := .ref h11) (C := RX10) (F := TX10) (N := 17) hx hb hU iX10 hown hK hT 1 rfl rfl 15 (by decide) w264 (fun _ h9 => h9) rfl dX10_made_58 ?_
            refine lv_aload_n hx hb dX10_made_61 rfl (lv_at hl 0 rfl) ?_
            refine tz_get (ci := 7) (v := .ref h1) (C := RX10) (F := TX10) (N := 17) hx hb hU iX10 hown hK hT 1 rfl rfl 0 (by decide) w249 (fun _ h9 => h9) rfl dX10_made_62 ?_
            refine tcI (Tc := [(h1, ob 4 [.int h1f0, .int h1f1, .int h1f2, .ref h13])]) (Tr := [(h7, aI (k 0) 8 anI), (h0, ob 7 [.ref h1, .ref h2, .int h0f2, .ref h3, .ref h4, .ref h5, .int h0f6, .ref h6, .int h0f8, .null, .ref h7, .int h0f11, .ref h8, .ref h9, .ref h10, .ref h11, .ref h12]), (h11, aJ (k 1) 9 anJ), (h13, aJ (k 1) 36 anJ)]) (as := [h1]) (zcV (q0 := 2) (ci := 4) (As := []) (rest := [.ref h11]) (Tc := [(h1, ob 4 [.int h1f0, .int h1f1, .int h1f2, .ref h13])]) hx hb hml hown hU hK hT rfl rfl [2] rfl (by decide) (cX5_cellCount_642c9 l D k _ h1 h13 h1f0 h1f1 h1f2 (by omega) (by omega)) w385 w382 w383 w384 w64 hdX5_cellCount ⟨rfl, rfl⟩ ⟨Nat.le_of_ble_eq_true rfl, Nat.le_of_ble_eq_true rfl⟩ rfl hl.1 (Nat.le_of_ble_eq_true rfl) dX10_made_65 ⟨Nat.le_of_ble_eq_true rfl, Nat.le_of_ble_eq_true rfl⟩) hT hS hA [2] [0, 1, 3, 4] rfl rfl rfl (by decide) (by decide) (fun r10 H locs hB J hS => ?_)
            obtain ⟨b_r10, hT1⟩ := hB
            have hT := J _ hT1
            have hT : TP D A [(h7, aI (k 0) 8 anI), (h0, ob 7 [.ref h1, .ref h2, .int h0f2, .ref h3, .ref h4, .ref h5, .int h0f6, .ref h6, .int h0f8, .null, .ref h7, .int h0f11, .ref h8, .ref h9, .ref h10, .ref h11, .ref h12]), (h11, aJ (k 1) 9 anJ), (h13, aJ (k 1) 36 anJ), (h1, ob 4 [.int h1f0, .int h1f1, .int h1f2, .ref h13])] _ := hT
            refine lv_ldc2 hx hb hown (hU _ w386) dX10_made_68 ?_
            have q_q12 := ll_99
            refine tcI (Tc := [(h11, aJ (k 1) 9 anJ)]) (Tr := [(h7, aI (k 0) 8 anI), (h0, ob 7 [.ref h1, .ref h2, .int h0f2, .ref h3, .ref h4, .ref h5, .int h0f6, .ref h6, .int h0f8, .null, .ref h7, .int h0f11, .ref h8, .ref h9, .ref h10, .ref h11, .ref h12]), (h13, aJ (k 1) 36 anJ), (h1, ob 4 [.int h1f0, .int h1f1, .int h1f2, .ref h13])]) (as := [h11]) (zcS (As := [.ref h11, .int r10, .long 99]) (rest := []) (Tc := [(h11, aJ (k 1) 9 anJ)]) hx hb hml hown hU hK hT [2] rfl (by decide) (cX7_isWithin_443ab l D k _ h11 r10 (99) (by omega) (by have := ll_99; omega)) w389 w387 w388 w74 hdX7_isWithin ⟨rfl, rfl⟩ ⟨Nat.le_of_ble_eq_true rfl, Nat.le_of_ble_eq_true rfl⟩ rfl hl.1 (Nat.le_of_ble_eq_true rfl) dX10_made_71 ⟨Nat.le_of_ble_eq_true rfl, Nat.le_of_ble_eq_true rfl⟩) hT hS hA [2] [0, 1, 3, 4] rfl rfl rfl (by decide) (by decide) (fun r11 H locs hB J hS => ?_)
            obtain ⟨b_r11, hT1⟩ := hB
            have hT := J _ hT1
            have hT : TP D A [(h7, aI (k 0) 8 anI), (h0, ob 7 [.ref h1, .ref h2, .int h0f2, .ref h3, .ref h4, .ref h5, .int h0f6, .ref h6, .int h0f8, .null, .ref h7, .int h0f11, .ref h8, .ref h9, .ref h10, .ref h11, .ref h12]), (h13, aJ (k 1) 36 anJ), (h1, ob 4 [.int h1f0, .int h1f1, .int h1f2, .ref h13]), (h11, aJ (k 1) 9 anJ)] _ := hT
            refine lv_if_ne (tgt := 80) hx hb dX10_made_74 (by decide) (fun c_13 => ?_) (fun c_13 => ?_)
            · skip
              have c_13 := ni_ne c_13 rfl li_0
              refine lv_aload_n hx hb dX10_made_80 rfl (lv_at hl 0 rfl) ?_
              refine tcI (Tc := [(h0, ob 7 [.ref h1, .ref h2, .int h0f2, .ref h3, .ref h4, .ref h5, .int h0f6, .ref h6, .int h0f8, .null, .ref h7, .int h0f11, .ref h8, .ref h9, .ref h10, .ref h11, .ref h12]), (h1, ob 4 [.int h1f0, .int h1f1, .int h1f2, .ref h13]), (h7, aI (k 0) 8 anI), (h11, aJ (k 1) 9 anJ), (h13, aJ (k 1) 36 anJ)]) (Tr := []) (as := [h0, h1, h7, h11, h13]) (zcV (q0 := 1) (ci := 7) (As := []) (rest := []) (Tc := [(h0, ob 7 [.ref h1, .ref h2, .int h0f2, .ref h3, .ref h4, .ref h5, .int h0f6, .ref h6, .int h0f8, .null, .ref h7, .int h0f11, .ref h8, .ref h9, .ref h10, .ref h11, .ref h12]), (h1, ob 4 [.int h1f0, .int h1f1, .int h1f2, .ref h13]), (h7, aI (k 0) 8 anI), (h11, aJ (k 1) 9 anJ), (h13, aJ (k 1) 36 anJ)]) hx hb hml hown hU hK hT rfl rfl [1, 3, 0, 4, 2] rfl (by decide) (cX10_addSquare_6c1be l D k _ h0 h1 h7 h11 h13 h2 h3 h4 h5 h6 h8 h9 h10 h12 h0f2 h0f6 h0f8 h0f11 h1f0 h1f1 h1f2 (by omega) (by omega) (by omega) (by omega) (by omega) (by omega)) w340 w337 w339 w2 w63 hdX10_addSquare ⟨rfl, rfl⟩ ⟨Nat.le_of_ble_eq_true rfl, Nat.le_of_ble_eq_true rfl⟩ rfl hl.1 (Nat.le_of_ble_eq_true rfl) dX10_made_81 ⟨Nat.le_of_ble_eq_true rfl, Nat.le_of_ble_eq_true rfl⟩) hT hS hA [1, 3, 0, 4, 2] [] rfl rfl rfl (by decide) (by decide) (fun r14 H locs hB J hS => ?_)
              obtain ⟨v15, b_v15, b_r14, hT1⟩ := hB
              have hT := J _ hT1
              have hT : TP D A [(h0, ob 7 [.ref h1, .ref h2, .int h0f2, .ref h3, .ref h4, .ref h5, .int 0, .ref h6, .int 0, .null, .ref h7, .int h0f11, .ref h8, .ref h9, .ref h10, .ref h11, .ref h12]), (h1, ob 4 [.int h1f0, .int v15, .int h1f2, .ref h13]), (h7, aI (k 0) 8 anI), (h11, aJ (k 1) 9 anJ), (h13, aJ (k 1) 36 anJ)] _ := hT
              exact tz_retI (B := B_cX10_made_71988 D k h0 h1 h7 h11 h13 h2 h3 h4 h5 h6 h8 h9 h10 h12 x1 x2 x3 h0f2 h0f6 h0f8 h0f11 h1f0 h1f1 h1f2) (v := r14) hQ hx hb hr hlocks hS (Nat.le_of_ble_eq_true rfl) (Nat.le_of_ble_eq_true rfl) dX10_made_84 (⟨0, 0, v15, (by have := li_0; omega), (by have := li_0; omega), (by have := li_0; omega), (by have := li_0; omega), hT⟩)
            · skip
              have c_13 := ni_eq c_13 rfl li_0
              refine lv_bipush (v := (-16)) hx hb dX10_made_77 (by decide) ?_
              exact tz_retI (B := B_cX10_made_71988 D k h0 h1 h7 h11 h13 h2 h3 h4 h5 h6 h8 h9 h10 h12 x1 x2 x3 h0f2 h0f6 h0f8 h0f11 h1f0 h1f1 h1f2) (v := (-16)) hQ hx hb hr hlocks hS (Nat.le_of_ble_eq_true rfl) (Nat.le_of_ble_eq_true rfl) dX10_made_79 (⟨h0f6, h0f8, h1f1, (by have := li_m16; omega), (by have := li_m16; omega), (by have := li_m16; omega), (by have := li_m16; omega), (hT.sub [1, 3, 0, 4, 2] (by decide) rfl)⟩)
          · skip
            have hT := J _ hT1
            have hT : TP D A [(h0, ob 7 [.ref h1, .ref h2, .int h0f2, .ref h3, .ref h4, .ref h5, .int h0f6, .ref h6, .int h0f8, .null, .ref h7, .int h0f11, .ref h8, .ref h9, .ref h10, .ref h11, .ref h12]), (h7, aI (k 0) 8 anI), (h11, aJ (k 1) 9 anJ), (h13, aJ (k 1) 36 anJ), (h1, ob 4 [.int h1f0, .int h1f1, .int h1f2, .ref h13])] _ := hT
            refine lv_if_eq (tgt := 50) hx hb dX10_made_44 (by decide) (fun cc => absurd cc (by decide +kernel)) (fun _ => ?_)
            refine lv_bipush (v := (-2)) hx hb dX10_made_47 (by decide) ?_
            exact tz_retI (B := B_cX10_made_71988 D k h0 h1 h7 h11 h13 h2 h3 h4 h5 h6 h8 h9 h10 h12 x1 x2 x3 h0f2 h0f6 h0f8 h0f11 h1f0 h1f1 h1f2) (v := (-2)) hQ hx hb hr hlocks hS (Nat.le_of_ble_eq_true rfl) (Nat.le_of_ble_eq_true rfl) dX10_made_49 (⟨h0f6, h0f8, h1f1, (by have := li_m2; omega), (by have := li_m2; omega), (by have := li_m2; omega), (by have := li_m2; omega), (hT.sub [0, 4, 1, 2, 3] (by decide) rfl)⟩)
        · skip
          have c_6 := ni_eq c_6 rfl li_0
          refine lv_aload_n hx hb dX10_made_24 rfl (lv_at hl 0 rfl) ?_
          refine tz_get (ci := 7) (v := .ref h1) (C := RX10) (F := TX10) (N := 17) hx hb hU iX10 hown hK hT 0 rfl rfl 0 (by decide) w249 (fun _ h9 => h9) rfl dX10_made_25 ?_
          refine lv_iload_n hx hb dX10_made_28 rfl (lv_at hl 3 rfl) ?_
          refine tcI (Tc := [(h1, ob 4 [.int h1f0, .int h1f1, .int h1f2, .ref h13])]) (Tr := [(h0, ob 7 [.ref h1, .ref h2, .int h0f2, .ref h3, .ref h4, .ref h5, .int h0f6, .ref h6, .int h0f8, .null, .ref h7, .int h0f11, .ref h8, .ref h9, .ref h10, .ref h11, .ref h12]), (h7, aI (k 0) 8 anI), (h11, aJ (k 1) 9 anJ), (h13, aJ (k 1) 36 anJ)]) (as := [h1]) (zcV (q0 := 4) (ci := 4) (As := [.int x3]) (rest := []) (Tc := [(h1, ob 4 [.int h1f0, .int h1f1, .int h1f2, .ref h13])]) hx hb hml hown hU hK hT rfl rfl [4] rfl (by decide) (cX5_has_64567 l D k _ h1 h13 x3 h1f0 h1f1 h1f2 (by omega) (by omega)) w356 w353 w354 w355 w64 hdX5_has ⟨rfl, rfl⟩ ⟨Nat.le_of_ble_eq_true rfl, Nat.le_of_ble_eq_true rfl⟩ rfl hl.1 (Nat.le_of_ble_eq_true rfl) dX10_made_29 ⟨Nat.le_of_ble_eq_true rfl, Nat.le_of_ble_eq_true rfl⟩) hT hS hA [4] [0, 1, 2, 3] rfl rfl rfl (by decide) (by decide) (fun r16 H locs hB J hS => ?_)
          rcases hB with ⟨rfl, hT1⟩ | ⟨c_17, c_18, rfl, hT1⟩
          · skip
            have hT := J _ hT1
            have hT : TP D A [(h0, ob 7 [.ref h1, .ref h2, .int h0f2, .ref h3, .ref h4, .ref h5, .int h0f6, .ref h6, .int h0f8, .null, .ref h7, .int h0f11, .ref h8, .ref h9, .ref h10, .ref h11, .ref h12]), (h7, aI (k 0) 8 anI), (h11, aJ (k 1) 9 anJ), (h13, aJ (k 1) 36 anJ), (h1, ob 4 [.int h1f0, .int h1f1, .int h1f2, .ref h13])] _ := hT
            refine lv_if_ne (tgt := 37) hx hb dX10_made_32 (by decide) (fun cc => absurd (by decide +kernel) cc) (fun _ => ?_)
            refine lv_iconst (v := (-1)) hx hb dX10_made_35 (by decide) ?_
            exact tz_retI (B := B_cX10_made_71988 D k h0 h1 h7 h11 h13 h2 h3 h4 h5 h6 h8 h9 h10 h12 x1 x2 x3 h0f2 h0f6 h0f8 h0f11 h1f0 h1f1 h1f2) (v := (-1)) hQ hx hb hr hlocks hS (Nat.le_of_ble_eq_true rfl) (Nat.le_of_ble_eq_true rfl) dX10_made_36 (⟨h0f6, h0f8, h1f1, (by have := li_m1; omega), (by have := li_m1; omega), (by have := li_m1; omega), (by have := li_m1; omega), (hT.sub [0, 4, 1, 2, 3] (by decide) rfl)⟩)
          · skip
            have hT := J _ hT1
            have hT : TP D A [(h0, ob 7 [.ref h1, .ref h2, .int h0f2, .ref h3, .ref h4, .ref h5, .int h0f6, .ref h6, .int h0f8, .null, .ref h7, .int h0f11, .ref h8, .ref h9, .ref h10, .ref h11, .ref h12]), (h7, aI (k 0) 8 anI), (h11, aJ (k 1) 9 anJ), (h13, aJ (k 1) 36 anJ), (h1, ob 4 [.int h1f0, .int h1f1, .int h1f2, .ref h13])] _ := hT
            refine lv_if_ne (tgt := 37) hx hb dX10_made_32 (by decide) (fun _ => ?_) (fun cc => absurd cc (by decide +kernel))
            refine lv_aload_n hx hb dX10_made_37 rfl (lv_at hl 0 rfl) ?_
            refine tz_get (ci := 7) (v := .ref h1) (C := RX10) (F := TX10) (N := 17) hx hb hU iX10 hown hK hT 0 rfl rfl 0 (by decide) w249 (fun _ h9 => h9) rfl dX10_made_38 ?_
            refine tcI (Tc := [(h1, ob 4 [.int h1f0, .int h1f1, .int h1f2, .ref h13])]) (Tr := [(h0, ob 7 [.ref h1, .ref h2, .int h0f2, .ref h3, .ref h4, .ref h5, .int h0f6, .ref h6, .int h0f8, .null, .ref h7, .int h0f11, .ref h8, .ref h9, .ref h10, .ref h11, .ref h12]), (h7, aI (k 0) 8 anI), (h11, aJ (k 1) 9 anJ), (h13, aJ (k 1) 36 anJ)]) (as := [h1]) (zcV (q0 := 4) (ci := 4) (As := []) (rest := []) (Tc := [(h1, ob 4 [.int h1f0, .int h1f1, .int h1f2, .ref h13])]) hx hb hml hown hU hK hT rfl rfl [4] rfl (by decide) (cX5_isFull_cc49c l D k _ h1 h13 h1f0 h1f1 h1f2 (by omega) (by omega)) w326 w323 w324 w325 w64 hdX5_isFull ⟨rfl, rfl⟩ ⟨Nat.le_of_ble_eq_true rfl, Nat.le_of_ble_eq_true rfl⟩ rfl hl.1 (Nat.le_of_ble_eq_true rfl) dX10_made_41 ⟨Nat.le_of_ble_eq_true rfl, Nat.le_of_ble_eq_true rfl⟩) hT hS hA [4] [0, 1, 2, 3] rfl rfl rfl (by decide) (by decide) (fun r19 H locs hB J hS => ?_)
            rcases hB with ⟨c_20, rfl, hT1⟩ | ⟨rfl, hT1⟩
            · skip
              have hT := J _ hT1
              have hT : TP D A [(h0, ob 7 [.ref h1, .ref h2, .int h0f2, .ref h3, .ref h4, .ref h5, .int h0f6, .ref h6, .int h0f8, .null, .ref h7, .int h0f11, .ref h8, .ref h9, .ref h10, .ref h11, .ref h12]), (h7, aI (k 0) 8 anI), (h11, aJ (k 1) 9 anJ), (h13, aJ (k 1) 36 anJ), (h1, ob 4 [.int h1f0, .int h1f1, .int h1f2, .ref h13])] _ := hT
              refine lv_if_eq (tgt := 50) hx hb dX10_made_44 (by decide) (fun _ => ?_) (fun cc => absurd (by decide +kernel) cc)
              refine lv_aload_n hx hb dX10_made_50 rfl (lv_at hl 0 rfl) ?_
              refine lv_iload_n hx hb dX10_made_51 rfl (lv_at hl 1 rfl) ?_
              refine lv_iload_n hx hb dX10_made_52 rfl (lv_at hl 2 rfl) ?_
              refine lv_iload_n hx hb dX10_made_53 rfl (lv_at hl 3 rfl) ?_
              refine tcV (Tc := [(h0, ob 7 [.ref h1, .ref h2, .int h0f2, .ref h3, .ref h4, .ref h5, .int h0f6, .ref h6, .int h0f8, .null, .ref h7, .int h0f11, .ref h8, .ref h9, .ref h10, .ref h11, .ref h12]), (h1, ob 4 [.int h1f0, .int h1f1, .int h1f2, .ref h13]), (h11, aJ (k 1) 9 anJ), (h13, aJ (k 1) 36 anJ)]) (Tr := [(h7, aI (k 0) 8 anI)]) (as := [h0, h1, h11, h13]) (zcV (q0 := 0) (ci := 7) (As := [.int x1, .int x2, .int x3]) (rest := []) (Tc := [(h0, ob 7 [.ref h1, .ref h2, .int h0f2, .ref h3, .ref h4, .ref h5, .int h0f6, .ref h6, .int h0f8, .null, .ref h7, .int h0f11, .ref h8, .ref h9, .ref h10, .ref h11, .ref h12]), (h1, ob 4 [.int h1f0, .int h1f1, .int h1f2, .ref h13]), (h11, aJ (k 1) 9 anJ), (h13, aJ (k 1) 36 anJ)]) hx hb hml hown hU hK hT rfl rfl [0, 4, 2, 3] rfl (by decide) (cX10_makeOf_0e41d l D k _ h0 h1 h11 h13 h2 h3 h4 h5 h6 h7 h8 h9 h10 h12 x1 x2 x3 h0f2 h0f6 h0f8 h0f11 h1f0 h1f1 h1f2 (by omega) (by omega) (by omega) (by omega) (by omega) (by omega) (by omega) (by omega) (by omega)) w360 w357 w359 w3 w63 hdX10_makeOf ⟨rfl, rfl⟩ ⟨Nat.le_of_ble_eq_true rfl, Nat.le_of_ble_eq_true rfl⟩ rfl hl.1 (Nat.le_of_ble_eq_true rfl) dX10_made_54 ⟨Nat.le_of_ble_eq_true rfl, Nat.le_of_ble_eq_true rfl⟩) hT hS hA [0, 4, 2, 3] [1] rfl rfl rfl (by decide) (by decide) (fun H locs hB J hS => ?_)
              have hT1 := hB
              have hT := J _ hT1
              have hT : TP D A [(h7, aI (k 0) 8 anI), (h0, ob 7 [.ref h1, .ref h2, .int h0f2, .ref h3, .ref h4, .ref h5, .int h0f6, .ref h6, .int h0f8, .null, .ref h7, .int h0f11, .ref h8, .ref h9, .ref h10, .ref h11, .ref h12]), (h1, ob 4 [.int h1f0, .int h1f1, .int h1f2, .ref h13]), (h11, aJ (k 1) 9 anJ), (h13, aJ (k 1) 36 anJ)] _ := hT
              refine lv_aload_n hx hb dX10_made_57 rfl (lv_at hl 0 rfl) ?_
              refine tz_get (ci := 7) (v := .ref h11) (C := RX10) (F := TX10) (N := 17) hx hb hU iX10 hown hK hT 1 rfl rfl 15 (by decide) w264 (fun _ h9 => h9) rfl dX10_made_58 ?_
              refine lv_aload_n hx hb dX10_made_61 rfl (lv_at hl 0 rfl) ?_
              refine tz_get (ci := 7) (v := .ref h1) (C := RX10) (F := TX10) (N := 17) hx hb hU iX10 hown hK hT 1 rfl rfl 0 (by decide) w249 (fun _ h9 => h9) rfl dX10_made_62 ?_
              refine tcI (Tc := [(h1, ob 4 [.int h1f0, .int h1f1, .int h1f2, .ref h13])]) (Tr := [(h7, aI (k 0) 8 anI), (h0, ob 7 [.ref h1, .ref h2, .int h0f2, .ref h3, .ref h4, .ref h5, .int h0f6, .ref h6, .int h0f8, .null, .ref h7, .int h0f11, .ref h8, .ref h9, .ref h10, .ref h11, .ref h12]), (h11, aJ (k 1) 9 anJ), (h13, aJ (k 1) 36 anJ)]) (as := [h1]) (zcV (q0 := 2) (ci := 4) (As := []) (rest := [.ref h11]) (Tc := [(h1, ob 4 [.int h1f0, .int h1f1, .int h1f2, .ref h13])]) hx hb hml hown hU hK hT rfl rfl [2] rfl (by decide) (cX5_cellCount_642c9 l D k _ h1 h13 h1f0 h1f1 h1f2 (by omega) (by omega)) w385 w382 w383 w384 w64 hdX5_cellCount ⟨rfl, rfl⟩ ⟨Nat.le_of_ble_eq_true rfl, Nat.le_of_ble_eq_true rfl⟩ rfl hl.1 (Nat.le_of_ble_eq_true rfl) dX10_made_65 ⟨Nat.le_of_ble_eq_true rfl, Nat.le_of_ble_eq_true rfl⟩) hT hS hA [2] [0, 1, 3, 4] rfl rfl rfl (by decide) (by decide) (fun r22 H locs hB J hS => ?_)
              obtain ⟨b_r22, hT1⟩ := hB
              have hT := J _ hT1
              have hT : TP D A [(h7, aI (k 0) 8 anI), (h0, ob 7 [.ref h1, .ref h2, .int h0f2, .ref h3, .ref h4, .ref h5, .int h0f6, .ref h6, .int h0f8, .null, .ref h7, .int h0f11, .ref h8, .ref h9, .ref h10, .ref h11, .ref h12]), (h11, aJ (k 1) 9 anJ), (h13, aJ (k 1) 36 anJ), (h1, ob 4 [.int h1f0, .int h1f1, .int h1f2, .ref h13])] _ := hT
              refine lv_ldc2 hx hb hown (hU _ w386) dX10_made_68 ?_
              have q_q24 := ll_99
              refine tcI (Tc := [(h11, aJ (k 1) 9 anJ)]) (Tr := [(h7, aI (k 0) 8 anI), (h0, ob 7 [.ref h1, .ref h2, .int h0f2, .ref h3, .ref h4, .ref h5, .int h0f6, .ref h6, .int h0f8, .null, .ref h7, .int h0f11, .ref h8, .ref h9, .ref h10, .ref h11, .ref h12]), (h13, aJ (k 1) 36 anJ), (h1, ob 4 [.int h1f0, .int h1f1, .int h1f2, .ref h13])]) (as := [h11]) (zcS (As := [.ref h11, .int r22, .long 99]) (rest := []) (Tc := [(h11, aJ (k 1) 9 anJ)]) hx hb hml hown hU hK hT [2] rfl (by decide) (cX7_isWithin_443ab l D k _ h11 r22 (99) (by omega) (by have := ll_99; omega)) w389 w387 w388 w74 hdX7_isWithin ⟨rfl, rfl⟩ ⟨Nat.le_of_ble_eq_true rfl, Nat.le_of_ble_eq_true rfl⟩ rfl hl.1 (Nat.le_of_ble_eq_true rfl) dX10_made_71 ⟨Nat.le_of_ble_eq_true rfl, Nat.le_of_ble_eq_true rfl⟩) hT hS hA [2] [0, 1, 3, 4] rfl rfl rfl (by decide) (by decide) (fun r23 H locs hB J hS => ?_)
              obtain ⟨b_r23, hT1⟩ := hB
              have hT := J _ hT1
              have hT : TP D A [(h7, aI (k 0) 8 anI), (h0, ob 7 [.ref h1, .ref h2, .int h0f2, .ref h3, .ref h4, .ref h5, .int h0f6, .ref h6, .int h0f8, .null, .ref h7, .int h0f11, .ref h8, .ref h9, .ref h10, .ref h11, .ref h12]), (h13, aJ (k 1) 36 anJ), (h1, ob 4 [.int h1f0, .int h1f1, .int h1f2, .ref h13]), (h11, aJ (k 1) 9 anJ)] _ := hT
              refine lv_if_ne (tgt := 80) hx hb dX10_made_74 (by decide) (fun c_25 => ?_) (fun c_25 => ?_)
              · skip
                have c_25 := ni_ne c_25 rfl li_0
                refine lv_aload_n hx hb dX10_made_80 rfl (lv_at hl 0 rfl) ?_
                refine tcI (Tc := [(h0, ob 7 [.ref h1, .ref h2, .int h0f2, .ref h3, .ref h4, .ref h5, .int h0f6, .ref h6, .int h0f8, .null, .ref h7, .int h0f11, .ref h8, .ref h9, .ref h10, .ref h11, .ref h12]), (h1, ob 4 [.int h1f0, .int h1f1, .int h1f2, .ref h13]), (h7, aI (k 0) 8 anI), (h11, aJ (k 1) 9 anJ), (h13, aJ (k 1) 36 anJ)]) (Tr := []) (as := [h0, h1, h7, h11, h13]) (zcV (q0 := 1) (ci := 7) (As := []) (rest := []) (Tc := [(h0, ob 7 [.ref h1, .ref h2, .int h0f2, .ref h3, .ref h4, .ref h5, .int h0f6, .ref h6, .int h0f8, .null, .ref h7, .int h0f11, .ref h8, .ref h9, .ref h10, .ref h11, .ref h12]), (h1, ob 4 [.int h1f0, .int h1f1, .int h1f2, .ref h13]), (h7, aI (k 0) 8 anI), (h11, aJ (k 1) 9 anJ), (h13, aJ (k 1) 36 anJ)]) hx hb hml hown hU hK hT rfl rfl [1, 3, 0, 4, 2] rfl (by decide) (cX10_addSquare_6c1be l D k _ h0 h1 h7 h11 h13 h2 h3 h4 h5 h6 h8 h9 h10 h12 h0f2 h0f6 h0f8 h0f11 h1f0 h1f1 h1f2 (by omega) (by omega) (by omega) (by omega) (by omega) (by omega)) w340 w337 w339 w2 w63 hdX10_addSquare ⟨rfl, rfl⟩ ⟨Nat.le_of_ble_eq_true rfl, Nat.le_of_ble_eq_true rfl⟩ rfl hl.1 (Nat.le_of_ble_eq_true rfl) dX10_made_81 ⟨Nat.le_of_ble_eq_true rfl, Nat.le_of_ble_eq_true rfl⟩) hT hS hA [1, 3, 0, 4, 2] [] rfl rfl rfl (by decide) (by decide) (fun r26 H locs hB J hS => ?_)
                obtain ⟨v27, b_v27, b_r26, hT1⟩ := hB
                have hT := J _ hT1
                have hT : TP D A [(h0, ob 7 [.ref h1, .ref h2, .int h0f2, .ref h3, .ref h4, .ref h5, .int 0, .ref h6, .int 0, .null, .ref h7, .int h0f11, .ref h8, .ref h9, .ref h10, .ref h11, .ref h12]), (h1, ob 4 [.int h1f0, .int v27, .int h1f2, .ref h13]), (h7, aI (k 0) 8 anI), (h11, aJ (k 1) 9 anJ), (h13, aJ (k 1) 36 anJ)] _ := hT
                exact tz_retI (B := B_cX10_made_71988 D k h0 h1 h7 h11 h13 h2 h3 h4 h5 h6 h8 h9 h10 h12 x1 x2 x3 h0f2 h0f6 h0f8 h0f11 h1f0 h1f1 h1f2) (v := r26) hQ hx hb hr hlocks hS (Nat.le_of_ble_eq_true rfl) (Nat.le_of_ble_eq_true rfl) dX10_made_84 (⟨0, 0, v27, (by have := li_0; omega), (by have := li_0; omega), (by have := li_0; omega), (by have := li_0; omega), hT⟩)
              · skip
                have c_25 := ni_eq c_25 rfl li_0
                refine lv_bipush (v := (-16)) hx hb dX10_made_77 (by decide) ?_
                exact tz_retI (B := B_cX10_made_71988 D k h0 h1 h7 h11 h13 h2 h3 h4 h5 h6 h8 h9 h10 h12 x1 x2 x3 h0f2 h0f6 h0f8 h0f11 h1f0 h1f1 h1f2) (v := (-16)) hQ hx hb hr hlocks hS (Nat.le_of_ble_eq_true rfl) (Nat.le_of_ble_eq_true rfl) dX10_made_79 (⟨h0f6, h0f8, h1f1, (by have := li_m16; omega), (by have := li_m16; omega), (by have := li_m16; omega), (by have := li_m16; omega), (hT.sub [1, 3, 0, 4, 2] (by decide) rfl)⟩)
            · skip
              have hT := J _ hT1
              have hT : TP D A [(h0, ob 7 [.ref h1, .ref h2, .int h0f2, .ref h3, .ref h4, .ref h5, .int h0f6, .ref h6, .int h0f8, .null, .ref h7, .int h0f11, .ref h8, .ref h9, .ref h10, .ref h11, .ref h12]), (h7, aI (k 0) 8 anI), (h11, aJ (k 1) 9 anJ), (h13, aJ (k 1) 36 anJ), (h1, ob 4 [.int h1f0, .int h1f1, .int h1f2, .ref h13])] _ := hT
              refine lv_if_eq (tgt := 50) hx hb dX10_made_44 (by decide) (fun cc => absurd cc (by decide +kernel)) (fun _ => ?_)
              refine lv_bipush (v := (-2)) hx hb dX10_made_47 (by decide) ?_
              exact tz_retI (B := B_cX10_made_71988 D k h0 h1 h7 h11 h13 h2 h3 h4 h5 h6 h8 h9 h10 h12 x1 x2 x3 h0f2 h0f6 h0f8 h0f11 h1f0 h1f1 h1f2) (v := (-2)) hQ hx hb hr hlocks hS (Nat.le_of_ble_eq_true rfl) (Nat.le_of_ble_eq_true rfl) dX10_made_49 (⟨h0f6, h0f8, h1f1, (by have := li_m2; omega), (by have := li_m2; omega), (by have := li_m2; omega), (by have := li_m2; omega), (hT.sub [0, 4, 1, 2, 3] (by decide) rfl)⟩)
