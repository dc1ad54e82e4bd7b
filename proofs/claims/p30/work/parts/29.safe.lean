abbrev Rm_cX4_search_9734a : Room := { frames := 2, cells := 0, slots := 0, locals := 45 }
abbrev B_cX4_search_9734a (D : va_G) (k : Nat → ClassId) (h0 h1 h2 h7 h8 h3 h4 h5 h6 : Nat) (h0f8 : Int32) (h0f9 : Int32) (h0f10 : Int32) (h0f11 : Int32) (A : Nat → Prop) (r : Int32) (H : Heap) : Prop := ((-1) ≤ r.toInt ∧ r.toInt ≤ 59) ∧ TP D A [(h0, ob 3 [.ref h2, .ref h3, .ref h4, .ref h5, .ref h6, .ref h7, .ref h8, .ref h1, .int h0f8, .int h0f9, .int h0f10, .int h0f11]), (h1, aJ (k 1) 60 anJ), (h2, aJ (k 1) 180 anJ), (h7, aI (k 0) 128 (rgI (-1) 59)), (h8, aI (k 0) 60 (rgI (-1) 59))] H
set_option maxHeartbeats 4000000 in
set_option maxRecDepth 100000 in
theorem cX4_search_9734a (l : Launch) (D : va_G) (k : Nat → ClassId) (sz : Nat) (h0 h1 h2 h7 h8 h3 h4 h5 h6 : Nat) (h0f8 : Int32) (h0f9 : Int32) (h0f10 : Int32) (h0f11 : Int32) (b_h0f8 : 1 ≤ h0f8.toInt ∧ h0f8.toInt ≤ 3) (b_h0f9 : 60 ≤ h0f9.toInt ∧ h0f9.toInt ≤ 60) (b_h0f10 : 1 ≤ h0f10.toInt ∧ h0f10.toInt ≤ 60) (b_h0f11 : 0 ≤ h0f11.toInt ∧ h0f11.toInt ≤ 1) : Met l yX4_search (Cond.code yX4_search cX4_search 4 (some .int) :: uw) Rm_cX4_search_9734a (pT D k sz [.ref h0, .ref h1] [(h0, ob 3 [.ref h2, .ref h3, .ref h4, .ref h5, .ref h6, .ref h7, .ref h8, .ref h1, .int h0f8, .int h0f9, .int h0f10, .int h0f11]), (h1, aJ (k 1) 60 anJ), (h2, aJ (k 1) 180 anJ), (h7, aI (k 0) 128 (rgI (-1) 59)), (h8, aI (k 0) 60 (rgI (-1) 59))]) (qI (B_cX4_search_9734a D k h0 h1 h2 h7 h8 h3 h4 h5 h6 h0f8 h0f9 h0f10 h0f11 (zA [h0, h1, h2, h7, h8] sz)) (zA [h0, h1, h2, h7, h8] sz)) 0 0 (zA [h0, h1, h2, h7, h8] sz) := by
  refine tz_begin (as := [h0, h1, h2, h7, h8]) (Qc := fun A => qI (B_cX4_search_9734a D k h0 h1 h2 h7 h8 h3 h4 h5 h6 h0f8 h0f9 h0f10 h0f11 A) A) (by decide +kernel) rfl (Nat.le_of_ble_eq_true rfl) ?_
  intro p e s m args below meth c ls A Q hx hb hr hml hown hlocks hin hU hK hT hS hA hl hQ
  have hl : lv_has ls 4 [(0, .ref h0), (1, .ref h1)] := hl
  have hT : TP D A [(h0, ob 3 [.ref h2, .ref h3, .ref h4, .ref h5, .ref h6, .ref h7, .ref h8, .ref h1, .int h0f8, .int h0f9, .int h0f10, .int h0f11]), (h1, aJ (k 1) 60 anJ), (h2, aJ (k 1) 180 anJ), (h7, aI (k 0) 128 (rgI (-1) 59)), (h8, aI (k 0) 60 (rgI (-1) 59))] s.heap := hT
  refine lv_aload_n hx hb dX4_search_0 rfl (lv_at hl 0 rfl) ?_
  refine tz_get (ci := 3) (v := .ref h7) (C := RX4) (F := TX4) (N := 12) hx hb hU iX4 hown hK hT 0 rfl rfl 5 (by decide) w159 (fun _ h9 => h9) rfl dX4_search_1 ?_
  refine lv_aload_n hx hb dX4_search_4 rfl (lv_at hl 0 rfl) ?_
  refine lv_aload_n hx hb dX4_search_5 rfl (lv_at hl 1 rfl) ?_
  refine tcI (Tc := [(h0, ob 3 [.ref h2, .ref h3, .ref h4, .ref h5, .ref h6, .ref h7, .ref h8, .ref h1, .int h0f8, .int h0f9, .int h0f10, .int h0f11]), (h1, aJ (k 1) 60 anJ), (h7, aI (k 0) 128 (rgI (-1) 59))]) (Tr := [(h2, aJ (k 1) 180 anJ), (h8, aI (k 0) 60 (rgI (-1) 59))]) (as := [h0, h1, h7]) (zcV (q0 := 0) (ci := 3) (As := [.ref h1]) (rest := [.ref h7]) (Tc := [(h0, ob 3 [.ref h2, .ref h3, .ref h4, .ref h5, .ref h6, .ref h7, .ref h8, .ref h1, .int h0f8, .int h0f9, .int h0f10, .int h0f11]), (h1, aJ (k 1) 60 anJ), (h7, aI (k 0) 128 (rgI (-1) 59))]) hx hb hml hown hU hK hT rfl rfl [0, 1, 3] rfl (by decide) (cX4_slotOf_11012 l D k _ h0 h1 h7 h2 h3 h4 h5 h6 h8 h0f8 h0f9 h0f10 h0f11 (by omega) (by omega) (by omega) (by omega)) w514 w511 w513 w11 w66 hdX4_slotOf ⟨rfl, rfl⟩ ⟨Nat.le_of_ble_eq_true rfl, Nat.le_of_ble_eq_true rfl⟩ rfl hl.1 (Nat.le_of_ble_eq_true rfl) dX4_search_6 ⟨Nat.le_of_ble_eq_true rfl, Nat.le_of_ble_eq_true rfl⟩) hT hS hA [0, 1, 3] [2, 4] rfl rfl rfl (by decide) (by decide) (fun r1 H locs hB J hS => ?_)
  obtain ⟨b_r1, hT1⟩ := hB
  have hT := J _ hT1
  have hT : TP D A [(h2, aJ (k 1) 180 anJ), (h8, aI (k 0) 60 (rgI (-1) 59)), (h0, ob 3 [.ref h2, .ref h3, .ref h4, .ref h5, .ref h6, .ref h7, .ref h8, .ref h1, .int h0f8, .int h0f9, .int h0f10, .int h0f11]), (h1, aJ (k 1) 60 anJ), (h7, aI (k 0) 128 (rgI (-1) 59))] H := hT
  refine tz_iald hx hb hK hT 4 rfl (by omega) dX4_search_9 (fun v2 e_v2 => ?_)
  have e_v2 := rg_get e_v2
  refine lv_istore_n (lv' := [(2, .int v2), (0, .ref h0), (1, .ref h1)]) hx hb dX4_search_10 rfl hl (by decide) rfl (fun ls hl => ?_)
  refine lv_iconst (v := 0) hx hb dX4_search_11 (by decide) ?_
  refine lv_istore_n (lv' := [(3, .int 0), (2, .int v2), (0, .ref h0), (1, .ref h1)]) hx hb dX4_search_12 rfl hl (by decide) rfl (fun ls hl => ?_)
  have lp13_25 : ∀ (n : Nat) (y23 : Int32) (y24 : Int32) (H : Heap) (locs : List Loc) (ls : Array Slot), (0 ≤ y23.toInt ∧ y23.toInt ≤ 60) → ((-1) ≤ y24.toInt ∧ y24.toInt ≤ 59) → (h0f10.toInt + (-1) * y23.toInt + 1).toNat < n → TP D A [(h2, aJ (k 1) 180 anJ), (h8, aI (k 0) 60 (rgI (-1) 59)), (h0, ob 3 [.ref h2, .ref h3, .ref h4, .ref h5, .ref h6, .ref h7, .ref h8, .ref h1, .int h0f8, .int h0f9, .int h0f10, .int h0f11]), (h1, aJ (k 1) 60 anJ), (h7, aI (k 0) 128 (rgI (-1) 59))] H → va_S A s.heap H locs → lv_has ls 4 [(0, .ref h0), (1, .ref h1), (2, .int y24), (3, .int y23)] → W p l e Rm_cX4_search_9734a s m args below meth c H locs 0 0 Q (F0 m 13 ls []) := by
    intro n
    induction n with
    | zero => intro y23 y24 H locs ls b_y23 b_y24 hm hT hS hl; exact absurd hm (Nat.not_lt_zero _)
    | succ n ih =>
      intro y23 y24 H locs ls b_y23 b_y24 hm hT hS hl
      have ih13_25 := ih
      clear ih
      refine lv_iload_n hx hb dX4_search_13 rfl (lv_at hl 3 rfl) ?_
      refine lv_aload_n hx hb dX4_search_14 rfl (lv_at hl 0 rfl) ?_
      refine tz_get (ci := 3) (v := .int h0f10) (C := RX4) (F := TX4) (N := 12) hx hb hU iX4 hown hK hT 2 rfl rfl 10 (by decide) w164 (fun _ h9 => h9) rfl dX4_search_15 ?_
      refine lv_icmp_ge (tgt := 49) hx hb dX4_search_18 (by decide) (fun c_26 => ?_) (fun c_26 => ?_)
      · skip
        have c_26 := ni_le c_26 rfl rfl
        refine lv_iconst (v := (-1)) hx hb dX4_search_49 (by decide) ?_
        exact tz_retI (B := B_cX4_search_9734a D k h0 h1 h2 h7 h8 h3 h4 h5 h6 h0f8 h0f9 h0f10 h0f11) (v := (-1)) hQ hx hb hr hlocks hS (Nat.le_of_ble_eq_true rfl) (Nat.le_of_ble_eq_true rfl) dX4_search_50 (⟨(by have := li_m1; omega), (hT.sub [2, 3, 0, 4, 1] (by decide) rfl)⟩)
      · skip
        have c_26 := ni_nle c_26 rfl rfl
        refine lv_iload_n hx hb dX4_search_21 rfl (lv_at hl 2 rfl) ?_
        refine lv_if_lt (tgt := 49) hx hb dX4_search_22 (by decide) (fun c_27 => ?_) (fun c_27 => ?_)
        · skip
          have c_27 := ni_lt c_27 rfl li_0
          refine lv_iconst (v := (-1)) hx hb dX4_search_49 (by decide) ?_
          exact tz_retI (B := B_cX4_search_9734a D k h0 h1 h2 h7 h8 h3 h4 h5 h6 h0f8 h0f9 h0f10 h0f11) (v := (-1)) hQ hx hb hr hlocks hS (Nat.le_of_ble_eq_true rfl) (Nat.le_of_ble_eq_true rfl) dX4_search_50 (⟨(by have := li_m1; omega), (hT.sub [2, 3, 0, 4, 1] (by decide) rfl)⟩)
        · skip
          have c_27 := ni_nlt c_27 rfl li_0
          refine lv_aload_n hx hb dX4_search_25 rfl (lv_at hl 0 rfl) ?_
          refine lv_iload_n hx hb dX4_search_26 rfl (lv_at hl 2 rfl) ?_
          refine lv_aload_n hx hb dX4_search_27 rfl (lv_at hl 1 rfl) ?_
          refine tcI (Tc := [(h0, ob 3 [.ref h2, .ref h3, .ref h4, .ref h5, .ref h6, .ref h7, .ref h8, .ref h1, .int h0f8, .int h0f9, .int h0f10, .int h0f11]), (h1, aJ (k 1) 60 anJ), (h2, aJ (k 1) 180 anJ)]) (Tr := [(h8, aI (k 0) 60 (rgI (-1) 59)), (h7, aI (k 0) 128 (rgI (-1) 59))]) (as := [h0, h1, h2]) (zcV (q0 := 2) (ci := 3) (As := [.int y24, .ref h1]) (rest := []) (Tc := [(h0, ob 3 [.ref h2, .ref h3, .ref h4, .ref h5, .ref h6, .ref h7, .ref h8, .ref h1, .int h0f8, .int h0f9, .int h0f10, .int h0f11]), (h1, aJ (k 1) 60 anJ), (h2, aJ (k 1) 180 anJ)]) hx hb hml hown hU hK hT rfl rfl [2, 3, 0] rfl (by decide) (cX4_isRow_67fb4 l D k _ h0 h1 h2 h3 h4 h5 h6 h7 h8 y24 h0f8 h0f9 h0f10 h0f11 (by omega) (by omega) (by omega) (by omega) (by omega)) w559 w556 w558 w13 w66 hdX4_isRow ⟨rfl, rfl⟩ ⟨Nat.le_of_ble_eq_true rfl, Nat.le_of_ble_eq_true rfl⟩ rfl hl.1 (Nat.le_of_ble_eq_true rfl) dX4_search_28 ⟨Nat.le_of_ble_eq_true rfl, Nat.le_of_ble_eq_true rfl⟩) hT hS hA [2, 3, 0] [1, 4] rfl rfl rfl (by decide) (by decide) (fun r28 H locs hB J hS => ?_)
          obtain ⟨b_r28, hT1⟩ := hB
          have hT := J _ hT1
          have hT : TP D A [(h8, aI (k 0) 60 (rgI (-1) 59)), (h7, aI (k 0) 128 (rgI (-1) 59)), (h0, ob 3 [.ref h2, .ref h3, .ref h4, .ref h5, .ref h6, .ref h7, .ref h8, .ref h1, .int h0f8, .int h0f9, .int h0f10, .int h0f11]), (h1, aJ (k 1) 60 anJ), (h2, aJ (k 1) 180 anJ)] H := hT
          refine lv_if_eq (tgt := 36) hx hb dX4_search_31 (by decide) (fun c_29 => ?_) (fun c_29 => ?_)
          · skip
            have c_29 := ni_eq c_29 rfl li_0
            refine lv_aload_n hx hb dX4_search_36 rfl (lv_at hl 0 rfl) ?_
            refine tz_get (ci := 3) (v := .ref h8) (C := RX4) (F := TX4) (N := 12) hx hb hU iX4 hown hK hT 2 rfl rfl 6 (by decide) w160 (fun _ h9 => h9) rfl dX4_search_37 ?_
            refine lv_iload_n hx hb dX4_search_40 rfl (lv_at hl 2 rfl) ?_
            refine tz_iald hx hb hK hT 0 rfl (by omega) dX4_search_41 (fun v30 e_v30 => ?_)
            have e_v30 := rg_get e_v30
            refine lv_istore_n (lv' := [(2, .int v30), (0, .ref h0), (1, .ref h1), (3, .int y23)]) hx hb dX4_search_42 rfl hl (by decide) rfl (fun ls hl => ?_)
            obtain ⟨v31, e_v31⟩ : ∃ x : Int32, x = y23 + Int32.ofInt 1 := ⟨_, rfl⟩
            have f_v31 := e_v31.symm
            have e_v31 : v31.toInt = y23.toInt + 1 := ai_add e_v31 rfl (show (Int32.ofInt 1).toInt = 1 from (by decide +kernel)) (by omega)
            refine lv_iinc (v := v31) (lv' := [(3, .int v31), (2, .int v30), (0, .ref h0), (1, .ref h1)]) hx hb dX4_search_43 hl (k := 3) rfl f_v31 (by decide) rfl (fun ls hl => ?_)
            refine lv_goto (tgt := 13) hx hb dX4_search_46 (by decide) ?_
            exact ih13_25 v31 v30 _ _ _ (by omega) (by omega)  (by omega) (hT.sub [4, 0, 2, 3, 1] (by decide) rfl) hS (lv_sub hl [2, 3, 1, 0] rfl)
          · skip
            have c_29 := ni_ne c_29 rfl li_0
            refine lv_iload_n hx hb dX4_search_34 rfl (lv_at hl 2 rfl) ?_
            exact tz_retI (B := B_cX4_search_9734a D k h0 h1 h2 h7 h8 h3 h4 h5 h6 h0f8 h0f9 h0f10 h0f11) (v := y24) hQ hx hb hr hlocks hS (Nat.le_of_ble_eq_true rfl) (Nat.le_of_ble_eq_true rfl) dX4_search_35 (⟨(by omega), (hT.sub [2, 3, 4, 1, 0] (by decide) rfl)⟩)
  exact lp13_25 ((h0f10.toInt + (-1) * (0 : Int32).toInt + 1).toNat + 1) (0) v2 _ _ _ (by have := li_0; omega) (by have := li_0; omega)  (Nat.lt_succ_self _) hT hS (lv_sub hl [2, 3, 1, 0] rfl)
abbrev Rm_cX4_append_27b4f : Room := { frames := 1, cells := 0, slots := 0, locals := 26 }
abbrev B_cX4_append_27b4f (D : va_G) (k : Nat → ClassId) (h0 h1 h2 h3 h4 h5 h7 h8 h6 : Nat) (x2 : Int32) (x3 : Int32) (h0f8 : Int32) (h0f9 : Int32) (h0f10 : Int32) (h0f11 : Int32) (A : Nat → Prop) (r : Int32) (H : Heap) : Prop := ∃ o0 : Int32, (2 ≤ o0.toInt ∧ o0.toInt ≤ 60) ∧ ((-1) ≤ r.toInt ∧ r.toInt ≤ 59) ∧ TP D A [(h0, ob 3 [.ref h2, .ref h3, .ref h4, .ref h5, .ref h6, .ref h7, .ref h8, .ref h1, .int h0f8, .int h0f9, .int o0, .int h0f11]), (h1, aJ (k 1) 60 anJ), (h2, aJ (k 1) 180 anJ), (h3, aI (k 0) 60 anI), (h4, aI (k 0) 60 anI), (h5, aI (k 0) 60 anI), (h7, aI (k 0) 128 (rgI (-1) 59)), (h8, aI (k 0) 60 (rgI (-1) 59))] H
set_option maxHeartbeats 4000000 in
set_option maxRecDepth 100000 in
theorem cX4_append_27b4f (l : Launch) (D : va_G) (k : Nat → ClassId) (sz : Nat) (h0 h1 h2 h3 h4 h5 h7 h8 h6 : Nat) (x2 : Int32) (x3 : Int32) (h0f8 : Int32) (h0f9 : Int32) (h0f10 : Int32) (h0f11 : Int32) (b_x2 : 0 ≤ x2.toInt ∧ x2.toInt ≤ 59) (b_x3 : 0 ≤ x3.toInt ∧ x3.toInt ≤ 3) (b_h0f8 : 1 ≤ h0f8.toInt ∧ h0f8.toInt ≤ 3) (b_h0f9 : 60 ≤ h0f9.toInt ∧ h0f9.toInt ≤ 60) (b_h0f10 : 1 ≤ h0f10.toInt ∧ h0f10.toInt ≤ 60) (b_h0f11 : 0 ≤ h0f11.toInt ∧ h0f11.toInt ≤ 1) : Met l yX4_append (Cond.code yX4_append cX4_append 6 (some .int) :: uw) Rm_cX4_append_27b4f (pT D k sz [.ref h0, .ref h1, .int x2, .int x3] [(h0, ob 3 [.ref h2, .ref h3, .ref h4, .ref h5, .ref h6, .ref h7, .ref h8, .ref h1, .int h0f8, .int h0f9, .int h0f10, .int h0f11]), (h1, aJ (k 1) 60 anJ), (h2, aJ (k 1) 180 anJ), (h3, aI (k 0) 60 anI), (h4, aI (k 0) 60 anI), (h5, aI (k 0) 60 anI), (h7, aI (k 0) 128 (rgI (-1) 59)), (h8, aI (k 0) 60 (rgI (-1) 59))]) (qI (B_cX4_append_27b4f D k h0 h1 h2 h3 h4 h5 h7 h8 h6 x2 x3 h0f8 h0f9 h0f10 h0f11 (zA [h0, h1, h2, h3, h4, h5, h7, h8] sz)) (zA [h0, h1, h2, h3, h4, h5, h7, h8] sz)) 0 0 (zA [h0, h1, h2, h3, h4, h5, h7, h8] sz) := by
  refine tz_begin (as := [h0, h1, h2, h3, h4, h5, h7, h8]) (Qc := fun A => qI (B_cX4_append_27b4f D k h0 h1 h2 h3 h4 h5 h7 h8 h6 x2 x3 h0f8 h0f9 h0f10 h0f11 A) A) (by decide +kernel) rfl (Nat.le_of_ble_eq_true rfl) ?_
  intro p e s m args below meth c ls A Q hx hb hr hml hown hlocks hin hU hK hT hS hA hl hQ
  have hl : lv_has ls 6 [(0, .ref h0), (1, .ref h1), (2, .int x2), (3, .int x3)] := hl
  have hT : TP D A [(h0, ob 3 [.ref h2, .ref h3, .ref h4, .ref h5, .ref h6, .ref h7, .ref h8, .ref h1, .int h0f8, .int h0f9, .int h0f10, .int h0f11]), (h1, aJ (k 1) 60 anJ), (h2, aJ (k 1) 180 anJ), (h3, aI (k 0) 60 anI), (h4, aI (k 0) 60 anI), (h5, aI (k 0) 60 anI), (h7, aI (k 0) 128 (rgI (-1) 59)), (h8, aI (k 0) 60 (rgI (-1) 59))] s.heap := hT
  refine lv_aload_n hx hb dX4_append_0 rfl (lv_at hl 0 rfl) ?_
  refine tz_get (ci := 3) (v := .int h0f10) (C := RX4) (F := TX4) (N := 12) hx hb hU iX4 hown hK hT 0 rfl rfl 10 (by decide) w164 (fun _ h9 => h9) rfl dX4_append_1 ?_
  refine lv_aload_n hx hb dX4_append_4 rfl (lv_at hl 0 rfl) ?_
  refine tz_get (ci := 3) (v := .int h0f9) (C := RX4) (F := TX4) (N := 12) hx hb hU iX4 hown hK hT 0 rfl rfl 9 (by decide) w163 (fun _ h9 => h9) rfl dX4_append_5 ?_
  refine lv_icmp_lt (tgt := 13) hx hb dX4_append_8 (by decide) (fun c_1 => ?_) (fun c_1 => ?_)
  · skip
    have c_1 := ni_lt c_1 rfl rfl
    refine lv_aload_n hx hb dX4_append_13 rfl (lv_at hl 0 rfl) ?_
    refine tz_get (ci := 3) (v := .int h0f10) (C := RX4) (F := TX4) (N := 12) hx hb hU iX4 hown hK hT 0 rfl rfl 10 (by decide) w164 (fun _ h9 => h9) rfl dX4_append_14 ?_
    refine lv_istore (lv' := [(4, .int h0f10), (0, .ref h0), (1, .ref h1), (2, .int x2), (3, .int x3)]) hx hb dX4_append_17 hl (by decide) rfl (fun ls hl => ?_)
    refine lv_aload_n hx hb dX4_append_19 rfl (lv_at hl 2 rfl) ?_
    refine lv_iconst (v := 0) hx hb dX4_append_20 (by decide) ?_
    refine lv_aload_n hx hb dX4_append_21 rfl (lv_at hl 1 rfl) ?_
    refine tz_get (ci := 3) (v := .ref h2) (C := RX4) (F := TX4) (N := 12) hx hb hU iX4 hown hK hT 0 rfl rfl 0 (by decide) w149 (fun _ h9 => h9) rfl dX4_append_22 ?_
    refine lv_aload_n hx hb dX4_append_25 rfl (lv_at hl 1 rfl) ?_
    refine lv_iload hx hb dX4_append_26 (lv_at hl 0 rfl) ?_
    refine tcI (Tc := [(h0, ob 3 [.ref h2, .ref h3, .ref h4, .ref h5, .ref h6, .ref h7, .ref h8, .ref h1, .int h0f8, .int h0f9, .int h0f10, .int h0f11])]) (Tr := [(h1, aJ (k 1) 60 anJ), (h2, aJ (k 1) 180 anJ), (h3, aI (k 0) 60 anI), (h4, aI (k 0) 60 anI), (h5, aI (k 0) 60 anI), (h7, aI (k 0) 128 (rgI (-1) 59)), (h8, aI (k 0) 60 (rgI (-1) 59))]) (as := [h0]) (zcV (q0 := 0) (ci := 3) (As := [.int h0f10]) (rest := [.ref h2, .int 0, .ref h1]) (Tc := [(h0, ob 3 [.ref h2, .ref h3, .ref h4, .ref h5, .ref h6, .ref h7, .ref h8, .ref h1, .int h0f8, .int h0f9, .int h0f10, .int h0f11])]) hx hb hml hown hU hK hT rfl rfl [0] rfl (by decide) (cX4_start_cf782 l D k _ h0 h2 h3 h4 h5 h6 h7 h8 h1 h0f10 h0f8 h0f9 h0f10 h0f11 (by omega) (by omega) (by omega) (by omega) (by omega)) w505 w502 w503 w504 w66 hdX4_start ⟨rfl, rfl⟩ ⟨Nat.le_of_ble_eq_true rfl, Nat.le_of_ble_eq_true rfl⟩ rfl hl.1 (Nat.le_of_ble_eq_true rfl) dX4_append_28 ⟨Nat.le_of_ble_eq_true rfl, Nat.le_of_ble_eq_true rfl⟩) hT hS hA [0] [1, 2, 3, 4, 5, 6, 7] rfl rfl rfl (by decide) (by decide) (fun r2 H locs hB J hS => ?_)
    obtain ⟨b_r2, hT1⟩ := hB
    have hT := J _ hT1
    have hT : TP D A [(h1, aJ (k 1) 60 anJ), (h2, aJ (k 1) 180 anJ), (h3, aI (k 0) 60 anI), (h4, aI (k 0) 60 anI), (h5, aI (k 0) 60 anI), (h7, aI (k 0) 128 (rgI (-1) 59)), (h8, aI (k 0) 60 (rgI (-1) 59)), (h0, ob 3 [.ref h2, .ref h3, .ref h4, .ref h5, .ref h6, .ref h7, .ref h8, .ref h1, .int h0f8, .int h0f9, .int h0f10, .int h0f11])] H := hT
    refine lv_aload_n hx hb dX4_append_31 rfl (lv_at hl 1 rfl) ?_
    refine tz_get (ci := 3) (v := .int h0f8) (C := RX4) (F := TX4) (N := 12) hx hb hU iX4 hown hK hT 7 rfl rfl 8 (by decide) w162 (fun _ h9 => h9) rfl dX4_append_32 ?_
    refine tz_copyl hx hb (by rw [hml]; exact hl.1.symm) hown hU w506 w348 w347 w75 hK hT hS 0 1 rfl rfl (by have := li_0; omega) (fun _ _ _ _ => trivial) (Nat.le_of_ble_eq_true rfl) (Nat.le_of_ble_eq_true rfl) dX4_append_35 (fun H locs hT hS => ?_)
    refine lv_aload_n hx hb dX4_append_38 rfl (lv_at hl 1 rfl) ?_
    refine tz_get (ci := 3) (v := .ref h3) (C := RX4) (F := TX4) (N := 12) hx hb hU iX4 hown hK hT 7 rfl rfl 1 (by decide) w151 (fun _ h9 => h9) rfl dX4_append_39 ?_
    refine lv_iload hx hb dX4_append_42 (lv_at hl 0 rfl) ?_
    refine lv_iload_n hx hb dX4_append_44 rfl (lv_at hl 3 rfl) ?_
    refine tz_iast hx hb hK hT hS 2 rfl (by omega) (fun _ _ => trivial) dX4_append_45 (fun H locs hT hS => ?_)
    refine lv_aload_n hx hb dX4_append_46 rfl (lv_at hl 1 rfl) ?_
    refine tz_get (ci := 3) (v := .ref h4) (C := RX4) (F := TX4) (N := 12) hx hb hU iX4 hown hK hT 7 rfl rfl 2 (by decide) w153 (fun _ h9 => h9) rfl dX4_append_47 ?_
    refine lv_iload hx hb dX4_append_50 (lv_at hl 0 rfl) ?_
    refine lv_iload_n hx hb dX4_append_52 rfl (lv_at hl 4 rfl) ?_
    refine tz_iast hx hb hK hT hS 3 rfl (by omega) (fun _ _ => trivial) dX4_append_53 (fun H locs hT hS => ?_)
    refine lv_aload_n hx hb dX4_append_54 rfl (lv_at hl 1 rfl) ?_
    refine tz_get (ci := 3) (v := .ref h5) (C := RX4) (F := TX4) (N := 12) hx hb hU iX4 hown hK hT 7 rfl rfl 3 (by decide) w155 (fun _ h9 => h9) rfl dX4_append_55 ?_
    refine lv_iload hx hb dX4_append_58 (lv_at hl 0 rfl) ?_
    refine lv_aload_n hx hb dX4_append_60 rfl (lv_at hl 1 rfl) ?_
    refine lv_iload_n hx hb dX4_append_61 rfl (lv_at hl 3 rfl) ?_
    refine tcI (Tc := [(h0, ob 3 [.ref h2, .ref h3, .ref h4, .ref h5, .ref h6, .ref h7, .ref h8, .ref h1, .int h0f8, .int h0f9, .int h0f10, .int h0f11])]) (Tr := [(h1, aJ (k 1) 60 anJ), (h2, aJ (k 1) 180 anJ), (h3, aI (k 0) 60 anI), (h4, aI (k 0) 60 anI), (h5, aI (k 0) 60 anI), (h7, aI (k 0) 128 (rgI (-1) 59)), (h8, aI (k 0) 60 (rgI (-1) 59))]) (as := [h0]) (zcV (q0 := 7) (ci := 3) (As := [.int x2]) (rest := [.int h0f10, .ref h5]) (Tc := [(h0, ob 3 [.ref h2, .ref h3, .ref h4, .ref h5, .ref h6, .ref h7, .ref h8, .ref h1, .int h0f8, .int h0f9, .int h0f10, .int h0f11])]) hx hb hml hown hU hK hT rfl rfl [7] rfl (by decide) (cX4_has_e732f l D k _ h0 h2 h3 h4 h5 h6 h7 h8 h1 x2 h0f8 h0f9 h0f10 h0f11 (by omega) (by omega) (by omega) (by omega)) w510 w507 w508 w509 w66 hdX4_has ⟨rfl, rfl⟩ ⟨Nat.le_of_ble_eq_true rfl, Nat.le_of_ble_eq_true rfl⟩ rfl hl.1 (Nat.le_of_ble_eq_true rfl) dX4_append_62 ⟨Nat.le_of_ble_eq_true rfl, Nat.le_of_ble_eq_true rfl⟩) hT hS hA [7] [0, 1, 2, 3, 4, 5, 6] rfl rfl rfl (by decide) (by decide) (fun r3 H locs hB J hS => ?_)
    rcases hB with ⟨rfl, hT1⟩ | ⟨c_4, c_5, rfl, hT1⟩
    · skip
      have hT := J _ hT1
      have hT : TP D A [(h1, aJ (k 1) 60 anJ), (h2, aJ (k 1) 180 anJ), (h3, aI (k 0) 60 anI), (h4, aI (k 0) 60 anI), (h5, aI (k 0) 60 anI), (h7, aI (k 0) 128 (rgI (-1) 59)), (h8, aI (k 0) 60 (rgI (-1) 59)), (h0, ob 3 [.ref h2, .ref h3, .ref h4, .ref h5, .ref h6, .ref h7, .ref h8, .ref h1, .int h0f8, .int h0f9, .int h0f10, .int h0f11])] H := hT
      refine lv_if_eq (tgt := 79) hx hb dX4_append_65 (by decide) (fun _ => ?_) (fun cc => absurd (by decide +kernel) cc)
      refine lv_iconst (v := 0) hx hb dX4_append_79 (by decide) ?_
      refine tz_iast hx hb hK hT hS 4 rfl (by omega) (fun _ _ => trivial) dX4_append_80 (fun H locs hT hS => ?_)
      refine lv_aload_n hx hb dX4_append_81 rfl (lv_at hl 1 rfl) ?_
      refine lv_aload_n hx hb dX4_append_82 rfl (lv_at hl 2 rfl) ?_
      refine tcI (Tc := [(h0, ob 3 [.ref h2, .ref h3, .ref h4, .ref h5, .ref h6, .ref h7, .ref h8, .ref h1, .int h0f8, .int h0f9, .int h0f10, .int h0f11]), (h1, aJ (k 1) 60 anJ), (h7, aI (k 0) 128 (rgI (-1) 59))]) (Tr := [(h2, aJ (k 1) 180 anJ), (h3, aI (k 0) 60 anI), (h4, aI (k 0) 60 anI), (h5, aI (k 0) 60 anI), (h8, aI (k 0) 60 (rgI (-1) 59))]) (as := [h0, h1, h7]) (zcV (q0 := 7) (ci := 3) (As := [.ref h1]) (rest := []) (Tc := [(h0, ob 3 [.ref h2, .ref h3, .ref h4, .ref h5, .ref h6, .ref h7, .ref h8, .ref h1, .int h0f8, .int h0f9, .int h0f10, .int h0f11]), (h1, aJ (k 1) 60 anJ), (h7, aI (k 0) 128 (rgI (-1) 59))]) hx hb hml hown hU hK hT rfl rfl [7, 0, 5] rfl (by decide) (cX4_slotOf_11012 l D k _ h0 h1 h7 h2 h3 h4 h5 h6 h8 h0f8 h0f9 h0f10 h0f11 (by omega) (by omega) (by omega) (by omega)) w514 w511 w513 w11 w66 hdX4_slotOf ⟨rfl, rfl⟩ ⟨Nat.le_of_ble_eq_true rfl, Nat.le_of_ble_eq_true rfl⟩ rfl hl.1 (Nat.le_of_ble_eq_true rfl) dX4_append_83 ⟨Nat.le_of_ble_eq_true rfl, Nat.le_of_ble_eq_true rfl⟩) hT hS hA [7, 0, 5] [1, 2, 3, 4, 6] rfl rfl rfl (by decide) (by decide) (fun r6 H locs hB J hS => ?_)
      obtain ⟨b_r6, hT1⟩ := hB
      have hT := J _ hT1
      have hT : TP D A [(h2, aJ (k 1) 180 anJ), (h3, aI (k 0) 60 anI), (h4, aI (k 0) 60 anI), (h5, aI (k 0) 60 anI), (h8, aI (k 0) 60 (rgI (-1) 59)), (h0, ob 3 [.ref h2, .ref h3, .ref h4, .ref h5, .ref h6, .ref h7, .ref h8, .ref h1, .int h0f8, .int h0f9, .int h0f10, .int h0f11]), (h1, aJ (k 1) 60 anJ), (h7, aI (k 0) 128 (rgI (-1) 59))] H := hT
      refine lv_istore (lv' := [(5, .int r6), (4, .int h0f10), (0, .ref h0), (1, .ref h1), (2, .int x2), (3, .int x3)]) hx hb dX4_append_86 hl (by decide) rfl (fun ls hl => ?_)
      refine lv_aload_n hx hb dX4_append_88 rfl (lv_at hl 2 rfl) ?_
      refine tz_get (ci := 3) (v := .ref h8) (C := RX4) (F := TX4) (N := 12) hx hb hU iX4 hown hK hT 5 rfl rfl 6 (by decide) w160 (fun _ h9 => h9) rfl dX4_append_89 ?_
      refine lv_iload hx hb dX4_append_92 (lv_at hl 1 rfl) ?_
      refine lv_aload_n hx hb dX4_append_94 rfl (lv_at hl 2 rfl) ?_
      refine tz_get (ci := 3) (v := .ref h7) (C := RX4) (F := TX4) (N := 12) hx hb hU iX4 hown hK hT 5 rfl rfl 5 (by decide) w159 (fun _ h9 => h9) rfl dX4_append_95 ?_
      refine lv_iload hx hb dX4_append_98 (lv_at hl 0 rfl) ?_
      refine tz_iald hx hb hK hT 7 rfl (by omega) dX4_append_100 (fun v7 e_v7 => ?_)
      have e_v7 := rg_get e_v7
      refine tz_iast hx hb hK hT hS 4 rfl (by omega) (rg_put (by omega)) dX4_append_101 (fun H locs hT hS => ?_)
      refine lv_aload_n hx hb dX4_append_102 rfl (lv_at hl 2 rfl) ?_
      refine tz_get (ci := 3) (v := .ref h7) (C := RX4) (F := TX4) (N := 12) hx hb hU iX4 hown hK hT 5 rfl rfl 5 (by decide) w159 (fun _ h9 => h9) rfl dX4_append_103 ?_
      refine lv_iload hx hb dX4_append_106 (lv_at hl 0 rfl) ?_
      refine lv_iload hx hb dX4_append_108 (lv_at hl 1 rfl) ?_
      refine tz_iast hx hb hK hT hS 7 rfl (by omega) (rg_put (by omega)) dX4_append_110 (fun H locs hT hS => ?_)
      refine lv_aload_n hx hb dX4_append_111 rfl (lv_at hl 2 rfl) ?_
      refine lv_dup hx hb dX4_append_112 rfl ?_
      refine tz_get (ci := 3) (v := .int h0f10) (C := RX4) (F := TX4) (N := 12) hx hb hU iX4 hown hK hT 5 rfl rfl 10 (by decide) w164 (fun _ h9 => h9) rfl dX4_append_113 ?_
      refine lv_iconst (v := 1) hx hb dX4_append_116 (by decide) ?_
      refine lv_iadd hx hb dX4_append_117 (lv_topi (fun v8 e_v8 => ?_))
      have e_v8 := ai_add e_v8 rfl li_1 (by omega)
      refine tz_put (ci := 3) (v := .int v8) (ty := .int) (C := RX4) (F := TX4) (N := 12) hx hb hU iX4 tyX4 tyX4_ok nmX4 hown hK hT hS 5 rfl rfl 10 (by decide) w164 (fun _ h9 => h9) rfl (by decide +kernel) rfl rfl (Nat.le_of_ble_eq_true rfl) dX4_append_118 (fun H locs hT hS => ?_)
      have hT : TP D A [(h2, aJ (k 1) 180 anJ), (h3, aI (k 0) 60 anI), (h4, aI (k 0) 60 anI), (h5, aI (k 0) 60 anI), (h8, aI (k 0) 60 (rgI (-1) 59)), (h0, ob 3 [.ref h2, .ref h3, .ref h4, .ref h5, .ref h6, .ref h7, .ref h8, .ref h1, .int h0f8, .int h0f9, .int v8, .int h0f11]), (h1, aJ (k 1) 60 anJ), (h7, aI (k 0) 128 (rgI (-1) 59))] H := hT
      refine lv_iload hx hb dX4_append_121 (lv_at hl 1 rfl) ?_
      exact tz_retI (B := B_cX4_append_27b4f D k h0 h1 h2 h3 h4 h5 h7 h8 h6 x2 x3 h0f8 h0f9 h0f10 h0f11) (v := h0f10) hQ hx hb hr hlocks hS (Nat.le_of_ble_eq_true rfl) (Nat.le_of_ble_eq_true rfl) dX4_append_123 (⟨v8, (by omega), (by omega), (hT.sub [5, 6, 0, 1, 2, 3, 7, 4] (by decide) rfl)⟩)
    · skip
      have hT := J _ hT1
      have hT : TP D A [(h1, aJ (k 1) 60 anJ), (h2, aJ (k 1) 180 anJ), (h3, aI (k 0) 60 anI), (h4, aI (k 0) 60 anI), (h5, aI (k 0) 60 anI), (h7, aI (k 0) 128 (rgI (-1) 59)), (h8, aI (k 0) 60 (rgI (-1) 59)), (h0, ob 3 [.ref h2, .ref h3, .ref h4, .ref h5, .ref h6, .ref h7, .ref h8, .ref h1, .int h0f8, .int h0f9, .int h0f10, .int h0f11])] H := hT
      refine lv_if_eq (tgt := 79) hx hb dX4_append_65 (by decide) (fun cc => absurd cc (by decide +kernel)) (fun _ => ?_)
      refine lv_aload_n hx hb dX4_append_68 rfl (lv_at hl 1 rfl) ?_
      refine tz_get (ci := 3) (v := .ref h5) (C := RX4) (F := TX4) (N := 12) hx hb hU iX4 hown hK hT 7 rfl rfl 3 (by decide) w155 (fun _ h9 => h9) rfl dX4_append_69 ?_
      refine lv_iload_n hx hb dX4_append_72 rfl (lv_at hl 3 rfl) ?_
      refine tz_iald hx hb hK hT 4 rfl (by omega) dX4_append_73 (fun v9 e_v9 => ?_)
      clear e_v9
      refine lv_iconst (v := 1) hx hb dX4_append_74 (by decide) ?_
      refine lv_iadd hx hb dX4_append_75 (lv_topi (fun v10 e_v10 => ?_))
      refine lv_goto (tgt := 80) hx hb dX4_append_76 (by decide) ?_
      refine tz_iast hx hb hK hT hS 4 rfl (by omega) (fun _ _ => trivial) dX4_append_80 (fun H locs hT hS => ?_)
      refine lv_aload_n hx hb dX4_append_81 rfl (lv_at hl 1 rfl) ?_
      refine lv_aload_n hx hb dX4_append_82 rfl (lv_at hl 2 rfl) ?_
      refine tcI (Tc := [(h0, ob 3 [.ref h2, .ref h3, .ref h4, .ref h5, .ref h6, .ref h7, .ref h8, .ref h1, .int h0f8, .int h0f9, .int h0f10, .int h0f11]), (h1, aJ (k 1) 60 anJ), (h7, aI (k 0) 128 (rgI (-1) 59))]) (Tr := [(h2, aJ (k 1) 180 anJ), (h3, aI (k 0) 60 anI), (h4, aI (k 0) 60 anI), (h5, aI (k 0) 60 anI), (h8, aI (k 0) 60 (rgI (-1) 59))]) (as := [h0, h1, h7]) (zcV (q0 := 7) (ci := 3) (As := [.ref h1]) (rest := []) (Tc := [(h0, ob 3 [.ref h2, .ref h3, .ref h4, .ref h5, .ref h6, .ref h7, .ref h8, .ref h1, .int h0f8, .int h0f9, .int h0f10, .int h0f11]), (h1, aJ (k 1) 60 anJ), (h7, aI (k 0) 128 (rgI (-1) 59))]) hx hb hml hown hU hK hT rfl rfl [7, 0, 5] rfl (by decide) (cX4_slotOf_11012 l D k _ h0 h1 h7 h2 h3 h4 h5 h6 h8 h0f8 h0f9 h0f10 h0f11 (by omega) (by omega) (by omega) (by omega)) w514 w511 w513 w11 w66 hdX4_slotOf ⟨rfl, rfl⟩ ⟨Nat.le_of_ble_eq_true rfl, Nat.le_of_ble_eq_true rfl⟩ rfl hl.1 (Nat.le_of_ble_eq_true rfl) dX4_append_83 ⟨Nat.le_of_ble_eq_true rfl, Nat.le_of_ble_eq_true rfl⟩) hT hS hA [7, 0, 5] [1, 2, 3, 4, 6] rfl rfl rfl (by decide) (by decide) (fun r11 H locs hB J hS => ?_)
      obtain ⟨b_r11, hT1⟩ := hB
      have hT := J _ hT1
      have hT : TP D A [(h2, aJ (k 1) 180 anJ), (h3, aI (k 0) 60 anI), (h4, aI (k 0) 60 anI), (h5, aI (k 0) 60 anI), (h8, aI (k 0) 60 (rgI (-1) 59)), (h0, ob 3 [.ref h2, .ref h3, .ref h4, .ref h5, .ref h6, .ref h7, .ref h8, .ref h1, .int h0f8, .int h0f9, .int h0f10, .int h0f11]), (h1, aJ (k 1) 60 anJ), (h7, aI (k 0) 128 (rgI (-1) 59))] H := hT
      refine lv_istore (lv' := [(5, .int r11), (4, .int h0f10), (0, .ref h0), (1, .ref h1), (2, .int x2), (3, .int x3)]) hx hb dX4_append_86 hl (by decide) rfl (fun ls hl => ?_)
      refine lv_aload_n hx hb dX4_append_88 rfl (lv_at hl 2 rfl) ?_
      refine tz_get (ci := 3) (v := .ref h8) (C := RX4) (F := TX4) (N := 12) hx hb hU iX4 hown hK hT 5 rfl rfl 6 (by decide) w160 (fun _ h9 => h9) rfl dX4_append_89 ?_
      refine lv_iload hx hb dX4_append_92 (lv_at hl 1 rfl) ?_
      refine lv_aload_n hx hb dX4_append_94 rfl (lv_at hl 2 rfl) ?_
      refine tz_get (ci := 3) (v := .ref h7) (C := RX4) (F := TX4) (N := 12) hx hb hU iX4 hown hK hT 5 rfl rfl 5 (by decide) w159 (fun _ h9 => h9) rfl dX4_append_95 ?_
      refine lv_iload hx hb dX4_append_98 (lv_at hl 0 rfl) ?_
      refine tz_iald hx hb hK hT 7 rfl (by omega) dX4_append_100 (fun v12 e_v12 => ?_)
      have e_v12 := rg_get e_v12
      refine tz_iast hx hb hK hT hS 4 rfl (by omega) (rg_put (by omega)) dX4_append_101 (fun H locs hT hS => ?_)
      refine lv_aload_n hx hb dX4_append_102 rfl (lv_at hl 2 rfl) ?_
      refine tz_get (ci := 3) (v := .ref h7) (C := RX4) (F := TX4) (N := 12) hx hb hU iX4 hown hK hT 5 rfl rfl 5 (by decide) w159 (fun _ h9 => h9) rfl dX4_append_103 ?_
      refine lv_iload hx hb dX4_append_106 (lv_at hl 0 rfl) ?_
      refine lv_iload hx hb dX4_append_108 (lv_at hl 1 rfl) ?_
      refine tz_iast hx hb hK hT hS 7 rfl (by omega) (rg_put (by omega)) dX4_append_110 (fun H locs hT hS => ?_)
      refine lv_aload_n hx hb dX4_append_111 rfl (lv_at hl 2 rfl) ?_
      refine lv_dup hx hb dX4_append_112 rfl ?_
      refine tz_get (ci := 3) (v := .int h0f10) (C := RX4) (F := TX4) (N := 12) hx hb hU iX4 hown hK hT 5 rfl rfl 10 (by decide) w164 (fun _ h9 => h9) rfl dX4_append_113 ?_
      refine lv_iconst (v := 1) hx hb dX4_append_116 (by decide) ?_
      refine lv_iadd hx hb dX4_append_117 (lv_topi (fun v13 e_v13 => ?_))
      have e_v13 := ai_add e_v13 rfl li_1 (by omega)
      refine tz_put (ci := 3) (v := .int v13) (ty := .int) (C := RX4) (F := TX4) (N := 12) hx hb hU iX4 tyX4 tyX4_ok nmX4 hown hK hT hS 5 rfl rfl 10 (by decide) w164 (fun _ h9 => h9) rfl (by decide +kernel) rfl rfl (Nat.le_of_ble_eq_true rfl) dX4_append_118 (fun H locs hT hS => ?_)
      have hT : TP D A [(h2, aJ (k 1) 180 anJ), (h3, aI (k 0) 60 anI), (h4, aI (k 0) 60 anI), (h5, aI (k 0) 60 anI), (h8, aI (k 0) 60 (rgI (-1) 59)), (h0, ob 3 [.ref h2, .ref h3, .ref h4, .ref h5, .ref h6, .ref h7, .ref h8, .ref h1, .int h0f8, .int h0f9, .int v13, .int h0f11]), (h1, aJ (k 1) 60 anJ), (h7, aI (k 0) 128 (rgI (-1) 59))] H := hT
      refine lv_iload hx hb dX4_append_121 (lv_at hl 1 rfl) ?_
      exact tz_retI (B := B_cX4_append_27b4f D k h0 h1 h2 h3 h4 h5 h7 h8 h6 x2 x3 h0f8 h0f9 h0f10 h0f11) (v := h0f10) hQ hx hb hr hlocks hS (Nat.le_of_ble_eq_true rfl) (Nat.le_of_ble_eq_true rfl) dX4_append_123 (⟨v13, (by omega), (by omega), (hT.sub [5, 6, 0, 1, 2, 3, 7, 4] (by decide) rfl)⟩)
  · skip
    have c_1 := ni_nlt c_1 rfl rfl
    refine lv_iconst (v := (-1)) hx hb dX4_append_11 (by decide) ?_
    exact tz_retI (B := B_cX4_append_27b4f D k h0 h1 h2 h3 h4 h5 h7 h8 h6 x2 x3 h0f8 h0f9 h0f10 h0f11) (v := (-1)) hQ hx hb hr hlocks hS (Nat.le_of_ble_eq_true rfl) (Nat.le_of_ble_eq_true rfl) dX4_append_12 (⟨h0f10, (by have := li_m1; omega), (by have := li_m1; omega), hT⟩)
abbrev Rm_cX4_lead_20ea7 : Room := { frames := 3, cells := 0, slots := 0, locals := 79 }
abbrev B_cX4_lead_20ea7 (D : va_G) (k : Nat → ClassId) (h0 h1 h2 h3 h4 h5 h7 h8 h9 h10 h11 h6 : Nat) (x2 : Int32) (x3 : Int32) (h0f8 : Int32) (h0f9 : Int32) (h0f10 : Int32) (h0f11 : Int32) (h10f0 : Int32) (h10f1 : Int32) (h10f2 : Int32) (A : Nat → Prop) (r : Int32) (H : Heap) : Prop := ∃ o0 : Int32, (1 ≤ o0.toInt ∧ o0.toInt ≤ 60) ∧ ((-1) ≤ r.toInt ∧ r.toInt ≤ 59) ∧ TP D A [(h0, ob 3 [.ref h2, .ref h3, .ref h4, .ref h5, .ref h6, .ref h7, .ref h8, .ref h9, .int h0f8, .int h0f9, .int o0, .int h0f11]), (h1, ob 1 [.ref h10]), (h2, aJ (k 1) 180 anJ), (h3, aI (k 0) 60 anI), (h4, aI (k 0) 60 anI), (h5, aI (k 0) 60 anI), (h7, aI (k 0) 128 (rgI (-1) 59)), (h8, aI (k 0) 60 (rgI (-1) 59)), (h9, aJ (k 1) 60 anJ), (h10, ob 4 [.int h10f0, .int h10f1, .int h10f2, .ref h11]), (h11, aJ (k 1) 36 anJ)] H
set_option maxHeartbeats 4000000 in
set_option maxRecDepth 100000 in
theorem cX4_lead_20ea7 (l : Launch) (D : va_G) (k : Nat → ClassId) (sz : Nat) (h0 h1 h2 h3 h4 h5 h7 h8 h9 h10 h11 h6 : Nat) (x2 : Int32) (x3 : Int32) (h0f8 : Int32) (h0f9 : Int32) (h0f10 : Int32) (h0f11 : Int32) (h10f0 : Int32) (h10f1 : Int32) (h10f2 : Int32) (b_x2 : 0 ≤ x2.toInt ∧ x2.toInt ≤ 59) (b_x3 : 0 ≤ x3.toInt ∧ x3.toInt ≤ 3) (b_h0f8 : 1 ≤ h0f8.toInt ∧ h0f8.toInt ≤ 3) (b_h0f9 : 60 ≤ h0f9.toInt ∧ h0f9.toInt ≤ 60) (b_h0f10 : 1 ≤ h0f10.toInt ∧ h0f10.toInt ≤ 60) (b_h0f11 : 0 ≤ h0f11.toInt ∧ h0f11.toInt ≤ 1) (b_h10f0 : 1 ≤ h10f0.toInt ∧ h10f0.toInt ≤ 3) (b_h10f1 : 0 ≤ h10f1.toInt ∧ h10f1.toInt ≤ 4) : Met l yX4_lead (Cond.code yX4_lead cX4_lead 5 (some .int) :: uw) Rm_cX4_lead_20ea7 (pT D k sz [.ref h0, .ref h1, .int x2, .int x3] [(h0, ob 3 [.ref h2, .ref h3, .ref h4, .ref h5, .ref h6, .ref h7, .ref h8, .ref h9, .int h0f8, .int h0f9, .int h0f10, .int h0f11]), (h1, ob 1 [.ref h10]), (h2, aJ (k 1) 180 anJ), (h3, aI (k 0) 60 anI), (h4, aI (k 0) 60 anI), (h5, aI (k 0) 60 anI), (h7, aI (k 0) 128 (rgI (-1) 59)), (h8, aI (k 0) 60 (rgI (-1) 59)), (h9, aJ (k 1) 60 anJ), (h10, ob 4 [.int h10f0, .int h10f1, .int h10f2, .ref h11]), (h11, aJ (k 1) 36 anJ)]) (qI (B_cX4_lead_20ea7 D k h0 h1 h2 h3 h4 h5 h7 h8 h9 h10 h11 h6 x2 x3 h0f8 h0f9 h0f10 h0f11 h10f0 h10f1 h10f2 (zA [h0, h1, h2, h3, h4, h5, h7, h8, h9, h10, h11] sz)) (zA [h0, h1, h2, h3, h4, h5, h7, h8, h9, h10, h11] sz)) 0 0 (zA [h0, h1, h2, h3, h4, h5, h7, h8, h9, h10, h11] sz) := by
  refine tz_begin (as := [h0, h1, h2, h3, h4, h5, h7, h8, h9, h10, h11]) (Qc := fun A => qI (B_cX4_lead_20ea7 D k h0 h1 h2 h3 h4 h5 h7 h8 h9 h10 h11 h6 x2 x3 h0f8 h0f9 h0f10 h0f11 h10f0 h10f1 h10f2 A) A) (by decide +kernel) rfl (Nat.le_of_ble_eq_true rfl) ?_
  intro p e s m args below meth c ls A Q hx hb hr hml hown hlocks hin hU hK hT hS hA hl hQ
  have hl : lv_has ls 5 [(0, .ref h0), (1, .ref h1), (2, .int x2), (3, .int x3)] := hl
  have hT : TP D A [(h0, ob 3 [.ref h2, .ref h3, .ref h4, .ref h5, .ref h6, .ref h7, .ref h8, .ref h9, .int h0f8, .int h0f9, .int h0f10, .int h0f11]), (h1, ob 1 [.ref h10]), (h2, aJ (k 1) 180 anJ), (h3, aI (k 0) 60 anI), (h4, aI (k 0) 60 anI), (h5, aI (k 0) 60 anI), (h7, aI (k 0) 128 (rgI (-1) 59)), (h8, aI (k 0) 60 (rgI (-1) 59)), (h9, aJ (k 1) 60 anJ), (h10, ob 4 [.int h10f0, .int h10f1, .int h10f2, .ref h11]), (h11, aJ (k 1) 36 anJ)] s.heap := hT
  refine lv_aload_n hx hb dX4_lead_0 rfl (lv_at hl 1 rfl) ?_
  refine lv_aload_n hx hb dX4_lead_1 rfl (lv_at hl 0 rfl) ?_
  refine tz_get (ci := 3) (v := .ref h2) (C := RX4) (F := TX4) (N := 12) hx hb hU iX4 hown hK hT 0 rfl rfl 0 (by decide) w149 (fun _ h9 => h9) rfl dX4_lead_2 ?_
  refine lv_aload_n hx hb dX4_lead_5 rfl (lv_at hl 0 rfl) ?_
  refine lv_iload_n hx hb dX4_lead_6 rfl (lv_at hl 2 rfl) ?_
  refine tcI (Tc := [(h0, ob 3 [.ref h2, .ref h3, .ref h4, .ref h5, .ref h6, .ref h7, .ref h8, .ref h9, .int h0f8, .int h0f9, .int h0f10, .int h0f11])]) (Tr := [(h1, ob 1 [.ref h10]), (h2, aJ (k 1) 180 anJ), (h3, aI (k 0) 60 anI), (h4, aI (k 0) 60 anI), (h5, aI (k 0) 60 anI), (h7, aI (k 0) 128 (rgI (-1) 59)), (h8, aI (k 0) 60 (rgI (-1) 59)), (h9, aJ (k 1) 60 anJ), (h10, ob 4 [.int h10f0, .int h10f1, .int h10f2, .ref h11]), (h11, aJ (k 1) 36 anJ)]) (as := [h0]) (zcV (q0 := 0) (ci := 3) (As := [.int x2]) (rest := [.ref h2, .ref h1]) (Tc := [(h0, ob 3 [.ref h2, .ref h3, .ref h4, .ref h5, .ref h6, .ref h7, .ref h8, .ref h9, .int h0f8, .int h0f9, .int h0f10, .int h0f11])]) hx hb hml hown hU hK hT rfl rfl [0] rfl (by decide) (cX4_start_cf782 l D k _ h0 h2 h3 h4 h5 h6 h7 h8 h9 x2 h0f8 h0f9 h0f10 h0f11 (by omega) (by omega) (by omega) (by omega) (by omega)) w505 w502 w503 w504 w66 hdX4_start ⟨rfl, rfl⟩ ⟨Nat.le_of_ble_eq_true rfl, Nat.le_of_ble_eq_true rfl⟩ rfl hl.1 (Nat.le_of_ble_eq_true rfl) dX4_lead_7 ⟨Nat.le_of_ble_eq_true rfl, Nat.le_of_ble_eq_true rfl⟩) hT hS hA [0] [1, 2, 3, 4, 5, 6, 7, 8, 9, 10] rfl rfl rfl (by decide) (by decide) (fun r1 H locs hB J hS => ?_)
  obtain ⟨b_r1, hT1⟩ := hB
  have hT := J _ hT1
  have hT : TP D A [(h1, ob 1 [.ref h10]), (h2, aJ (k 1) 180 anJ), (h3, aI (k 0) 60 anI), (h4, aI (k 0) 60 anI), (h5, aI (k 0) 60 anI), (h7, aI (k 0) 128 (rgI (-1) 59)), (h8, aI (k 0) 60 (rgI (-1) 59)), (h9, aJ (k 1) 60 anJ), (h10, ob 4 [.int h10f0, .int h10f1, .int h10f2, .ref h11]), (h11, aJ (k 1) 36 anJ), (h0, ob 3 [.ref h2, .ref h3, .ref h4, .ref h5, .ref h6, .ref h7, .ref h8, .ref h9, .int h0f8, .int h0f9, .int h0f10, .int h0f11])] H := hT
  refine lv_iload_n hx hb dX4_lead_10 rfl (lv_at hl 3 rfl) ?_
  refine lv_aload_n hx hb dX4_lead_11 rfl (lv_at hl 0 rfl) ?_
  refine tz_get (ci := 3) (v := .ref h9) (C := RX4) (F := TX4) (N := 12) hx hb hU iX4 hown hK hT 10 rfl rfl 7 (by decide) w161 (fun _ h9 => h9) rfl dX4_lead_12 ?_
  refine tcI (Tc := [(h1, ob 1 [.ref h10]), (h2, aJ (k 1) 180 anJ), (h9, aJ (k 1) 60 anJ), (h10, ob 4 [.int h10f0, .int h10f1, .int h10f2, .ref h11]), (h11, aJ (k 1) 36 anJ)]) (Tr := [(h3, aI (k 0) 60 anI), (h4, aI (k 0) 60 anI), (h5, aI (k 0) 60 anI), (h7, aI (k 0) 128 (rgI (-1) 59)), (h8, aI (k 0) 60 (rgI (-1) 59)), (h0, ob 3 [.ref h2, .ref h3, .ref h4, .ref h5, .ref h6, .ref h7, .ref h8, .ref h9, .int h0f8, .int h0f9, .int h0f10, .int h0f11])]) (as := [h1, h2, h9, h10, h11]) (zcA (q0 := 0) (ci := 1) (As := [.ref h2, .int r1, .int x3, .ref h9]) (rest := []) (Tc := [(h1, ob 1 [.ref h10]), (h2, aJ (k 1) 180 anJ), (h9, aJ (k 1) 60 anJ), (h10, ob 4 [.int h10f0, .int h10f1, .int h10f2, .ref h11]), (h11, aJ (k 1) 36 anJ)]) hx hb hml hown hU hK hT rfl rfl [0, 1, 7, 8, 9] rfl (by decide) (cX1_go_e8f5f l D k _ h1 h2 h9 h10 h11 r1 x3 h10f0 h10f1 h10f2 (by omega) (by omega) (by omega) (by omega)) w533 w524 wStepSame w531 w532 w69 hdX1_go ⟨rfl, rfl⟩ ⟨Nat.le_of_ble_eq_true rfl, Nat.le_of_ble_eq_true rfl⟩ rfl hl.1 (Nat.le_of_ble_eq_true rfl) dX4_lead_15 ⟨Nat.le_of_ble_eq_true rfl, Nat.le_of_ble_eq_true rfl⟩ rfl) hT hS hA [0, 1, 7, 8, 9] [2, 3, 4, 5, 6, 10] rfl rfl rfl (by decide) (by decide) (fun r2 H locs hB J hS => ?_)
  obtain ⟨b_r2, hT1⟩ := hB
  have hT := J _ hT1
  have hT : TP D A [(h3, aI (k 0) 60 anI), (h4, aI (k 0) 60 anI), (h5, aI (k 0) 60 anI), (h7, aI (k 0) 128 (rgI (-1) 59)), (h8, aI (k 0) 60 (rgI (-1) 59)), (h0, ob 3 [.ref h2, .ref h3, .ref h4, .ref h5, .ref h6, .ref h7, .ref h8, .ref h9, .int h0f8, .int h0f9, .int h0f10, .int h0f11]), (h1, ob 1 [.ref h10]), (h2, aJ (k 1) 180 anJ), (h9, aJ (k 1) 60 anJ), (h10, ob 4 [.int h10f0, .int h10f1, .int h10f2, .ref h11]), (h11, aJ (k 1) 36 anJ)] H := hT
  refine lv_if_ne (tgt := 23) hx hb dX4_lead_18 (by decide) (fun c_3 => ?_) (fun c_3 => ?_)
  · skip
    have c_3 := ni_ne c_3 rfl li_0
    refine lv_aload_n hx hb dX4_lead_23 rfl (lv_at hl 0 rfl) ?_
    refine lv_aload_n hx hb dX4_lead_24 rfl (lv_at hl 0 rfl) ?_
    refine tz_get (ci := 3) (v := .ref h9) (C := RX4) (F := TX4) (N := 12) hx hb hU iX4 hown hK hT 5 rfl rfl 7 (by decide) w161 (fun _ h9 => h9) rfl dX4_lead_25 ?_
    refine tcI (Tc := [(h0, ob 3 [.ref h2, .ref h3, .ref h4, .ref h5, .ref h6, .ref h7, .ref h8, .ref h9, .int h0f8, .int h0f9, .int h0f10, .int h0f11]), (h9, aJ (k 1) 60 anJ), (h2, aJ (k 1) 180 anJ), (h7, aI (k 0) 128 (rgI (-1) 59)), (h8, aI (k 0) 60 (rgI (-1) 59))]) (Tr := [(h3, aI (k 0) 60 anI), (h4, aI (k 0) 60 anI), (h5, aI (k 0) 60 anI), (h1, ob 1 [.ref h10]), (h10, ob 4 [.int h10f0, .int h10f1, .int h10f2, .ref h11]), (h11, aJ (k 1) 36 anJ)]) (as := [h0, h9, h2, h7, h8]) (zcV (q0 := 5) (ci := 3) (As := [.ref h9]) (rest := []) (Tc := [(h0, ob 3 [.ref h2, .ref h3, .ref h4, .ref h5, .ref h6, .ref h7, .ref h8, .ref h9, .int h0f8, .int h0f9, .int h0f10, .int h0f11]), (h9, aJ (k 1) 60 anJ), (h2, aJ (k 1) 180 anJ), (h7, aI (k 0) 128 (rgI (-1) 59)), (h8, aI (k 0) 60 (rgI (-1) 59))]) hx hb hml hown hU hK hT rfl rfl [5, 8, 7, 3, 4] rfl (by decide) (cX4_search_9734a l D k _ h0 h9 h2 h7 h8 h3 h4 h5 h6 h0f8 h0f9 h0f10 h0f11 (by omega) (by omega) (by omega) (by omega)) w555 w552 w553 w554 w66 hdX4_search ⟨rfl, rfl⟩ ⟨Nat.le_of_ble_eq_true rfl, Nat.le_of_ble_eq_true rfl⟩ rfl hl.1 (Nat.le_of_ble_eq_true rfl) dX4_lead_28 ⟨Nat.le_of_ble_eq_true rfl, Nat.le_of_ble_eq_true rfl⟩) hT hS hA [5, 8, 7, 3, 4] [0, 1, 2, 6, 9, 10] rfl rfl rfl (by decide) (by decide) (fun r4 H locs hB J hS => ?_)
    obtain ⟨b_r4, hT1⟩ := hB
    have hT := J _ hT1
    have hT : TP D A [(h3, aI (k 0) 60 anI), (h4, aI (k 0) 60 anI), (h5, aI (k 0) 60 anI), (h1, ob 1 [.ref h10]), (h10, ob 4 [.int h10f0, .int h10f1, .int h10f2, .ref h11]), (h11, aJ (k 1) 36 anJ), (h0, ob 3 [.ref h2, .ref h3, .ref h4, .ref h5, .ref h6, .ref h7, .ref h8, .ref h9, .int h0f8, .int h0f9, .int h0f10, .int h0f11]), (h9, aJ (k 1) 60 anJ), (h2, aJ (k 1) 180 anJ), (h7, aI (k 0) 128 (rgI (-1) 59)), (h8, aI (k 0) 60 (rgI (-1) 59))] H := hT
    refine lv_istore (lv' := [(4, .int r4), (0, .ref h0), (1, .ref h1), (2, .int x2), (3, .int x3)]) hx hb dX4_lead_31 hl (by decide) rfl (fun ls hl => ?_)
    refine lv_iload hx hb dX4_lead_33 (lv_at hl 0 rfl) ?_
    refine lv_if_lt (tgt := 43) hx hb dX4_lead_35 (by decide) (fun c_5 => ?_) (fun c_5 => ?_)
    · skip
      have c_5 := ni_lt c_5 rfl li_0
      refine lv_aload_n hx hb dX4_lead_43 rfl (lv_at hl 1 rfl) ?_
      refine lv_aload_n hx hb dX4_lead_44 rfl (lv_at hl 1 rfl) ?_
      refine tz_get (ci := 3) (v := .ref h9) (C := RX4) (F := TX4) (N := 12) hx hb hU iX4 hown hK hT 6 rfl rfl 7 (by decide) w161 (fun _ h9 => h9) rfl dX4_lead_45 ?_
      refine lv_iload_n hx hb dX4_lead_48 rfl (lv_at hl 3 rfl) ?_
      refine lv_iload_n hx hb dX4_lead_49 rfl (lv_at hl 4 rfl) ?_
      refine tcI (Tc := [(h0, ob 3 [.ref h2, .ref h3, .ref h4, .ref h5, .ref h6, .ref h7, .ref h8, .ref h9, .int h0f8, .int h0f9, .int h0f10, .int h0f11]), (h9, aJ (k 1) 60 anJ), (h2, aJ (k 1) 180 anJ), (h3, aI (k 0) 60 anI), (h4, aI (k 0) 60 anI), (h5, aI (k 0) 60 anI), (h7, aI (k 0) 128 (rgI (-1) 59)), (h8, aI (k 0) 60 (rgI (-1) 59))]) (Tr := [(h1, ob 1 [.ref h10]), (h10, ob 4 [.int h10f0, .int h10f1, .int h10f2, .ref h11]), (h11, aJ (k 1) 36 anJ)]) (as := [h0, h9, h2, h3, h4, h5, h7, h8]) (zcV (q0 := 6) (ci := 3) (As := [.ref h9, .int x2, .int x3]) (rest := []) (Tc := [(h0, ob 3 [.ref h2, .ref h3, .ref h4, .ref h5, .ref h6, .ref h7, .ref h8, .ref h9, .int h0f8, .int h0f9, .int h0f10, .int h0f11]), (h9, aJ (k 1) 60 anJ), (h2, aJ (k 1) 180 anJ), (h3, aI (k 0) 60 anI), (h4, aI (k 0) 60 anI), (h5, aI (k 0) 60 anI), (h7, aI (k 0) 128 (rgI (-1) 59)), (h8, aI (k 0) 60 (rgI (-1) 59))]) hx hb hml hown hU hK hT rfl rfl [6, 7, 8, 0, 1, 2, 9, 10] rfl (by decide) (cX4_append_27b4f l D k _ h0 h9 h2 h3 h4 h5 h7 h8 h6 x2 x3 h0f8 h0f9 h0f10 h0f11 (by omega) (by omega) (by omega) (by omega) (by omega) (by omega)) w501 w560 w499 w500 w66 hdX4_append ⟨rfl, rfl⟩ ⟨Nat.le_of_ble_eq_true rfl, Nat.le_of_ble_eq_true rfl⟩ rfl hl.1 (Nat.le_of_ble_eq_true rfl) dX4_lead_50 ⟨Nat.le_of_ble_eq_true rfl, Nat.le_of_ble_eq_true rfl⟩) hT hS hA [6, 7, 8, 0, 1, 2, 9, 10] [3, 4, 5] rfl rfl rfl (by decide) (by decide) (fun r6 H locs hB J hS => ?_)
      obtain ⟨v7, b_v7, b_r6, hT1⟩ := hB
      have hT := J _ hT1
      have hT : TP D A [(h1, ob 1 [.ref h10]), (h10, ob 4 [.int h10f0, .int h10f1, .int h10f2, .ref h11]), (h11, aJ (k 1) 36 anJ), (h0, ob 3 [.ref h2, .ref h3, .ref h4, .ref h5, .ref h6, .ref h7, .ref h8, .ref h9, .int h0f8, .int h0f9, .int v7, .int h0f11]), (h9, aJ (k 1) 60 anJ), (h2, aJ (k 1) 180 anJ), (h3, aI (k 0) 60 anI), (h4, aI (k 0) 60 anI), (h5, aI (k 0) 60 anI), (h7, aI (k 0) 128 (rgI (-1) 59)), (h8, aI (k 0) 60 (rgI (-1) 59))] H := hT
      exact tz_retI (B := B_cX4_lead_20ea7 D k h0 h1 h2 h3 h4 h5 h7 h8 h9 h10 h11 h6 x2 x3 h0f8 h0f9 h0f10 h0f11 h10f0 h10f1 h10f2) (v := r6) hQ hx hb hr hlocks hS (Nat.le_of_ble_eq_true rfl) (Nat.le_of_ble_eq_true rfl) dX4_lead_53 (⟨v7, (by omega), (by omega), (hT.sub [3, 0, 5, 6, 7, 8, 9, 10, 4, 1, 2] (by decide) rfl)⟩)
    · skip
      have c_5 := ni_nlt c_5 rfl li_0
      refine lv_iload hx hb dX4_lead_38 (lv_at hl 0 rfl) ?_
      refine lv_goto (tgt := 53) hx hb dX4_lead_40 (by decide) ?_
      exact tz_retI (B := B_cX4_lead_20ea7 D k h0 h1 h2 h3 h4 h5 h7 h8 h9 h10 h11 h6 x2 x3 h0f8 h0f9 h0f10 h0f11 h10f0 h10f1 h10f2) (v := r4) hQ hx hb hr hlocks hS (Nat.le_of_ble_eq_true rfl) (Nat.le_of_ble_eq_true rfl) dX4_lead_53 (⟨h0f10, (by omega), (by omega), (hT.sub [6, 3, 8, 0, 1, 2, 9, 10, 7, 4, 5] (by decide) rfl)⟩)
  · skip
    have c_3 := ni_eq c_3 rfl li_0
    refine lv_iconst (v := (-1)) hx hb dX4_lead_21 (by decide) ?_
    exact tz_retI (B := B_cX4_lead_20ea7 D k h0 h1 h2 h3 h4 h5 h7 h8 h9 h10 h11 h6 x2 x3 h0f8 h0f9 h0f10 h0f11 h10f0 h10f1 h10f2) (v := (-1)) hQ hx hb hr hlocks hS (Nat.le_of_ble_eq_true rfl) (Nat.le_of_ble_eq_true rfl) dX4_lead_22 (⟨h0f10, (by have := li_m1; omega), (by have := li_m1; omega), (hT.sub [5, 6, 7, 0, 1, 2, 3, 4, 8, 9, 10] (by decide) rfl)⟩)
abbrev Rm_cX4_spread_6c665 : Room := { frames := 4, cells := 0, slots := 0, locals := 103 }
abbrev B_cX4_spread_6c665 (D : va_G) (k : Nat → ClassId) (h0 h1 h2 h3 h4 h5 h6 h7 h8 h9 h10 h11 : Nat) (x2 : Int32) (h0f8 : Int32) (h0f9 : Int32) (h0f10 : Int32) (h0f11 : Int32) (h10f0 : Int32) (h10f1 : Int32) (h10f2 : Int32) (A : Nat → Prop) (H : Heap) : Prop := ∃ o0 : Int32, ∃ o1 : Int32, (1 ≤ o0.toInt ∧ o0.toInt ≤ 60) ∧ (0 ≤ o1.toInt ∧ o1.toInt ≤ 1) ∧ TP D A [(h0, ob 3 [.ref h2, .ref h3, .ref h4, .ref h5, .ref h6, .ref h7, .ref h8, .ref h9, .int h0f8, .int h0f9, .int o0, .int o1]), (h1, ob 1 [.ref h10]), (h2, aJ (k 1) 180 anJ), (h3, aI (k 0) 60 anI), (h4, aI (k 0) 60 anI), (h5, aI (k 0) 60 anI), (h6, aI (k 0) 240 anI), (h7, aI (k 0) 128 (rgI (-1) 59)), (h8, aI (k 0) 60 (rgI (-1) 59)), (h9, aJ (k 1) 60 anJ), (h10, ob 4 [.int h10f0, .int h10f1, .int h10f2, .ref h11]), (h11, aJ (k 1) 36 anJ)] H
set_option maxHeartbeats 4000000 in
set_option maxRecDepth 100000 in
theorem cX4_spread_6c665 (l : Launch) (D : va_G) (k : Nat → ClassId) (sz : Nat) (h0 h1 h2 h3 h4 h5 h6 h7 h8 h9 h10 h11 : Nat) (x2 : Int32) (h0f8 : Int32) (h0f9 : Int32) (h0f10 : Int32) (h0f11 : Int32) (h10f0 : Int32) (h10f1 : Int32) (h10f2 : Int32) (b_x2 : 0 ≤ x2.toInt ∧ x2.toInt ≤ 4) (b_h0f8 : 1 ≤ h0f8.toInt ∧ h0f8.toInt ≤ 3) (b_h0f9 : 60 ≤ h0f9.toInt ∧ h0f9.toInt ≤ 60) (b_h0f10 : 1 ≤ h0f10.toInt ∧ h0f10.toInt ≤ 1) (b_h0f11 : 0 ≤ h0f11.toInt ∧ h0f11.toInt ≤ 0) (b_h10f0 : 1 ≤ h10f0.toInt ∧ h10f0.toInt ≤ 3) (b_h10f1 : 0 ≤ h10f1.toInt ∧ h10f1.toInt ≤ 4) : Met l yX4_spread (Cond.code yX4_spread cX4_spread 6 none :: uw) Rm_cX4_spread_6c665 (pT D k sz [.ref h0, .ref h1, .int x2] [(h0, ob 3 [.ref h2, .ref h3, .ref h4, .ref h5, .ref h6, .ref h7, .ref h8, .ref h9, .int h0f8, .int h0f9, .int h0f10, .int h0f11]), (h1, ob 1 [.ref h10]), (h2, aJ (k 1) 180 anJ), (h3, aI (k 0) 60 anI), (h4, aI (k 0) 60 anI), (h5, aI (k 0) 60 anI), (h6, aI (k 0) 240 anI), (h7, aI (k 0) 128 (rgI (-1) 59)), (h8, aI (k 0) 60 (rgI (-1) 59)), (h9, aJ (k 1) 60 anJ), (h10, ob 4 [.int h10f0, .int h10f1, .int h10f2, .ref h11]), (h11, aJ (k 1) 36 anJ)]) (qV (B_cX4_spread_6c665 D k h0 h1 h2 h3 h4 h5 h6 h7 h8 h9 h10 h11 x2 h0f8 h0f9 h0f10 h0f11 h10f0 h10f1 h10f2 (zA [h0, h1, h2, h3, h4, h5, h6, h7, h8, h9, h10, h11] sz)) (zA [h0, h1, h2, h3, h4, h5, h6, h7, h8, h9, h10, h11] sz)) 0 0 (zA [h0, h1, h2, h3, h4, h5, h6, h7, h8, h9, h10, h11] sz) := by
  refine tz_begin (as := [h0, h1, h2, h3, h4, h5, h6, h7, h8, h9, h10, h11]) (Qc := fun A => qV (B_cX4_spread_6c665 D k h0 h1 h2 h3 h4 h5 h6 h7 h8 h9 h10 h11 x2 h0f8 h0f9 h0f10 h0f11 h10f0 h10f1 h10f2 A) A) (by decide +kernel) rfl (Nat.le_of_ble_eq_true rfl) ?_
  intro p e s m args below meth c ls A Q hx hb hr hml hown hlocks hin hU hK hT hS hA hl hQ
  have hl : lv_has ls 6 [(0, .ref h0), (1, .ref h1), (2, .int x2)] := hl
  have hT : TP D A [(h0, ob 3 [.ref h2, .ref h3, .ref h4, .ref h5, .ref h6, .ref h7, .ref h8, .ref h9, .int h0f8, .int h0f9, .int h0f10, .int h0f11]), (h1, ob 1 [.ref h10]), (h2, aJ (k 1) 180 anJ), (h3, aI (k 0) 60 anI), (h4, aI (k 0) 60 anI), (h5, aI (k 0) 60 anI), (h6, aI (k 0) 240 anI), (h7, aI (k 0) 128 (rgI (-1) 59)), (h8, aI (k 0) 60 (rgI (-1) 59)), (h9, aJ (k 1) 60 anJ), (h10, ob 4 [.int h10f0, .int h10f1, .int h10f2, .ref h11]), (h11, aJ (k 1) 36 anJ)] s.heap := hT
  refine lv_aload_n hx hb dX4_spread_0 rfl (lv_at hl 0 rfl) ?_
  refine lv_iconst (v := 1) hx hb dX4_spread_1 (by decide) ?_
  refine tz_put (ci := 3) (v := .int 1) (ty := .boolean) (C := RX4) (F := TX4) (N := 12) hx hb hU iX4 tyX4 tyX4_ok nmX4 hown hK hT hS 0 rfl rfl 11 (by decide) w167 (fun _ h9 => h9) rfl (by decide +kernel) rfl rfl (Nat.le_of_ble_eq_true rfl) dX4_spread_2 (fun H locs hT hS => ?_)
  have hT : TP D A [(h0, ob 3 [.ref h2, .ref h3, .ref h4, .ref h5, .ref h6, .ref h7, .ref h8, .ref h9, .int h0f8, .int h0f9, .int h0f10, .int 1]), (h1, ob 1 [.ref h10]), (h2, aJ (k 1) 180 anJ), (h3, aI (k 0) 60 anI), (h4, aI (k 0) 60 anI), (h5, aI (k 0) 60 anI), (h6, aI (k 0) 240 anI), (h7, aI (k 0) 128 (rgI (-1) 59)), (h8, aI (k 0) 60 (rgI (-1) 59)), (h9, aJ (k 1) 60 anJ), (h10, ob 4 [.int h10f0, .int h10f1, .int h10f2, .ref h11]), (h11, aJ (k 1) 36 anJ)] H := hT
  refine lv_iconst (v := 0) hx hb dX4_spread_5 (by decide) ?_
  refine lv_istore_n (lv' := [(3, .int 0), (0, .ref h0), (1, .ref h1), (2, .int x2)]) hx hb dX4_spread_6 rfl hl (by decide) rfl (fun ls hl => ?_)
  have lp7_37 : ∀ (n : Nat) (y34 : Int32) (y35 : Int32) (y36 : Int32) (H : Heap) (locs : List Loc) (ls : Array Slot), (0 ≤ y34.toInt ∧ y34.toInt ≤ 60) → (1 ≤ y35.toInt ∧ y35.toInt ≤ 60) → (0 ≤ y36.toInt ∧ y36.toInt ≤ 1) → (h0f9.toInt + (-1) * y34.toInt + 1).toNat < n → TP D A [(h0, ob 3 [.ref h2, .ref h3, .ref h4, .ref h5, .ref h6, .ref h7, .ref h8, .ref h9, .int h0f8, .int h0f9, .int y35, .int y36]), (h1, ob 1 [.ref h10]), (h2, aJ (k 1) 180 anJ), (h3, aI (k 0) 60 anI), (h4, aI (k 0) 60 anI), (h5, aI (k 0) 60 anI), (h6, aI (k 0) 240 anI), (h7, aI (k 0) 128 (rgI (-1) 59)), (h8, aI (k 0) 60 (rgI (-1) 59)), (h9, aJ (k 1) 60 anJ), (h10, ob 4 [.int h10f0, .int h10f1, .int h10f2, .ref h11]), (h11, aJ (k 1) 36 anJ)] H → va_S A s.heap H locs → lv_has ls 6 [(0, .ref h0), (1, .ref h1), (2, .int x2), (3, .int y34)] → W p l e Rm_cX4_spread_6c665 s m args below meth c H locs 0 0 Q (F0 m 7 ls []) := by
    intro n
    induction n with
    | zero => intro y34 y35 y36 H locs ls b_y34 b_y35 b_y36 hm hT hS hl; exact absurd hm (Nat.not_lt_zero _)
    | succ n ih =>
      intro y34 y35 y36 H locs ls b_y34 b_y35 b_y36 hm hT hS hl
      have ih7_37 := ih
      clear ih
      refine lv_iload_n hx hb dX4_spread_7 rfl (lv_at hl 3 rfl) ?_
      refine lv_aload_n hx hb dX4_spread_8 rfl (lv_at hl 0 rfl) ?_
      refine tz_get (ci := 3) (v := .int h0f9) (C := RX4) (F := TX4) (N := 12) hx hb hU iX4 hown hK hT 0 rfl rfl 9 (by decide) w163 (fun _ h9 => h9) rfl dX4_spread_9 ?_
      refine lv_icmp_ge (tgt := 96) hx hb dX4_spread_12 (by decide) (fun c_38 => ?_) (fun c_38 => ?_)
      · skip
        have c_38 := ni_le c_38 rfl rfl
        exact tz_retV (B := B_cX4_spread_6c665 D k h0 h1 h2 h3 h4 h5 h6 h7 h8 h9 h10 h11 x2 h0f8 h0f9 h0f10 h0f11 h10f0 h10f1 h10f2) hQ hx hb hr hlocks hS (Nat.le_of_ble_eq_true rfl) (Nat.le_of_ble_eq_true rfl) dX4_spread_96 (⟨y35, y36, (by omega), (by omega), hT⟩)
      · skip
        have c_38 := ni_nle c_38 rfl rfl
        refine lv_iload_n hx hb dX4_spread_15 rfl (lv_at hl 3 rfl) ?_
        refine lv_aload_n hx hb dX4_spread_16 rfl (lv_at hl 0 rfl) ?_
        refine tz_get (ci := 3) (v := .int y35) (C := RX4) (F := TX4) (N := 12) hx hb hU iX4 hown hK hT 0 rfl rfl 10 (by decide) w164 (fun _ h9 => h9) rfl dX4_spread_17 ?_
        refine lv_icmp_ge (tgt := 96) hx hb dX4_spread_20 (by decide) (fun c_39 => ?_) (fun c_39 => ?_)
        · skip
          have c_39 := ni_le c_39 rfl rfl
          exact tz_retV (B := B_cX4_spread_6c665 D k h0 h1 h2 h3 h4 h5 h6 h7 h8 h9 h10 h11 x2 h0f8 h0f9 h0f10 h0f11 h10f0 h10f1 h10f2) hQ hx hb hr hlocks hS (Nat.le_of_ble_eq_true rfl) (Nat.le_of_ble_eq_true rfl) dX4_spread_96 (⟨y35, y36, (by omega), (by omega), hT⟩)
        · skip
          have c_39 := ni_nle c_39 rfl rfl
          refine lv_iconst (v := 0) hx hb dX4_spread_23 (by decide) ?_
          refine lv_istore (lv' := [(4, .int 0), (0, .ref h0), (1, .ref h1), (2, .int x2), (3, .int y34)]) hx hb dX4_spread_24 hl (by decide) rfl (fun ls hl => ?_)
          have lp26_52 : ∀ (n : Nat) (y49 : Int32) (y50 : Int32) (y51 : Int32) (H : Heap) (locs : List Loc) (ls : Array Slot), (0 ≤ y49.toInt ∧ y49.toInt ≤ 4) → (1 ≤ y50.toInt ∧ y50.toInt ≤ 60) → (0 ≤ y51.toInt ∧ y51.toInt ≤ 1) → (x2.toInt + (-1) * y49.toInt + 1).toNat < n → TP D A [(h0, ob 3 [.ref h2, .ref h3, .ref h4, .ref h5, .ref h6, .ref h7, .ref h8, .ref h9, .int h0f8, .int h0f9, .int y50, .int y51]), (h1, ob 1 [.ref h10]), (h2, aJ (k 1) 180 anJ), (h3, aI (k 0) 60 anI), (h4, aI (k 0) 60 anI), (h5, aI (k 0) 60 anI), (h6, aI (k 0) 240 anI), (h7, aI (k 0) 128 (rgI (-1) 59)), (h8, aI (k 0) 60 (rgI (-1) 59)), (h9, aJ (k 1) 60 anJ), (h10, ob 4 [.int h10f0, .int h10f1, .int h10f2, .ref h11]), (h11, aJ (k 1) 36 anJ)] H → va_S A s.heap H locs → lv_has ls 6 [(0, .ref h0), (1, .ref h1), (2, .int x2), (3, .int y34), (4, .int y49)] → W p l e Rm_cX4_spread_6c665 s m args below meth c H locs 0 0 Q (F0 m 26 ls []) := by
            intro n
            induction n with
            | zero => intro y49 y50 y51 H locs ls b_y49 b_y50 b_y51 hm hT hS hl; exact absurd hm (Nat.not_lt_zero _)
            | succ n ih =>
              intro y49 y50 y51 H locs ls b_y49 b_y50 b_y51 hm hT hS hl
              have ih26_52 := ih
              clear ih
              refine lv_iload hx hb dX4_spread_26 (lv_at hl 4 rfl) ?_
              refine lv_iload_n hx hb dX4_spread_28 rfl (lv_at hl 2 rfl) ?_
              refine lv_icmp_ge (tgt := 71) hx hb dX4_spread_29 (by decide) (fun c_53 => ?_) (fun c_53 => ?_)
              · skip
                have c_53 := ni_le c_53 rfl rfl
                refine lv_aload_n hx hb dX4_spread_71 rfl (lv_at hl 0 rfl) ?_
                refine tz_get (ci := 3) (v := .int y51) (C := RX4) (F := TX4) (N := 12) hx hb hU iX4 hown hK hT 0 rfl rfl 11 (by decide) w167 (fun _ h9 => h9) rfl dX4_spread_72 ?_
                refine lv_if_ne (tgt := 90) hx hb dX4_spread_75 (by decide) (fun c_54 => ?_) (fun c_54 => ?_)
                · skip
                  have c_54 := ni_ne c_54 rfl li_0
                  obtain ⟨v55, e_v55⟩ : ∃ x : Int32, x = y34 + Int32.ofInt 1 := ⟨_, rfl⟩
                  have f_v55 := e_v55.symm
                  have e_v55 : v55.toInt = y34.toInt + 1 := ai_add e_v55 rfl (show (Int32.ofInt 1).toInt = 1 from (by decide +kernel)) (by omega)
                  refine lv_iinc (v := v55) (lv' := [(3, .int v55), (0, .ref h0), (1, .ref h1), (2, .int x2), (4, .int y49)]) hx hb dX4_spread_90 hl (k := 3) rfl f_v55 (by decide) rfl (fun ls hl => ?_)
                  refine lv_goto (tgt := 7) hx hb dX4_spread_93 (by decide) ?_
                  exact ih7_37 v55 y50 y51 _ _ _ (by omega) (by omega) (by omega)  (by omega) hT hS (lv_sub hl [1, 2, 3, 0] rfl)
                · skip
                  have c_54 := ni_eq c_54 rfl li_0
                  refine lv_aload_n hx hb dX4_spread_78 rfl (lv_at hl 0 rfl) ?_
                  refine tz_get (ci := 3) (v := .int y50) (C := RX4) (F := TX4) (N := 12) hx hb hU iX4 hown hK hT 0 rfl rfl 10 (by decide) w164 (fun _ h9 => h9) rfl dX4_spread_79 ?_
                  refine lv_aload_n hx hb dX4_spread_82 rfl (lv_at hl 0 rfl) ?_
                  refine tz_get (ci := 3) (v := .int h0f9) (C := RX4) (F := TX4) (N := 12) hx hb hU iX4 hown hK hT 0 rfl rfl 9 (by decide) w163 (fun _ h9 => h9) rfl dX4_spread_83 ?_
                  refine lv_icmp_ne (tgt := 90) hx hb dX4_spread_86 (by decide) (fun c_56 => ?_) (fun c_56 => ?_)
                  · skip
                    have c_56 := ni_ne c_56 rfl rfl
                    obtain ⟨v57, e_v57⟩ : ∃ x : Int32, x = y34 + Int32.ofInt 1 := ⟨_, rfl⟩
                    have f_v57 := e_v57.symm
                    have e_v57 : v57.toInt = y34.toInt + 1 := ai_add e_v57 rfl (show (Int32.ofInt 1).toInt = 1 from (by decide +kernel)) (by omega)
                    refine lv_iinc (v := v57) (lv' := [(3, .int v57), (0, .ref h0), (1, .ref h1), (2, .int x2), (4, .int y49)]) hx hb dX4_spread_90 hl (k := 3) rfl f_v57 (by decide) rfl (fun ls hl => ?_)
                    refine lv_goto (tgt := 7) hx hb dX4_spread_93 (by decide) ?_
                    exact ih7_37 v57 y50 y51 _ _ _ (by omega) (by omega) (by omega)  (by omega) hT hS (lv_sub hl [1, 2, 3, 0] rfl)
                  · skip
                    have c_56 := ni_eq c_56 rfl rfl
                    exact tz_retV (B := B_cX4_spread_6c665 D k h0 h1 h2 h3 h4 h5 h6 h7 h8 h9 h10 h11 x2 h0f8 h0f9 h0f10 h0f11 h10f0 h10f1 h10f2) hQ hx hb hr hlocks hS (Nat.le_of_ble_eq_true rfl) (Nat.le_of_ble_eq_true rfl) dX4_spread_89 (⟨y50, y51, (by omega), (by omega), hT⟩)
              · skip
                have c_53 := ni_nle c_53 rfl rfl
                refine lv_aload_n hx hb dX4_spread_32 rfl (lv_at hl 0 rfl) ?_
                refine lv_aload_n hx hb dX4_spread_33 rfl (lv_at hl 1 rfl) ?_
                refine lv_iload_n hx hb dX4_spread_34 rfl (lv_at hl 3 rfl) ?_
                refine lv_iload hx hb dX4_spread_35 (lv_at hl 4 rfl) ?_
                refine tcI (Tc := [(h0, ob 3 [.ref h2, .ref h3, .ref h4, .ref h5, .ref h6, .ref h7, .ref h8, .ref h9, .int h0f8, .int h0f9, .int y50, .int y51]), (h1, ob 1 [.ref h10]), (h2, aJ (k 1) 180 anJ), (h3, aI (k 0) 60 anI), (h4, aI (k 0) 60 anI), (h5, aI (k 0) 60 anI), (h7, aI (k 0) 128 (rgI (-1) 59)), (h8, aI (k 0) 60 (rgI (-1) 59)), (h9, aJ (k 1) 60 anJ), (h10, ob 4 [.int h10f0, .int h10f1, .int h10f2, .ref h11]), (h11, aJ (k 1) 36 anJ)]) (Tr := [(h6, aI (k 0) 240 anI)]) (as := [h0, h1, h2, h3, h4, h5, h7, h8, h9, h10, h11]) (zcV (q0 := 0) (ci := 3) (As := [.ref h1, .int y34, .int y49]) (rest := []) (Tc := [(h0, ob 3 [.ref h2, .ref h3, .ref h4, .ref h5, .ref h6, .ref h7, .ref h8, .ref h9, .int h0f8, .int h0f9, .int y50, .int y51]), (h1, ob 1 [.ref h10]), (h2, aJ (k 1) 180 anJ), (h3, aI (k 0) 60 anI), (h4, aI (k 0) 60 anI), (h5, aI (k 0) 60 anI), (h7, aI (k 0) 128 (rgI (-1) 59)), (h8, aI (k 0) 60 (rgI (-1) 59)), (h9, aJ (k 1) 60 anJ), (h10, ob 4 [.int h10f0, .int h10f1, .int h10f2, .ref h11]), (h11, aJ (k 1) 36 anJ)]) hx hb hml hown hU hK hT rfl rfl [0, 1, 2, 3, 4, 5, 7, 8, 9, 10, 11] rfl (by decide) (cX4_lead_20ea7 l D k _ h0 h1 h2 h3 h4 h5 h7 h8 h9 h10 h11 h6 y34 y49 h0f8 h0f9 y50 y51 h10f0 h10f1 h10f2 (by omega) (by omega) (by omega) (by omega) (by omega) (by omega) (by omega) (by omega)) w523 w520 w522 w12 w66 hdX4_lead ⟨rfl, rfl⟩ ⟨Nat.le_of_ble_eq_true rfl, Nat.le_of_ble_eq_true rfl⟩ rfl hl.1 (Nat.le_of_ble_eq_true rfl) dX4_spread_37 ⟨Nat.le_of_ble_eq_true rfl, Nat.le_of_ble_eq_true rfl⟩) hT hS hA [0, 1, 2, 3, 4, 5, 7, 8, 9, 10, 11] [6] rfl rfl rfl (by decide) (by decide) (fun r58 H locs hB J hS => ?_)
                obtain ⟨v59, b_v59, b_r58, hT1⟩ := hB
                have hT := J _ hT1
                have hT : TP D A [(h6, aI (k 0) 240 anI), (h0, ob 3 [.ref h2, .ref h3, .ref h4, .ref h5, .ref h6, .ref h7, .ref h8, .ref h9, .int h0f8, .int h0f9, .int v59, .int y51]), (h1, ob 1 [.ref h10]), (h2, aJ (k 1) 180 anJ), (h3, aI (k 0) 60 anI), (h4, aI (k 0) 60 anI), (h5, aI (k 0) 60 anI), (h7, aI (k 0) 128 (rgI (-1) 59)), (h8, aI (k 0) 60 (rgI (-1) 59)), (h9, aJ (k 1) 60 anJ), (h10, ob 4 [.int h10f0, .int h10f1, .int h10f2, .ref h11]), (h11, aJ (k 1) 36 anJ)] H := hT
                refine lv_istore (lv' := [(5, .int r58), (0, .ref h0), (1, .ref h1), (2, .int x2), (3, .int y34), (4, .int y49)]) hx hb dX4_spread_40 hl (by decide) rfl (fun ls hl => ?_)
                refine lv_aload_n hx hb dX4_spread_42 rfl (lv_at hl 1 rfl) ?_
                refine tz_get (ci := 3) (v := .ref h6) (C := RX4) (F := TX4) (N := 12) hx hb hU iX4 hown hK hT 1 rfl rfl 4 (by decide) w157 (fun _ h9 => h9) rfl dX4_spread_43 ?_
                refine lv_iload_n hx hb dX4_spread_46 rfl (lv_at hl 4 rfl) ?_
                refine lv_iconst (v := 4) hx hb dX4_spread_47 (by decide) ?_
                refine lv_imul hx hb dX4_spread_48 (lv_topi (fun v60 e_v60 => ?_))
                have e_v60 := ai_mul e_v60 rfl li_4 (by omega)
                refine lv_iload hx hb dX4_spread_49 (lv_at hl 5 rfl) ?_
                refine lv_iadd hx hb dX4_spread_51 (lv_topi (fun v61 e_v61 => ?_))
                have e_v61 := ai_add e_v61 rfl rfl (by omega)
                refine lv_iload hx hb dX4_spread_52 (lv_at hl 0 rfl) ?_
                refine tz_iast hx hb hK hT hS 0 rfl (by omega) (fun _ _ => trivial) dX4_spread_54 (fun H locs hT hS => ?_)
                refine lv_iload hx hb dX4_spread_55 (lv_at hl 0 rfl) ?_
                refine lv_if_ge (tgt := 65) hx hb dX4_spread_57 (by decide) (fun c_62 => ?_) (fun c_62 => ?_)
                · skip
                  have c_62 := ni_le c_62 li_0 rfl
                  obtain ⟨v63, e_v63⟩ : ∃ x : Int32, x = y49 + Int32.ofInt 1 := ⟨_, rfl⟩
                  have f_v63 := e_v63.symm
                  have e_v63 : v63.toInt = y49.toInt + 1 := ai_add e_v63 rfl (show (Int32.ofInt 1).toInt = 1 from (by decide +kernel)) (by omega)
                  refine lv_iinc (v := v63) (lv' := [(4, .int v63), (5, .int r58), (0, .ref h0), (1, .ref h1), (2, .int x2), (3, .int y34)]) hx hb dX4_spread_65 hl (k := 5) rfl f_v63 (by decide) rfl (fun ls hl => ?_)
                  refine lv_goto (tgt := 26) hx hb dX4_spread_68 (by decide) ?_
                  exact ih26_52 v63 v59 y51 _ _ _ (by omega) (by omega) (by omega)  (by omega) (hT.sub [1, 2, 3, 4, 5, 6, 0, 7, 8, 9, 10, 11] (by decide) rfl) hS (lv_sub hl [2, 3, 4, 5, 0] rfl)
                · skip
                  have c_62 := ni_nle c_62 li_0 rfl
                  refine lv_aload_n hx hb dX4_spread_60 rfl (lv_at hl 1 rfl) ?_
                  refine lv_iconst (v := 0) hx hb dX4_spread_61 (by decide) ?_
                  refine tz_put (ci := 3) (v := .int 0) (ty := .boolean) (C := RX4) (F := TX4) (N := 12) hx hb hU iX4 tyX4 tyX4_ok nmX4 hown hK hT hS 1 rfl rfl 11 (by decide) w167 (fun _ h9 => h9) rfl (by decide +kernel) rfl rfl (Nat.le_of_ble_eq_true rfl) dX4_spread_62 (fun H locs hT hS => ?_)
                  have hT : TP D A [(h6, aI (k 0) 240 anI), (h0, ob 3 [.ref h2, .ref h3, .ref h4, .ref h5, .ref h6, .ref h7, .ref h8, .ref h9, .int h0f8, .int h0f9, .int v59, .int 0]), (h1, ob 1 [.ref h10]), (h2, aJ (k 1) 180 anJ), (h3, aI (k 0) 60 anI), (h4, aI (k 0) 60 anI), (h5, aI (k 0) 60 anI), (h7, aI (k 0) 128 (rgI (-1) 59)), (h8, aI (k 0) 60 (rgI (-1) 59)), (h9, aJ (k 1) 60 anJ), (h10, ob 4 [.int h10f0, .int h10f1, .int h10f2, .ref h11]), (h11, aJ (k 1) 36 anJ)] H := hT
                  obtain ⟨v64, e_v64⟩ : ∃ x : Int32, x = y49 + Int32.ofInt 1 := ⟨_, rfl⟩
                  have f_v64 := e_v64.symm
                  have e_v64 : v64.toInt = y49.toInt + 1 := ai_add e_v64 rfl (show (Int32.ofInt 1).toInt = 1 from (by decide +kernel)) (by omega)
                  refine lv_iinc (v := v64) (lv' := [(4, .int v64), (5, .int r58), (0, .ref h0), (1, .ref h1), (2, .int x2), (3, .int y34)]) hx hb dX4_spread_65 hl (k := 5) rfl f_v64 (by decide) rfl (fun ls hl => ?_)
                  refine lv_goto (tgt := 26) hx hb dX4_spread_68 (by decide) ?_
                  exact ih26_52 v64 v59 (0) _ _ _ (by have := li_0; omega) (by have := li_0; omega) (by have := li_0; omega)  (by have := li_0; omega) (hT.sub [1, 2, 3, 4, 5, 6, 0, 7, 8, 9, 10, 11] (by decide) rfl) hS (lv_sub hl [2, 3, 4, 5, 0] rfl)
          exact lp26_52 ((x2.toInt + (-1) * (0 : Int32).toInt + 1).toNat + 1) (0) y35 y36 _ _ _ (by have := li_0; omega) (by have := li_0; omega) (by have := li_0; omega)  (Nat.lt_succ_self _) hT hS (lv_sub hl [1, 2, 3, 4, 0] rfl)
  exact lp7_37 ((h0f9.toInt + (-1) * (0 : Int32).toInt + 1).toNat + 1) (0) h0f10 (1) _ _ _ (by have := li_0; have := li_1; omega) (by have := li_0; have := li_1; omega) (by have := li_0; have := li_1; omega)  (Nat.lt_succ_self _) hT hS (lv_sub hl [1, 2, 3, 0] rfl)
abbrev Rm_cX10_orbit_fcf9f : Room := { frames := 5, cells := 0, slots := 0, locals := 128 }
abbrev B_cX10_orbit_fcf9f (D : va_G) (k : Nat → ClassId) (h0 h1 h6 h9 h11 h13 h29 h30 h31 h32 h33 h34 h35 h36 h2 h3 h4 h5 h7 h8 h10 h12 : Nat) (x1 : Int32) (x2 : Int32) (x3 : Int32) (h0f2 : Int32) (h0f6 : Int32) (h0f8 : Int32) (h0f11 : Int32) (h1f0 : Int32) (h1f1 : Int32) (h1f2 : Int32) (h6f8 : Int32) (h6f9 : Int32) (h6f10 : Int32) (h6f11 : Int32) (A : Nat → Prop) (r : Int32) (H : Heap) : Prop := ∃ o0 : Int32, ∃ o1 : Int32, ∃ o2 : Int32, ∃ o3 : Int32, ∃ o4 : Int32, ∃ o5 : Int32, (0 ≤ o0.toInt ∧ o0.toInt ≤ 1) ∧ (0 ≤ o1.toInt ∧ o1.toInt ≤ 200) ∧ (0 ≤ o2.toInt ∧ o2.toInt ≤ 3) ∧ (0 ≤ o3.toInt ∧ o3.toInt ≤ 60) ∧ (0 ≤ o4.toInt ∧ o4.toInt ≤ 60) ∧ (0 ≤ o5.toInt ∧ o5.toInt ≤ 1) ∧ ((-1) ≤ r.toInt ∧ r.toInt ≤ 60) ∧ TP D A [(h0, ob 7 [.ref h1, .ref h2, .int h0f2, .ref h3, .ref h4, .ref h5, .int h0f6, .ref h6, .int o0, .null, .ref h7, .int o1, .ref h8, .ref h9, .ref h10, .ref h11, .ref h12]), (h1, ob 4 [.int h1f0, .int h1f1, .int h1f2, .ref h13]), (h6, ob 3 [.ref h29, .ref h30, .ref h31, .ref h32, .ref h33, .ref h34, .ref h35, .ref h36, .int o2, .int o3, .int o4, .int o5]), (h9, ob 1 [.ref h1]), (h11, aJ (k 1) 9 anJ), (h13, aJ (k 1) 36 anJ), (h29, aJ (k 1) 180 anJ), (h30, aI (k 0) 60 anI), (h31, aI (k 0) 60 anI), (h32, aI (k 0) 60 anI), (h33, aI (k 0) 240 anI), (h34, aI (k 0) 128 (rgI (-1) 59)), (h35, aI (k 0) 60 (rgI (-1) 59)), (h36, aJ (k 1) 60 anJ)] H
set_option maxHeartbeats 4000000 in
set_option maxRecDepth 100000 in
theorem cX10_orbit_fcf9f (l : Launch) (D : va_G) (k : Nat → ClassId) (sz : Nat) (h0 h1 h6 h9 h11 h13 h29 h30 h31 h32 h33 h34 h35 h36 h2 h3 h4 h5 h7 h8 h10 h12 : Nat) (x1 : Int32) (x2 : Int32) (x3 : Int32) (h0f2 : Int32) (h0f6 : Int32) (h0f8 : Int32) (h0f11 : Int32) (h1f0 : Int32) (h1f1 : Int32) (h1f2 : Int32) (h6f8 : Int32) (h6f9 : Int32) (h6f10 : Int32) (h6f11 : Int32) (b_h0f2 : 0 ≤ h0f2.toInt ∧ h0f2.toInt ≤ 1) (b_h0f6 : 0 ≤ h0f6.toInt ∧ h0f6.toInt ≤ 1) (b_h0f8 : 0 ≤ h0f8.toInt ∧ h0f8.toInt ≤ 1) (b_h0f11 : 0 ≤ h0f11.toInt ∧ h0f11.toInt ≤ 200) (b_h1f0 : 1 ≤ h1f0.toInt ∧ h1f0.toInt ≤ 3) (b_h1f1 : 0 ≤ h1f1.toInt ∧ h1f1.toInt ≤ 4) (b_h6f8 : 0 ≤ h6f8.toInt ∧ h6f8.toInt ≤ 3) (b_h6f9 : 0 ≤ h6f9.toInt ∧ h6f9.toInt ≤ 60) (b_h6f10 : 0 ≤ h6f10.toInt ∧ h6f10.toInt ≤ 60) (b_h6f11 : 0 ≤ h6f11.toInt ∧ h6f11.toInt ≤ 1) : Met l yX10_orbit (Cond.code yX10_orbit cX10_orbit 4 (some .int) :: uw) Rm_cX10_orbit_fcf9f (pT D k sz [.ref h0, .int x1, .int x2, .int x3] [(h0, ob 7 [.ref h1, .ref h2, .int h0f2, .ref h3, .ref h4, .ref h5, .int h0f6, .ref h6, .int h0f8, .null, .ref h7, .int h0f11, .ref h8, .ref h9, .ref h10, .ref h11, .ref h12]), (h1, ob 4 [.int h1f0, .int h1f1, .int h1f2, .ref h13]), (h6, ob 3 [.ref h29, .ref h30, .ref h31, .ref h32, .ref h33, .ref h34, .ref h35, .ref h36, .int h6f8, .int h6f9, .int h6f10, .int h6f11]), (h9, ob 1 [.ref h1]), (h11, aJ (k 1) 9 anJ), (h13, aJ (k 1) 36 anJ), (h29, aJ (k 1) 180 anJ), (h30, aI (k 0) 60 anI), (h31, aI (k 0) 60 anI), (h32, aI (k 0) 60 anI), (h33, aI (k 0) 240 anI), (h34, aI (k 0) 128 (rgI (-1) 59)), (h35, aI (k 0) 60 (rgI (-1) 59)), (h36, aJ (k 1) 60 anJ)]) (qI (B_cX10_orbit_fcf9f D k h0 h1 h6 h9 h11 h13 h29 h30 h31 h32 h33 h34 h35 h36 h2 h3 h4 h5 h7 h8 h10 h12 x1 x2 x3 h0f2 h0f6 h0f8 h0f11 h1f0 h1f1 h1f2 h6f8 h6f9 h6f10 h6f11 (zA [h0, h1, h6, h9, h11, h13, h29, h30, h31, h32, h33, h34, h35, h36] sz)) (zA [h0, h1, h6, h9, h11, h13, h29, h30, h31, h32, h33, h34, h35, h36] sz)) 0 0 (zA [h0, h1, h6, h9, h11, h13, h29, h30, h31, h32, h33, h34, h35, h36] sz) := by
  refine tz_begin (as := [h0, h1, h6, h9, h11, h13, h29, h30, h31, h32, h33, h34, h35, h36]) (Qc := fun A => qI (B_cX10_orbit_fcf9f D k h0 h1 h6 h9 h11 h13 h29 h30 h31 h32 h33 h34 h35 h36 h2 h3 h4 h5 h7 h8 h10 h12 x1 x2 x3 h0f2 h0f6 h0f8 h0f11 h1f0 h1f1 h1f2 h6f8 h6f9 h6f10 h6f11 A) A) (by decide +kernel) rfl (Nat.le_of_ble_eq_true rfl) ?_
  intro p e s m args below meth c ls A Q hx hb hr hml hown hlocks hin hU hK hT hS hA hl hQ
  have hl : lv_has ls 4 [(0, .ref h0), (1, .int x1), (2, .int x2), (3, .int x3)] := hl
  have hT : TP D A [(h0, ob 7 [.ref h1, .ref h2, .int h0f2, .ref h3, .ref h4, .ref h5, .int h0f6, .ref h6, .int h0f8, .null, .ref h7, .int h0f11, .ref h8, .ref h9, .ref h10, .ref h11, .ref h12]), (h1, ob 4 [.int h1f0, .int h1f1, .int h1f2, .ref h13]), (h6, ob 3 [.ref h29, .ref h30, .ref h31, .ref h32, .ref h33, .ref h34, .ref h35, .ref h36, .int h6f8, .int h6f9, .int h6f10, .int h6f11]), (h9, ob 1 [.ref h1]), (h11, aJ (k 1) 9 anJ), (h13, aJ (k 1) 36 anJ), (h29, aJ (k 1) 180 anJ), (h30, aI (k 0) 60 anI), (h31, aI (k 0) 60 anI), (h32, aI (k 0) 60 anI), (h33, aI (k 0) 240 anI), (h34, aI (k 0) 128 (rgI (-1) 59)), (h35, aI (k 0) 60 (rgI (-1) 59)), (h36, aJ (k 1) 60 anJ)] s.heap := hT
  refine lv_iload_n hx hb dX10_orbit_0 rfl (lv_at hl 1 rfl) ?_
  refine lv_iload_n hx hb dX10_orbit_1 rfl (lv_at hl 2 rfl) ?_
  refine lv_iload_n hx hb dX10_orbit_2 rfl (lv_at hl 3 rfl) ?_
  refine tcI (Tc := []) (Tr := [(h0, ob 7 [.ref h1, .ref h2, .int h0f2, .ref h3, .ref h4, .ref h5, .int h0f6, .ref h6, .int h0f8, .null, .ref h7, .int h0f11, .ref h8, .ref h9, .ref h10, .ref h11, .ref h12]), (h1, ob 4 [.int h1f0, .int h1f1, .int h1f2, .ref h13]), (h6, ob 3 [.ref h29, .ref h30, .ref h31, .ref h32, .ref h33, .ref h34, .ref h35, .ref h36, .int h6f8, .int h6f9, .int h6f10, .int h6f11]), (h9, ob 1 [.ref h1]), (h11, aJ (k 1) 9 anJ), (h13, aJ (k 1) 36 anJ), (h29, aJ (k 1) 180 anJ), (h30, aI (k 0) 60 anI), (h31, aI (k 0) 60 anI), (h32, aI (k 0) 60 anI), (h33, aI (k 0) 240 anI), (h34, aI (k 0) 128 (rgI (-1) 59)), (h35, aI (k 0) 60 (rgI (-1) 59)), (h36, aJ (k 1) 60 anJ)]) (as := []) (zcS (As := [.int x1, .int x2, .int x3]) (rest := []) (Tc := []) hx hb hml hown hU hK hT [] rfl (by decide) (cX10_isStart_c203d l D k _ x1 x2 x3) w688 w686 w687 w63 hdX10_isStart ⟨rfl, rfl⟩ ⟨Nat.le_of_ble_eq_true rfl, Nat.le_of_ble_eq_true rfl⟩ rfl hl.1 (Nat.le_of_ble_eq_true rfl) dX10_orbit_3 ⟨Nat.le_of_ble_eq_true rfl, Nat.le_of_ble_eq_true rfl⟩) hT hS hA [] [0, 1, 2, 3, 4, 5, 6, 7, 8, 9, 10, 11, 12, 13] rfl rfl rfl (by decide) (by decide) (fun r1 H locs hB J hS => ?_)
  obtain ⟨b_r1, hT1⟩ := hB
  have hT := J _ hT1
  have hT : TP D A [(h0, ob 7 [.ref h1, .ref h2, .int h0f2, .ref h3, .ref h4, .ref h5, .int h0f6, .ref h6, .int h0f8, .null, .ref h7, .int h0f11, .ref h8, .ref h9, .ref h10, .ref h11, .ref h12]), (h1, ob 4 [.int h1f0, .int h1f1, .int h1f2, .ref h13]), (h6, ob 3 [.ref h29, .ref h30, .ref h31, .ref h32, .ref h33, .ref h34, .ref h35, .ref h36, .int h6f8, .int h6f9, .int h6f10, .int h6f11]), (h9, ob 1 [.ref h1]), (h11, aJ (k 1) 9 anJ), (h13, aJ (k 1) 36 anJ), (h29, aJ (k 1) 180 anJ), (h30, aI (k 0) 60 anI), (h31, aI (k 0) 60 anI), (h32, aI (k 0) 60 anI), (h33, aI (k 0) 240 anI), (h34, aI (k 0) 128 (rgI (-1) 59)), (h35, aI (k 0) 60 (rgI (-1) 59)), (h36, aJ (k 1) 60 anJ)] H := hT
  refine lv_if_ne (tgt := 11) hx hb dX10_orbit_6 (by decide) (fun c_2 => ?_) (fun c_2 => ?_)
  · skip
    have c_2 := ni_ne c_2 rfl li_0
    refine lv_aload_n hx hb dX10_orbit_11 rfl (lv_at hl 0 rfl) ?_
    refine lv_iload_n hx hb dX10_orbit_12 rfl (lv_at hl 1 rfl) ?_
    refine lv_iload_n hx hb dX10_orbit_13 rfl (lv_at hl 2 rfl) ?_
    refine lv_iload_n hx hb dX10_orbit_14 rfl (lv_at hl 3 rfl) ?_
    refine tcV (Tc := [(h0, ob 7 [.ref h1, .ref h2, .int h0f2, .ref h3, .ref h4, .ref h5, .int h0f6, .ref h6, .int h0f8, .null, .ref h7, .int h0f11, .ref h8, .ref h9, .ref h10, .ref h11, .ref h12]), (h11, aJ (k 1) 9 anJ)]) (Tr := [(h1, ob 4 [.int h1f0, .int h1f1, .int h1f2, .ref h13]), (h6, ob 3 [.ref h29, .ref h30, .ref h31, .ref h32, .ref h33, .ref h34, .ref h35, .ref h36, .int h6f8, .int h6f9, .int h6f10, .int h6f11]), (h9, ob 1 [.ref h1]), (h13, aJ (k 1) 36 anJ), (h29, aJ (k 1) 180 anJ), (h30, aI (k 0) 60 anI), (h31, aI (k 0) 60 anI), (h32, aI (k 0) 60 anI), (h33, aI (k 0) 240 anI), (h34, aI (k 0) 128 (rgI (-1) 59)), (h35, aI (k 0) 60 (rgI (-1) 59)), (h36, aJ (k 1) 60 anJ)]) (as := [h0, h11]) (zcV (q0 := 0) (ci := 7) (As := [.int x1, .int x2, .int x3]) (rest := []) (Tc := [(h0, ob 7 [.ref h1, .ref h2, .int h0f2, .ref h3, .ref h4, .ref h5, .int h0f6, .ref h6, .int h0f8, .null, .ref h7, .int h0f11, .ref h8, .ref h9, .ref h10, .ref h11, .ref h12]), (h11, aJ (k 1) 9 anJ)]) hx hb hml hown hU hK hT rfl rfl [0, 4] rfl (by decide) (cX10_setPoint_928ca l D k _ h0 h11 h1 h2 h3 h4 h5 h6 h7 h8 h9 h10 h12 x1 x2 x3 h0f2 h0f6 h0f8 h0f11 (by omega) (by omega) (by omega) (by omega)) w695 w692 w694 w24 w63 hdX10_setPoint ⟨rfl, rfl⟩ ⟨Nat.le_of_ble_eq_true rfl, Nat.le_of_ble_eq_true rfl⟩ rfl hl.1 (Nat.le_of_ble_eq_true rfl) dX10_orbit_15 ⟨Nat.le_of_ble_eq_true rfl, Nat.le_of_ble_eq_true rfl⟩) hT hS hA [0, 4] [1, 2, 3, 5, 6, 7, 8, 9, 10, 11, 12, 13] rfl rfl rfl (by decide) (by decide) (fun H locs hB J hS => ?_)
    have hT1 := hB
    have hT := J _ hT1
    have hT : TP D A [(h1, ob 4 [.int h1f0, .int h1f1, .int h1f2, .ref h13]), (h6, ob 3 [.ref h29, .ref h30, .ref h31, .ref h32, .ref h33, .ref h34, .ref h35, .ref h36, .int h6f8, .int h6f9, .int h6f10, .int h6f11]), (h9, ob 1 [.ref h1]), (h13, aJ (k 1) 36 anJ), (h29, aJ (k 1) 180 anJ), (h30, aI (k 0) 60 anI), (h31, aI (k 0) 60 anI), (h32, aI (k 0) 60 anI), (h33, aI (k 0) 240 anI), (h34, aI (k 0) 128 (rgI (-1) 59)), (h35, aI (k 0) 60 (rgI (-1) 59)), (h36, aJ (k 1) 60 anJ), (h0, ob 7 [.ref h1, .ref h2, .int h0f2, .ref h3, .ref h4, .ref h5, .int h0f6, .ref h6, .int h0f8, .null, .ref h7, .int h0f11, .ref h8, .ref h9, .ref h10, .ref h11, .ref h12]), (h11, aJ (k 1) 9 anJ)] H := hT
    refine lv_aload_n hx hb dX10_orbit_18 rfl (lv_at hl 0 rfl) ?_
    refine tz_get (ci := 7) (v := .ref h6) (C := RX10) (F := TX10) (N := 17) hx hb hU iX10 hown hK hT 12 rfl rfl 7 (by decide) w256 (fun _ h9 => h9) rfl dX10_orbit_19 ?_
    refine lv_aload_n hx hb dX10_orbit_22 rfl (lv_at hl 0 rfl) ?_
    refine tz_get (ci := 7) (v := .ref h1) (C := RX10) (F := TX10) (N := 17) hx hb hU iX10 hown hK hT 12 rfl rfl 0 (by decide) w249 (fun _ h9 => h9) rfl dX10_orbit_23 ?_
    refine tz_get (ci := 4) (v := .int h1f0) (C := RX5) (F := TX5) (N := 4) hx hb hU iX5 hown hK hT 0 rfl rfl 0 (by decide) w93 (fun _ h9 => h9) rfl dX10_orbit_26 ?_
    refine lv_bipush (v := 60) hx hb dX10_orbit_29 (by decide) ?_
    have q_q5 := li_60
    refine tcV (Tc := [(h6, ob 3 [.ref h29, .ref h30, .ref h31, .ref h32, .ref h33, .ref h34, .ref h35, .ref h36, .int h6f8, .int h6f9, .int h6f10, .int h6f11]), (h34, aI (k 0) 128 (rgI (-1) 59))]) (Tr := [(h1, ob 4 [.int h1f0, .int h1f1, .int h1f2, .ref h13]), (h9, ob 1 [.ref h1]), (h13, aJ (k 1) 36 anJ), (h29, aJ (k 1) 180 anJ), (h30, aI (k 0) 60 anI), (h31, aI (k 0) 60 anI), (h32, aI (k 0) 60 anI), (h33, aI (k 0) 240 anI), (h35, aI (k 0) 60 (rgI (-1) 59)), (h36, aJ (k 1) 60 anJ), (h0, ob 7 [.ref h1, .ref h2, .int h0f2, .ref h3, .ref h4, .ref h5, .int h0f6, .ref h6, .int h0f8, .null, .ref h7, .int h0f11, .ref h8, .ref h9, .ref h10, .ref h11, .ref h12]), (h11, aJ (k 1) 9 anJ)]) (as := [h6, h34]) (zcV (q0 := 1) (ci := 3) (As := [.int h1f0, .int 60]) (rest := []) (Tc := [(h6, ob 3 [.ref h29, .ref h30, .ref h31, .ref h32, .ref h33, .ref h34, .ref h35, .ref h36, .int h6f8, .int h6f9, .int h6f10, .int h6f11]), (h34, aI (k 0) 128 (rgI (-1) 59))]) hx hb hml hown hU hK hT rfl rfl [1, 9] rfl (by decide) (cX4_clear_374d6 l D k _ h6 h34 h29 h30 h31 h32 h33 h35 h36 h1f0 (60) h6f8 h6f9 h6f10 h6f11 (by omega) (by have := li_60; omega) (by omega) (by omega) (by omega) (by omega)) w496 w493 w494 w495 w66 hdX4_clear ⟨rfl, rfl⟩ ⟨Nat.le_of_ble_eq_true rfl, Nat.le_of_ble_eq_true rfl⟩ rfl hl.1 (Nat.le_of_ble_eq_true rfl) dX10_orbit_31 ⟨Nat.le_of_ble_eq_true rfl, Nat.le_of_ble_eq_true rfl⟩) hT hS hA [1, 9] [0, 2, 3, 4, 5, 6, 7, 8, 10, 11, 12, 13] rfl rfl rfl (by decide) (by decide) (fun H locs hB J hS => ?_)
    have hT1 := hB
    have hT := J _ hT1
    have hT : TP D A [(h1, ob 4 [.int h1f0, .int h1f1, .int h1f2, .ref h13]), (h9, ob 1 [.ref h1]), (h13, aJ (k 1) 36 anJ), (h29, aJ (k 1) 180 anJ), (h30, aI (k 0) 60 anI), (h31, aI (k 0) 60 anI), (h32, aI (k 0) 60 anI), (h33, aI (k 0) 240 anI), (h35, aI (k 0) 60 (rgI (-1) 59)), (h36, aJ (k 1) 60 anJ), (h0, ob 7 [.ref h1, .ref h2, .int h0f2, .ref h3, .ref h4, .ref h5, .int h0f6, .ref h6, .int h0f8, .null, .ref h7, .int h0f11, .ref h8, .ref h9, .ref h10, .ref h11, .ref h12]), (h11, aJ (k 1) 9 anJ), (h6, ob 3 [.ref h29, .ref h30, .ref h31, .ref h32, .ref h33, .ref h34, .ref h35, .ref h36, .int h1f0, .int 60, .int 0, .int 0]), (h34, aI (k 0) 128 (rgI (-1) 59))] H := hT
    refine lv_aload_n hx hb dX10_orbit_34 rfl (lv_at hl 0 rfl) ?_
    refine tz_get (ci := 7) (v := .ref h6) (C := RX10) (F := TX10) (N := 17) hx hb hU iX10 hown hK hT 10 rfl rfl 7 (by decide) w256 (fun _ h9 => h9) rfl dX10_orbit_35 ?_
    refine lv_aload_n hx hb dX10_orbit_38 rfl (lv_at hl 0 rfl) ?_
    refine tz_get (ci := 7) (v := .ref h11) (C := RX10) (F := TX10) (N := 17) hx hb hU iX10 hown hK hT 10 rfl rfl 15 (by decide) w264 (fun _ h9 => h9) rfl dX10_orbit_39 ?_
    refine lv_bipush (v := (-3)) hx hb dX10_orbit_42 (by decide) ?_
    refine lv_bipush (v := (-3)) hx hb dX10_orbit_44 (by decide) ?_
    have q_q7 := li_m3
    have q_q8 := li_m3
    have q_q9 := li_60
    have q_q10 := li_0
    have q_q11 := li_0
    refine tcI (Tc := [(h6, ob 3 [.ref h29, .ref h30, .ref h31, .ref h32, .ref h33, .ref h34, .ref h35, .ref h36, .int h1f0, .int 60, .int 0, .int 0]), (h11, aJ (k 1) 9 anJ), (h29, aJ (k 1) 180 anJ), (h30, aI (k 0) 60 anI), (h31, aI (k 0) 60 anI), (h32, aI (k 0) 60 anI), (h34, aI (k 0) 128 (rgI (-1) 59)), (h35, aI (k 0) 60 (rgI (-1) 59))]) (Tr := [(h1, ob 4 [.int h1f0, .int h1f1, .int h1f2, .ref h13]), (h9, ob 1 [.ref h1]), (h13, aJ (k 1) 36 anJ), (h33, aI (k 0) 240 anI), (h36, aJ (k 1) 60 anJ), (h0, ob 7 [.ref h1, .ref h2, .int h0f2, .ref h3, .ref h4, .ref h5, .int h0f6, .ref h6, .int h0f8, .null, .ref h7, .int h0f11, .ref h8, .ref h9, .ref h10, .ref h11, .ref h12])]) (as := [h6, h11, h29, h30, h31, h32, h34, h35]) (zcV (q0 := 12) (ci := 3) (As := [.ref h11, .int (-3), .int (-3)]) (rest := []) (Tc := [(h6, ob 3 [.ref h29, .ref h30, .ref h31, .ref h32, .ref h33, .ref h34, .ref h35, .ref h36, .int h1f0, .int 60, .int 0, .int 0]), (h11, aJ (k 1) 9 anJ), (h29, aJ (k 1) 180 anJ), (h30, aI (k 0) 60 anI), (h31, aI (k 0) 60 anI), (h32, aI (k 0) 60 anI), (h34, aI (k 0) 128 (rgI (-1) 59)), (h35, aI (k 0) 60 (rgI (-1) 59))]) hx hb hml hown hU hK hT rfl rfl [12, 11, 3, 4, 5, 6, 13, 8] rfl (by decide) (cX4_append_e5fbb l D k _ h6 h11 h29 h30 h31 h32 h34 h35 h33 h36 ((-3)) ((-3)) h1f0 (60) (0) (0) (by have := li_m3; omega) (by have := li_m3; omega) (by omega) (by have := li_60; omega) (by have := li_0; omega) (by have := li_0; omega)) w501 w498 w499 w500 w66 hdX4_append ⟨rfl, rfl⟩ ⟨Nat.le_of_ble_eq_true rfl, Nat.le_of_ble_eq_true rfl⟩ rfl hl.1 (Nat.le_of_ble_eq_true rfl) dX10_orbit_46 ⟨Nat.le_of_ble_eq_true rfl, Nat.le_of_ble_eq_true rfl⟩) hT hS hA [12, 11, 3, 4, 5, 6, 13, 8] [0, 1, 2, 7, 9, 10] rfl rfl rfl (by decide) (by decide) (fun r6 H locs hB J hS => ?_)
    obtain ⟨v12, b_v12, rfl, hT1⟩ := hB
    have hT := J _ hT1
    have hT : TP D A [(h1, ob 4 [.int h1f0, .int h1f1, .int h1f2, .ref h13]), (h9, ob 1 [.ref h1]), (h13, aJ (k 1) 36 anJ), (h33, aI (k 0) 240 anI), (h36, aJ (k 1) 60 anJ), (h0, ob 7 [.ref h1, .ref h2, .int h0f2, .ref h3, .ref h4, .ref h5, .int h0f6, .ref h6, .int h0f8, .null, .ref h7, .int h0f11, .ref h8, .ref h9, .ref h10, .ref h11, .ref h12]), (h6, ob 3 [.ref h29, .ref h30, .ref h31, .ref h32, .ref h33, .ref h34, .ref h35, .ref h36, .int h1f0, .int 60, .int v12, .int 0]), (h11, aJ (k 1) 9 anJ), (h29, aJ (k 1) 180 anJ), (h30, aI (k 0) 60 anI), (h31, aI (k 0) 60 anI), (h32, aI (k 0) 60 anI), (h34, aI (k 0) 128 (rgI (-1) 59)), (h35, aI (k 0) 60 (rgI (-1) 59))] H := hT
    refine lv_pop hx hb dX10_orbit_49 rfl ?_
    refine lv_aload_n hx hb dX10_orbit_50 rfl (lv_at hl 0 rfl) ?_
    refine tz_get (ci := 7) (v := .ref h6) (C := RX10) (F := TX10) (N := 17) hx hb hU iX10 hown hK hT 5 rfl rfl 7 (by decide) w256 (fun _ h9 => h9) rfl dX10_orbit_51 ?_
    refine lv_aload_n hx hb dX10_orbit_54 rfl (lv_at hl 0 rfl) ?_
    refine tz_get (ci := 7) (v := .ref h9) (C := RX10) (F := TX10) (N := 17) hx hb hU iX10 hown hK hT 5 rfl rfl 13 (by decide) w262 (fun _ h9 => h9) rfl dX10_orbit_55 ?_
    refine lv_aload_n hx hb dX10_orbit_58 rfl (lv_at hl 0 rfl) ?_
    refine tz_get (ci := 7) (v := .ref h1) (C := RX10) (F := TX10) (N := 17) hx hb hU iX10 hown hK hT 5 rfl rfl 0 (by decide) w249 (fun _ h9 => h9) rfl dX10_orbit_59 ?_
    refine tz_get (ci := 4) (v := .int h1f1) (C := RX5) (F := TX5) (N := 4) hx hb hU iX5 hown hK hT 0 rfl rfl 1 (by decide) w97 (fun _ h9 => h9) rfl dX10_orbit_62 ?_
    have q_q14 := li_60
    have q_q15 := li_0
    refine tcV (Tc := [(h6, ob 3 [.ref h29, .ref h30, .ref h31, .ref h32, .ref h33, .ref h34, .ref h35, .ref h36, .int h1f0, .int 60, .int v12, .int 0]), (h9, ob 1 [.ref h1]), (h29, aJ (k 1) 180 anJ), (h30, aI (k 0) 60 anI), (h31, aI (k 0) 60 anI), (h32, aI (k 0) 60 anI), (h33, aI (k 0) 240 anI), (h34, aI (k 0) 128 (rgI (-1) 59)), (h35, aI (k 0) 60 (rgI (-1) 59)), (h36, aJ (k 1) 60 anJ), (h1, ob 4 [.int h1f0, .int h1f1, .int h1f2, .ref h13]), (h13, aJ (k 1) 36 anJ)]) (Tr := [(h0, ob 7 [.ref h1, .ref h2, .int h0f2, .ref h3, .ref h4, .ref h5, .int h0f6, .ref h6, .int h0f8, .null, .ref h7, .int h0f11, .ref h8, .ref h9, .ref h10, .ref h11, .ref h12]), (h11, aJ (k 1) 9 anJ)]) (as := [h6, h9, h29, h30, h31, h32, h33, h34, h35, h36, h1, h13]) (zcV (q0 := 6) (ci := 3) (As := [.ref h9, .int h1f1]) (rest := []) (Tc := [(h6, ob 3 [.ref h29, .ref h30, .ref h31, .ref h32, .ref h33, .ref h34, .ref h35, .ref h36, .int h1f0, .int 60, .int v12, .int 0]), (h9, ob 1 [.ref h1]), (h29, aJ (k 1) 180 anJ), (h30, aI (k 0) 60 anI), (h31, aI (k 0) 60 anI), (h32, aI (k 0) 60 anI), (h33, aI (k 0) 240 anI), (h34, aI (k 0) 128 (rgI (-1) 59)), (h35, aI (k 0) 60 (rgI (-1) 59)), (h36, aJ (k 1) 60 anJ), (h1, ob 4 [.int h1f0, .int h1f1, .int h1f2, .ref h13]), (h13, aJ (k 1) 36 anJ)]) hx hb hml hown hU hK hT rfl rfl [6, 1, 8, 9, 10, 11, 3, 12, 13, 4, 0, 2] rfl (by decide) (cX4_spread_6c665 l D k _ h6 h9 h29 h30 h31 h32 h33 h34 h35 h36 h1 h13 h1f1 h1f0 (60) v12 (0) h1f0 h1f1 h1f2 (by omega) (by omega) (by have := li_60; omega) (by omega) (by have := li_0; omega) (by omega) (by omega)) w519 w516 w517 w518 w66 hdX4_spread ⟨rfl, rfl⟩ ⟨Nat.le_of_ble_eq_true rfl, Nat.le_of_ble_eq_true rfl⟩ rfl hl.1 (Nat.le_of_ble_eq_true rfl) dX10_orbit_65 ⟨Nat.le_of_ble_eq_true rfl, Nat.le_of_ble_eq_true rfl⟩) hT hS hA [6, 1, 8, 9, 10, 11, 3, 12, 13, 4, 0, 2] [5, 7] rfl rfl rfl (by decide) (by decide) (fun H locs hB J hS => ?_)
    obtain ⟨v16, v17, b_v16, b_v17, hT1⟩ := hB
    have hT := J _ hT1
    have hT : TP D A [(h0, ob 7 [.ref h1, .ref h2, .int h0f2, .ref h3, .ref h4, .ref h5, .int h0f6, .ref h6, .int h0f8, .null, .ref h7, .int h0f11, .ref h8, .ref h9, .ref h10, .ref h11, .ref h12]), (h11, aJ (k 1) 9 anJ), (h6, ob 3 [.ref h29, .ref h30, .ref h31, .ref h32, .ref h33, .ref h34, .ref h35, .ref h36, .int h1f0, .int 60, .int v16, .int v17]), (h9, ob 1 [.ref h1]), (h29, aJ (k 1) 180 anJ), (h30, aI (k 0) 60 anI), (h31, aI (k 0) 60 anI), (h32, aI (k 0) 60 anI), (h33, aI (k 0) 240 anI), (h34, aI (k 0) 128 (rgI (-1) 59)), (h35, aI (k 0) 60 (rgI (-1) 59)), (h36, aJ (k 1) 60 anJ), (h1, ob 4 [.int h1f0, .int h1f1, .int h1f2, .ref h13]), (h13, aJ (k 1) 36 anJ)] H := hT
    refine lv_aload_n hx hb dX10_orbit_68 rfl (lv_at hl 0 rfl) ?_
    refine lv_iconst (v := 1) hx hb dX10_orbit_69 (by decide) ?_
    refine tz_put (ci := 7) (v := .int 1) (ty := .boolean) (C := RX10) (F := TX10) (N := 17) hx hb hU iX10 tyX10 tyX10_ok nmX10 hown hK hT hS 0 rfl rfl 8 (by decide) w257 (fun _ h9 => h9) rfl (by decide +kernel) rfl rfl (Nat.le_of_ble_eq_true rfl) dX10_orbit_70 (fun H locs hT hS => ?_)
    have hT : TP D A [(h0, ob 7 [.ref h1, .ref h2, .int h0f2, .ref h3, .ref h4, .ref h5, .int h0f6, .ref h6, .int 1, .null, .ref h7, .int h0f11, .ref h8, .ref h9, .ref h10, .ref h11, .ref h12]), (h11, aJ (k 1) 9 anJ), (h6, ob 3 [.ref h29, .ref h30, .ref h31, .ref h32, .ref h33, .ref h34, .ref h35, .ref h36, .int h1f0, .int 60, .int v16, .int v17]), (h9, ob 1 [.ref h1]), (h29, aJ (k 1) 180 anJ), (h30, aI (k 0) 60 anI), (h31, aI (k 0) 60 anI), (h32, aI (k 0) 60 anI), (h33, aI (k 0) 240 anI), (h34, aI (k 0) 128 (rgI (-1) 59)), (h35, aI (k 0) 60 (rgI (-1) 59)), (h36, aJ (k 1) 60 anJ), (h1, ob 4 [.int h1f0, .int h1f1, .int h1f2, .ref h13]), (h13, aJ (k 1) 36 anJ)] H := hT
    refine lv_aload_n hx hb dX10_orbit_73 rfl (lv_at hl 0 rfl) ?_
    refine lv_iconst (v := 0) hx hb dX10_orbit_74 (by decide) ?_
    refine tz_put (ci := 7) (v := .int 0) (ty := .int) (C := RX10) (F := TX10) (N := 17) hx hb hU iX10 tyX10 tyX10_ok nmX10 hown hK hT hS 0 rfl rfl 11 (by decide) w260 (fun _ h9 => h9) rfl (by decide +kernel) rfl rfl (Nat.le_of_ble_eq_true rfl) dX10_orbit_75 (fun H locs hT hS => ?_)
    have hT : TP D A [(h0, ob 7 [.ref h1, .ref h2, .int h0f2, .ref h3, .ref h4, .ref h5, .int h0f6, .ref h6, .int 1, .null, .ref h7, .int 0, .ref h8, .ref h9, .ref h10, .ref h11, .ref h12]), (h11, aJ (k 1) 9 anJ), (h6, ob 3 [.ref h29, .ref h30, .ref h31, .ref h32, .ref h33, .ref h34, .ref h35, .ref h36, .int h1f0, .int 60, .int v16, .int v17]), (h9, ob 1 [.ref h1]), (h29, aJ (k 1) 180 anJ), (h30, aI (k 0) 60 anI), (h31, aI (k 0) 60 anI), (h32, aI (k 0) 60 anI), (h33, aI (k 0) 240 anI), (h34, aI (k 0) 128 (rgI (-1) 59)), (h35, aI (k 0) 60 (rgI (-1) 59)), (h36, aJ (k 1) 60 anJ), (h1, ob 4 [.int h1f0, .int h1f1, .int h1f2, .ref h13]), (h13, aJ (k 1) 36 anJ)] H := hT
    refine lv_aload_n hx hb dX10_orbit_78 rfl (lv_at hl 0 rfl) ?_
    refine tz_get (ci := 7) (v := .ref h6) (C := RX10) (F := TX10) (N := 17) hx hb hU iX10 hown hK hT 0 rfl rfl 7 (by decide) w256 (fun _ h9 => h9) rfl dX10_orbit_79 ?_
    refine tz_get (ci := 3) (v := .int v16) (C := RX4) (F := TX4) (N := 12) hx hb hU iX4 hown hK hT 2 rfl rfl 10 (by decide) w166 (fun _ h9 => h9) rfl dX10_orbit_82 ?_
    exact tz_retI (B := B_cX10_orbit_fcf9f D k h0 h1 h6 h9 h11 h13 h29 h30 h31 h32 h33 h34 h35 h36 h2 h3 h4 h5 h7 h8 h10 h12 x1 x2 x3 h0f2 h0f6 h0f8 h0f11 h1f0 h1f1 h1f2 h6f8 h6f9 h6f10 h6f11) (v := v16) hQ hx hb hr hlocks hS (Nat.le_of_ble_eq_true rfl) (Nat.le_of_ble_eq_true rfl) dX10_orbit_85 (⟨1, 0, h1f0, 60, v16, v17, (by have := li_1; have := li_0; have := li_60; omega), (by have := li_1; have := li_0; have := li_60; omega), (by have := li_1; have := li_0; have := li_60; omega), (by have := li_1; have := li_0; have := li_60; omega), (by have := li_1; have := li_0; have := li_60; omega), (by have := li_1; have := li_0; have := li_60; omega), (by have := li_1; have := li_0; have := li_60; omega), (hT.sub [0, 12, 2, 3, 1, 13, 4, 5, 6, 7, 8, 9, 10, 11] (by decide) rfl)⟩)
  · skip
    have c_2 := ni_eq c_2 rfl li_0
    refine lv_iconst (v := (-1)) hx hb dX10_orbit_9 (by decide) ?_
    exact tz_retI (B := B_cX10_orbit_fcf9f D k h0 h1 h6 h9 h11 h13 h29 h30 h31 h32 h33 h34 h35 h36 h2 h3 h4 h5 h7 h8 h10 h12 x1 x2 x3 h0f2 h0f6 h0f8 h0f11 h1f0 h1f1 h1f2 h6f8 h6f9 h6f10 h6f11) (v := (-1)) hQ hx hb hr hlocks hS (Nat.le_of_ble_eq_true rfl) (Nat.le_of_ble_eq_true rfl) dX10_orbit_10 (⟨h0f8, h0f11, h6f8, h6f9, h6f10, h6f11, (by have := li_m1; omega), (by have := li_m1; omega), (by have := li_m1; omega), (by have := li_m1; omega), (by have := li_m1; omega), (by have := li_m1; omega), (by have := li_m1; omega), hT⟩)
abbrev Rm_cX10_setPoint_d1eb2 : Room := { frames := 0, cells := 0, slots := 0, locals := 0 }
abbrev B_cX10_setPoint_d1eb2 (D : va_G) (k : Nat → ClassId) (h0 h12 h1 h2 h3 h4 h5 h6 h7 h8 h9 h10 h11 h13 : Nat) (x1 : Int32) (x2 : Int32) (x3 : Int32) (h0f2 : Int32) (h0f6 : Int32) (h0f8 : Int32) (h0f11 : Int32) (A : Nat → Prop) (H : Heap) : Prop := TP D A [(h0, ob 7 [.ref h1, .ref h2, .int h0f2, .ref h3, .ref h4, .ref h5, .int h0f6, .ref h6, .int h0f8, .ref h7, .ref h8, .int h0f11, .ref h9, .ref h10, .ref h11, .ref h12, .ref h13]), (h12, aJ (k 1) 9 anJ)] H
set_option maxHeartbeats 4000000 in
set_option maxRecDepth 100000 in
theorem cX10_setPoint_d1eb2 (l : Launch) (D : va_G) (k : Nat → ClassId) (sz : Nat) (h0 h12 h1 h2 h3 h4 h5 h6 h7 h8 h9 h10 h11 h13 : Nat) (x1 : Int32) (x2 : Int32) (x3 : Int32) (h0f2 : Int32) (h0f6 : Int32) (h0f8 : Int32) (h0f11 : Int32) (b_h0f2 : 0 ≤ h0f2.toInt ∧ h0f2.toInt ≤ 1) (b_h0f6 : 0 ≤ h0f6.toInt ∧ h0f6.toInt ≤ 1) (b_h0f8 : 0 ≤ h0f8.toInt ∧ h0f8.toInt ≤ 1) (b_h0f11 : 0 ≤ h0f11.toInt ∧ h0f11.toInt ≤ 200) : Met l yX10_setPoint (Cond.code yX10_setPoint cX10_setPoint 4 none :: uw) Rm_cX10_setPoint_d1eb2 (pT D k sz [.ref h0, .int x1, .int x2, .int x3] [(h0, ob 7 [.ref h1, .ref h2, .int h0f2, .ref h3, .ref h4, .ref h5, .int h0f6, .ref h6, .int h0f8, .ref h7, .ref h8, .int h0f11, .ref h9, .ref h10, .ref h11, .ref h12, .ref h13]), (h12, aJ (k 1) 9 anJ)]) (qV (B_cX10_setPoint_d1eb2 D k h0 h12 h1 h2 h3 h4 h5 h6 h7 h8 h9 h10 h11 h13 x1 x2 x3 h0f2 h0f6 h0f8 h0f11 (zA [h0, h12] sz)) (zA [h0, h12] sz)) 0 0 (zA [h0, h12] sz) := by
  refine tz_begin (as := [h0, h12]) (Qc := fun A => qV (B_cX10_setPoint_d1eb2 D k h0 h12 h1 h2 h3 h4 h5 h6 h7 h8 h9 h10 h11 h13 x1 x2 x3 h0f2 h0f6 h0f8 h0f11 A) A) (by decide +kernel) rfl (Nat.le_of_ble_eq_true rfl) ?_
  intro p e s m args below meth c ls A Q hx hb hr hml hown hlocks hin hU hK hT hS hA hl hQ
  have hl : lv_has ls 4 [(0, .ref h0), (1, .int x1), (2, .int x2), (3, .int x3)] := hl
  have hT : TP D A [(h0, ob 7 [.ref h1, .ref h2, .int h0f2, .ref h3, .ref h4, .ref h5, .int h0f6, .ref h6, .int h0f8, .ref h7, .ref h8, .int h0f11, .ref h9, .ref h10, .ref h11, .ref h12, .ref h13]), (h12, aJ (k 1) 9 anJ)] s.heap := hT
  refine lv_aload_n hx hb dX10_setPoint_0 rfl (lv_at hl 0 rfl) ?_
  refine tz_get (ci := 7) (v := .ref h12) (C := RX10) (F := TX10) (N := 17) hx hb hU iX10 hown hK hT 0 rfl rfl 15 (by decide) w264 (fun _ h9 => h9) rfl dX10_setPoint_1 ?_
  refine lv_iconst (v := 0) hx hb dX10_setPoint_4 (by decide) ?_
  refine lv_iload_n hx hb dX10_setPoint_5 rfl (lv_at hl 1 rfl) ?_
  obtain ⟨v1, e_v1⟩ : ∃ x : Int64, x1.toInt64 = x := ⟨_, rfl⟩
  refine lv_i2l (v := v1) hx hb dX10_setPoint_6 e_v1 ?_
  have e_v1 := ai_i2l e_v1 rfl
  refine tz_last hx hb hK hT hS 1 rfl (by have := li_0; omega) (fun _ _ => trivial) dX10_setPoint_7 (fun H locs hT hS => ?_)
  refine lv_aload_n hx hb dX10_setPoint_8 rfl (lv_at hl 0 rfl) ?_
  refine tz_get (ci := 7) (v := .ref h12) (C := RX10) (F := TX10) (N := 17) hx hb hU iX10 hown hK hT 0 rfl rfl 15 (by decide) w264 (fun _ h9 => h9) rfl dX10_setPoint_9 ?_
  refine lv_iconst (v := 1) hx hb dX10_setPoint_12 (by decide) ?_
  refine lv_iload_n hx hb dX10_setPoint_13 rfl (lv_at hl 2 rfl) ?_
  obtain ⟨v2, e_v2⟩ : ∃ x : Int64, x2.toInt64 = x := ⟨_, rfl⟩
  refine lv_i2l (v := v2) hx hb dX10_setPoint_14 e_v2 ?_
  have e_v2 := ai_i2l e_v2 rfl
  refine tz_last hx hb hK hT hS 1 rfl (by have := li_1; omega) (fun _ _ => trivial) dX10_setPoint_15 (fun H locs hT hS => ?_)
  refine lv_aload_n hx hb dX10_setPoint_16 rfl (lv_at hl 0 rfl) ?_
  refine tz_get (ci := 7) (v := .ref h12) (C := RX10) (F := TX10) (N := 17) hx hb hU iX10 hown hK hT 0 rfl rfl 15 (by decide) w264 (fun _ h9 => h9) rfl dX10_setPoint_17 ?_
  refine lv_iconst (v := 2) hx hb dX10_setPoint_20 (by decide) ?_
  refine lv_iload_n hx hb dX10_setPoint_21 rfl (lv_at hl 3 rfl) ?_
  obtain ⟨v3, e_v3⟩ : ∃ x : Int64, x3.toInt64 = x := ⟨_, rfl⟩
  refine lv_i2l (v := v3) hx hb dX10_setPoint_22 e_v3 ?_
  have e_v3 := ai_i2l e_v3 rfl
  refine tz_last hx hb hK hT hS 1 rfl (by have := li_2; omega) (fun _ _ => trivial) dX10_setPoint_23 (fun H locs hT hS => ?_)
  exact tz_retV (B := B_cX10_setPoint_d1eb2 D k h0 h12 h1 h2 h3 h4 h5 h6 h7 h8 h9 h10 h11 h13 x1 x2 x3 h0f2 h0f6 h0f8 h0f11) hQ hx hb hr hlocks hS (Nat.le_of_ble_eq_true rfl) (Nat.le_of_ble_eq_true rfl) dX10_setPoint_24 (hT)
abbrev Rm_cX10_orbit_13963 : Room := { frames := 5, cells := 0, slots := 0, locals := 128 }
abbrev B_cX10_orbit_13963 (D : va_G) (k : Nat → ClassId) (h0 h1 h6 h10 h12 h14 h30 h31 h32 h33 h34 h35 h36 h37 h2 h3 h4 h5 h7 h8 h9 h11 h13 : Nat) (x1 : Int32) (x2 : Int32) (x3 : Int32) (h0f2 : Int32) (h0f6 : Int32) (h0f8 : Int32) (h0f11 : Int32) (h1f0 : Int32) (h1f1 : Int32) (h1f2 : Int32) (h6f8 : Int32) (h6f9 : Int32) (h6f10 : Int32) (h6f11 : Int32) (A : Nat → Prop) (r : Int32) (H : Heap) : Prop := ∃ o0 : Int32, ∃ o1 : Int32, ∃ o2 : Int32, ∃ o3 : Int32, ∃ o4 : Int32, ∃ o5 : Int32, (0 ≤ o0.toInt ∧ o0.toInt ≤ 1) ∧ (0 ≤ o1.toInt ∧ o1.toInt ≤ 200) ∧ (0 ≤ o2.toInt ∧ o2.toInt ≤ 3) ∧ (0 ≤ o3.toInt ∧ o3.toInt ≤ 60) ∧ (0 ≤ o4.toInt ∧ o4.toInt ≤ 60) ∧ (0 ≤ o5.toInt ∧ o5.toInt ≤ 1) ∧ ((-1) ≤ r.toInt ∧ r.toInt ≤ 60) ∧ TP D A [(h0, ob 7 [.ref h1, .ref h2, .int h0f2, .ref h3, .ref h4, .ref h5, .int h0f6, .ref h6, .int o0, .ref h7, .ref h8, .int o1, .ref h9, .ref h10, .ref h11, .ref h12, .ref h13]), (h1, ob 4 [.int h1f0, .int h1f1, .int h1f2, .ref h14]), (h6, ob 3 [.ref h30, .ref h31, .ref h32, .ref h33, .ref h34, .ref h35, .ref h36, .ref h37, .int o2, .int o3, .int o4, .int o5]), (h10, ob 1 [.ref h1]), (h12, aJ (k 1) 9 anJ), (h14, aJ (k 1) 36 anJ), (h30, aJ (k 1) 180 anJ), (h31, aI (k 0) 60 anI), (h32, aI (k 0) 60 anI), (h33, aI (k 0) 60 anI), (h34, aI (k 0) 240 anI), (h35, aI (k 0) 128 (rgI (-1) 59)), (h36, aI (k 0) 60 (rgI (-1) 59)), (h37, aJ (k 1) 60 anJ)] H
set_option maxHeartbeats 4000000 in
set_option maxRecDepth 100000 in
theorem cX10_orbit_13963 (l : Launch) (D : va_G) (k : Nat → ClassId) (sz : Nat) (h0 h1 h6 h10 h12 h14 h30 h31 h32 h33 h34 h35 h36 h37 h2 h3 h4 h5 h7 h8 h9 h11 h13 : Nat) (x1 : Int32) (x2 : Int32) (x3 : Int32) (h0f2 : Int32) (h0f6 : Int32) (h0f8 : Int32) (h0f11 : Int32) (h1f0 : Int32) (h1f1 : Int32) (h1f2 : Int32) (h6f8 : Int32) (h6f9 : Int32) (h6f10 : Int32) (h6f11 : Int32) (b_h0f2 : 0 ≤ h0f2.toInt ∧ h0f2.toInt ≤ 1) (b_h0f6 : 0 ≤ h0f6.toInt ∧ h0f6.toInt ≤ 1) (b_h0f8 : 0 ≤ h0f8.toInt ∧ h0f8.toInt ≤ 1) (b_h0f11 : 0 ≤ h0f11.toInt ∧ h0f11.toInt ≤ 200) (b_h1f0 : 1 ≤ h1f0.toInt ∧ h1f0.toInt ≤ 3) (b_h1f1 : 0 ≤ h1f1.toInt ∧ h1f1.toInt ≤ 4) (b_h6f8 : 0 ≤ h6f8.toInt ∧ h6f8.toInt ≤ 3) (b_h6f9 : 0 ≤ h6f9.toInt ∧ h6f9.toInt ≤ 60) (b_h6f10 : 0 ≤ h6f10.toInt ∧ h6f10.toInt ≤ 60) (b_h6f11 : 0 ≤ h6f11.toInt ∧ h6f11.toInt ≤ 1) : Met l yX10_orbit (Cond.code yX10_orbit cX10_orbit 4 (some .int) :: uw) Rm_cX10_orbit_13963 (pT D k sz [.ref h0, .int x1, .int x2, .int x3] [(h0, ob 7 [.ref h1, .ref h2, .int h0f2, .ref h3, .ref h4, .ref h5, .int h0f6, .ref h6, .int h0f8, .ref h7, .ref h8, .int h0f11, .ref h9, .ref h10, .ref h11, .ref h12, .ref h13]), (h1, ob 4 [.int h1f0, .int h1f1, .int h1f2, .ref h14]), (h6, ob 3 [.ref h30, .ref h31, .ref h32, .ref h33, .ref h34, .ref h35, .ref h36, .ref h37, .int h6f8, .int h6f9, .int h6f10, .int h6f11]), (h10, ob 1 [.ref h1]), (h12, aJ (k 1) 9 anJ), (h14, aJ (k 1) 36 anJ), (h30, aJ (k 1) 180 anJ), (h31, aI (k 0) 60 anI), (h32, aI (k 0) 60 anI), (h33, aI (k 0) 60 anI), (h34, aI (k 0) 240 anI), (h35, aI (k 0) 128 (rgI (-1) 59)), (h36, aI (k 0) 60 (rgI (-1) 59)), (h37, aJ (k 1) 60 anJ)]) (qI (B_cX10_orbit_13963 D k h0 h1 h6 h10 h12 h14 h30 h31 h32 h33 h34 h35 h36 h37 h2 h3 h4 h5 h7 h8 h9 h11 h13 x1 x2 x3 h0f2 h0f6 h0f8 h0f11 h1f0 h1f1 h1f2 h6f8 h6f9 h6f10 h6f11 (zA [h0, h1, h6, h10, h12, h14, h30, h31, h32, h33, h34, h35, h36, h37] sz)) (zA [h0, h1, h6, h10, h12, h14, h30, h31, h32, h33, h34, h35, h36, h37] sz)) 0 0 (zA [h0, h1, h6, h10, h12, h14, h30, h31, h32, h33, h34, h35, h36, h37] sz) := by
  refine tz_begin (as := [h0, h1, h6, h10, h12, h14, h30, h31, h32, h33, h34, h35, h36, h37]) (Qc := fun A => qI (B_cX10_orbit_13963 D k h0 h1 h6 h10 h12 h14 h30 h31 h32 h33 h34 h35 h36 h37 h2 h3 h4 h5 h7 h8 h9 h11 h13 x1 x2 x3 h0f2 h0f6 h0f8 h0f11 h1f0 h1f1 h1f2 h6f8 h6f9 h6f10 h6f11 A) A) (by decide +kernel) rfl (Nat.le_of_ble_eq_true rfl) ?_
  intro p e s m args below meth c ls A Q hx hb hr hml hown hlocks hin hU hK hT hS hA hl hQ
  have hl : lv_has ls 4 [(0, .ref h0), (1, .int x1), (2, .int x2), (3, .int x3)] := hl
  have hT : TP D A [(h0, ob 7 [.ref h1, .ref h2, .int h0f2, .ref h3, .ref h4, .ref h5, .int h0f6, .ref h6, .int h0f8, .ref h7, .ref h8, .int h0f11, .ref h9, .ref h10, .ref h11, .ref h12, .ref h13]), (h1, ob 4 [.int h1f0, .int h1f1, .int h1f2, .ref h14]), (h6, ob 3 [.ref h30, .ref h31, .ref h32, .ref h33, .ref h34, .ref h35, .ref h36, .ref h37, .int h6f8, .int h6f9, .int h6f10, .int h6f11]), (h10, ob 1 [.ref h1]), (h12, aJ (k 1) 9 anJ), (h14, aJ (k 1) 36 anJ), (h30, aJ (k 1) 180 anJ), (h31, aI (k 0) 60 anI), (h32, aI (k 0) 60 anI), (h33, aI (k 0) 60 anI), (h34, aI (k 0) 240 anI), (h35, aI (k 0) 128 (rgI (-1) 59)), (h36, aI (k 0) 60 (rgI (-1) 59)), (h37, aJ (k 1) 60 anJ)] s.heap := hT
  refine lv_iload_n hx hb dX10_orbit_0 rfl (lv_at hl 1 rfl) ?_
  refine lv_iload_n hx hb dX10_orbit_1 rfl (lv_at hl 2 rfl) ?_
  refine lv_iload_n hx hb dX10_orbit_2 rfl (lv_at hl 3 rfl) ?_
  refine tcI (Tc := []) (Tr := [(h0, ob 7 [.ref h1, .ref h2, .int h0f2, .ref h3, .ref h4, .ref h5, .int h0f6, .ref h6, .int h0f8, .ref h7, .ref h8, .int h0f11, .ref h9, .ref h10, .ref h11, .ref h12, .ref h13]), (h1, ob 4 [.int h1f0, .int h1f1, .int h1f2, .ref h14]), (h6, ob 3 [.ref h30, .ref h31, .ref h32, .ref h33, .ref h34, .ref h35, .ref h36, .ref h37, .int h6f8, .int h6f9, .int h6f10, .int h6f11]), (h10, ob 1 [.ref h1]), (h12, aJ (k 1) 9 anJ), (h14, aJ (k 1) 36 anJ), (h30, aJ (k 1) 180 anJ), (h31, aI (k 0) 60 anI), (h32, aI (k 0) 60 anI), (h33, aI (k 0) 60 anI), (h34, aI (k 0) 240 anI), (h35, aI (k 0) 128 (rgI (-1) 59)), (h36, aI (k 0) 60 (rgI (-1) 59)), (h37, aJ (k 1) 60 anJ)]) (as := []) (zcS (As := [.int x1, .int x2, .int x3]) (rest := []) (Tc := []) hx hb hml hown hU hK hT [] rfl (by decide) (cX10_isStart_c203d l D k _ x1 x2 x3) w688 w686 w687 w63 hdX10_isStart ⟨rfl, rfl⟩ ⟨Nat.le_of_ble_eq_true rfl, Nat.le_of_ble_eq_true rfl⟩ rfl hl.1 (Nat.le_of_ble_eq_true rfl) dX10_orbit_3 ⟨Nat.le_of_ble_eq_true rfl, Nat.le_of_ble_eq_true rfl⟩) hT hS hA [] [0, 1, 2, 3, 4, 5, 6, 7, 8, 9, 10, 11, 12, 13] rfl rfl rfl (by decide) (by decide) (fun r1 H locs hB J hS => ?_)
  obtain ⟨b_r1, hT1⟩ := hB
  have hT := J _ hT1
  have hT : TP D A [(h0, ob 7 [.ref h1, .ref h2, .int h0f2, .ref h3, .ref h4, .ref h5, .int h0f6, .ref h6, .int h0f8, .ref h7, .ref h8, .int h0f11, .ref h9, .ref h10, .ref h11, .ref h12, .ref h13]), (h1, ob 4 [.int h1f0, .int h1f1, .int h1f2, .ref h14]), (h6, ob 3 [.ref h30, .ref h31, .ref h32, .ref h33, .ref h34, .ref h35, .ref h36, .ref h37, .int h6f8, .int h6f9, .int h6f10, .int h6f11]), (h10, ob 1 [.ref h1]), (h12, aJ (k 1) 9 anJ), (h14, aJ (k 1) 36 anJ), (h30, aJ (k 1) 180 anJ), (h31, aI (k 0) 60 anI), (h32, aI (k 0) 60 anI), (h33, aI (k 0) 60 anI), (h34, aI (k 0) 240 anI), (h35, aI (k 0) 128 (rgI (-1) 59)), (h36, aI (k 0) 60 (rgI (-1) 59)), (h37, aJ (k 1) 60 anJ)] H := hT
  refine lv_if_ne (tgt := 11) hx hb dX10_orbit_6 (by decide) (fun c_2 => ?_) (fun c_2 => ?_)
  · skip
    have c_2 := ni_ne c_2 rfl li_0
    refine lv_aload_n hx hb dX10_orbit_11 rfl (lv_at hl 0 rfl) ?_
    refine lv_iload_n hx hb dX10_orbit_12 rfl (lv_at hl 1 rfl) ?_
    refine lv_iload_n hx hb dX10_orbit_13 rfl (lv_at hl 2 rfl) ?_
    refine lv_iload_n hx hb dX10_orbit_14 rfl (lv_at hl 3 rfl) ?_
    refine tcV (Tc := [(h0, ob 7 [.ref h1, .ref h2, .int h0f2, .ref h3, .ref h4, .ref h5, .int h0f6, .ref h6, .int h0f8, .ref h7, .ref h8, .int h0f11, .ref h9, .ref h10, .ref h11, .ref h12, .ref h13]), (h12, aJ (k 1) 9 anJ)]) (Tr := [(h1, ob 4 [.int h1f0, .int h1f1, .int h1f2, .ref h14]), (h6, ob 3 [.ref h30, .ref h31, .ref h32, .ref h33, .ref h34, .ref h35, .ref h36, .ref h37, .int h6f8, .int h6f9, .int h6f10, .int h6f11]), (h10, ob 1 [.ref h1]), (h14, aJ (k 1) 36 anJ), (h30, aJ (k 1) 180 anJ), (h31, aI (k 0) 60 anI), (h32, aI (k 0) 60 anI), (h33, aI (k 0) 60 anI), (h34, aI (k 0) 240 anI), (h35, aI (k 0) 128 (rgI (-1) 59)), (h36, aI (k 0) 60 (rgI (-1) 59)), (h37, aJ (k 1) 60 anJ)]) (as := [h0, h12]) (zcV (q0 := 0) (ci := 7) (As := [.int x1, .int x2, .int x3]) (rest := []) (Tc := [(h0, ob 7 [.ref h1, .ref h2, .int h0f2, .ref h3, .ref h4, .ref h5, .int h0f6, .ref h6, .int h0f8, .ref h7, .ref h8, .int h0f11, .ref h9, .ref h10, .ref h11, .ref h12, .ref h13]), (h12, aJ (k 1) 9 anJ)]) hx hb hml hown hU hK hT rfl rfl [0, 4] rfl (by decide) (cX10_setPoint_d1eb2 l D k _ h0 h12 h1 h2 h3 h4 h5 h6 h7 h8 h9 h10 h11 h13 x1 x2 x3 h0f2 h0f6 h0f8 h0f11 (by omega) (by omega) (by omega) (by omega)) w695 w692 w694 w24 w63 hdX10_setPoint ⟨rfl, rfl⟩ ⟨Nat.le_of_ble_eq_true rfl, Nat.le_of_ble_eq_true rfl⟩ rfl hl.1 (Nat.le_of_ble_eq_true rfl) dX10_orbit_15 ⟨Nat.le_of_ble_eq_true rfl, Nat.le_of_ble_eq_true rfl⟩) hT hS hA [0, 4] [1, 2, 3, 5, 6, 7, 8, 9, 10, 11, 12, 13] rfl rfl rfl (by decide) (by decide) (fun H locs hB J hS => ?_)
    have hT1 := hB
    have hT := J _ hT1
    have hT : TP D A [(h1, ob 4 [.int h1f0, .int h1f1, .int h1f2, .ref h14]), (h6, ob 3 [.ref h30, .ref h31, .ref h32, .ref h33, .ref h34, .ref h35, .ref h36, .ref h37, .int h6f8, .int h6f9, .int h6f10, .int h6f11]), (h10, ob 1 [.ref h1]), (h14, aJ (k 1) 36 anJ), (h30, aJ (k 1) 180 anJ), (h31, aI (k 0) 60 anI), (h32, aI (k 0) 60 anI), (h33, aI (k 0) 60 anI), (h34, aI (k 0) 240 anI), (h35, aI (k 0) 128 (rgI (-1) 59)), (h36, aI (k 0) 60 (rgI (-1) 59)), (h37, aJ (k 1) 60 anJ), (h0, ob 7 [.ref h1, .ref h2, .int h0f2, .ref h3, .ref h4, .ref h5, .int h0f6, .ref h6, .int h0f8, .ref h7, .ref h8, .int h0f11, .ref h9, .ref h10, .ref h11, .ref h12, .ref h13]), (h12, aJ (k 1) 9 anJ)] H := hT
    refine lv_aload_n hx hb dX10_orbit_18 rfl (lv_at hl 0 rfl) ?_
    refine tz_get (ci := 7) (v := .ref h6) (C := RX10) (F := TX10) (N := 17) hx hb hU iX10 hown hK hT 12 rfl rfl 7 (by decide) w256 (fun _ h9 => h9) rfl dX10_orbit_19 ?_
    refine lv_aload_n hx hb dX10_orbit_22 rfl (lv_at hl 0 rfl) ?_
    refine tz_get (ci := 7) (v := .ref h1) (C := RX10) (F := TX10) (N := 17) hx hb hU iX10 hown hK hT 12 rfl rfl 0 (by decide) w249 (fun _ h9 => h9) rfl dX10_orbit_23 ?_
    refine tz_get (ci := 4) (v := .int h1f0) (C := RX5) (F := TX5) (N := 4) hx hb hU iX5 hown hK hT 0 rfl rfl 0 (by decide) w93 (fun _ h9 => h9) rfl dX10_orbit_26 ?_
    refine lv_bipush (v := 60) hx hb dX10_orbit_29 (by decide) ?_
    have q_q5 := li_60
    refine tcV (Tc := [(h6, ob 3 [.ref h30, .ref h31, .ref h32, .ref h33, .ref h34, .ref h35, .ref h36, .ref h37, .int h6f8, .int h6f9, .int h6f10, .int h6f11]), (h35, aI (k 0) 128 (rgI (-1) 59))]) (Tr := [(h1, ob 4 [.int h1f0, .int h1f1, .int h1f2, .ref h14]), (h10, ob 1 [.ref h1]), (h14, aJ (k 1) 36 anJ), (h30, aJ (k 1) 180 anJ), (h31, aI (k 0) 60 anI), (h32, aI (k 0) 60 anI), (h33, aI (k 0) 60 anI), (h34, aI (k 0) 240 anI), (h36, aI (k 0) 60 (rgI (-1) 59)), (h37, aJ (k 1) 60 anJ), (h0, ob 7 [.ref h1, .ref h2, .int h0f2, .ref h3, .ref h4, .ref h5, .int h0f6, .ref h6, .int h0f8, .ref h7, .ref h8, .int h0f11, .ref h9, .ref h10, .ref h11, .ref h12, .ref h13]), (h12, aJ (k 1) 9 anJ)]) (as := [h6, h35]) (zcV (q0 := 1) (ci := 3) (As := [.int h1f0, .int 60]) (rest := []) (Tc := [(h6, ob 3 [.ref h30, .ref h31, .ref h32, .ref h33, .ref h34, .ref h35, .ref h36, .ref h37, .int h6f8, .int h6f9, .int h6f10, .int h6f11]), (h35, aI (k 0) 128 (rgI (-1) 59))]) hx hb hml hown hU hK hT rfl rfl [1, 9] rfl (by decide) (cX4_clear_374d6 l D k _ h6 h35 h30 h31 h32 h33 h34 h36 h37 h1f0 (60) h6f8 h6f9 h6f10 h6f11 (by omega) (by have := li_60; omega) (by omega) (by omega) (by omega) (by omega)) w496 w493 w494 w495 w66 hdX4_clear ⟨rfl, rfl⟩ ⟨Nat.le_of_ble_eq_true rfl, Nat.le_of_ble_eq_true rfl⟩ rfl hl.1 (Nat.le_of_ble_eq_true rfl) dX10_orbit_31 ⟨Nat.le_of_ble_eq_true rfl, Nat.le_of_ble_eq_true rfl⟩) hT hS hA [1, 9] [0, 2, 3, 4, 5, 6, 7, 8, 10, 11, 12, 13] rfl rfl rfl (by decide) (by decide) (fun H locs hB J hS => ?_)
    have hT1 := hB
    have hT := J _ hT1
    have hT : TP D A [(h1, ob 4 [.int h1f0, .int h1f1, .int h1f2, .ref h14]), (h10, ob 1 [.ref h1]), (h14, aJ (k 1) 36 anJ), (h30, aJ (k 1) 180 anJ), (h31, aI (k 0) 60 anI), (h32, aI (k 0) 60 anI), (h33, aI (k 0) 60 anI), (h34, aI (k 0) 240 anI), (h36, aI (k 0) 60 (rgI (-1) 59)), (h37, aJ (k 1) 60 anJ), (h0, ob 7 [.ref h1, .ref h2, .int h0f2, .ref h3, .ref h4, .ref h5, .int h0f6, .ref h6, .int h0f8, .ref h7, .ref h8, .int h0f11, .ref h9, .ref h10, .ref h11, .ref h12, .ref h13]), (h12, aJ (k 1) 9 anJ), (h6, ob 3 [.ref h30, .ref h31, .ref h32, .ref h33, .ref h34, .ref h35, .ref h36, .ref h37, .int h1f0, .int 60, .int 0, .int 0]), (h35, aI (k 0) 128 (rgI (-1) 59))] H := hT
    refine lv_aload_n hx hb dX10_orbit_34 rfl (lv_at hl 0 rfl) ?_
    refine tz_get (ci := 7) (v := .ref h6) (C := RX10) (F := TX10) (N := 17) hx hb hU iX10 hown hK hT 10 rfl rfl 7 (by decide) w256 (fun _ h9 => h9) rfl dX10_orbit_35 ?_
    refine lv_aload_n hx hb dX10_orbit_38 rfl (lv_at hl 0 rfl) ?_
    refine tz_get (ci := 7) (v := .ref h12) (C := RX10) (F := TX10) (N := 17) hx hb hU iX10 hown hK hT 10 rfl rfl 15 (by decide) w264 (fun _ h9 => h9) rfl dX10_orbit_39 ?_
    refine lv_bipush (v := (-3)) hx hb dX10_orbit_42 (by decide) ?_
    refine lv_bipush (v := (-3)) hx hb dX10_orbit_44 (by decide) ?_
    have q_q7 := li_m3
    have q_q8 := li_m3
    have q_q9 := li_60
    have q_q10 := li_0
    have q_q11 := li_0
    refine tcI (Tc := [(h6, ob 3 [.ref h30, .ref h31, .ref h32, .ref h33, .ref h34, .ref h35, .ref h36, .ref h37, .int h1f0, .int 60, .int 0, .int 0]), (h12, aJ (k 1) 9 anJ), (h30, aJ (k 1) 180 anJ), (h31, aI (k 0) 60 anI), (h32, aI (k 0) 60 anI), (h33, aI (k 0) 60 anI), (h35, aI (k 0) 128 (rgI (-1) 59)), (h36, aI (k 0) 60 (rgI (-1) 59))]) (Tr := [(h1, ob 4 [.int h1f0, .int h1f1, .int h1f2, .ref h14]), (h10, ob 1 [.ref h1]), (h14, aJ (k 1) 36 anJ), (h34, aI (k 0) 240 anI), (h37, aJ (k 1) 60 anJ), (h0, ob 7 [.ref h1, .ref h2, .int h0f2, .ref h3, .ref h4, .ref h5, .int h0f6, .ref h6, .int h0f8, .ref h7, .ref h8, .int h0f11, .ref h9, .ref h10, .ref h11, .ref h12, .ref h13])]) (as := [h6, h12, h30, h31, h32, h33, h35, h36]) (zcV (q0 := 12) (ci := 3) (As := [.ref h12, .int (-3), .int (-3)]) (rest := []) (Tc := [(h6, ob 3 [.ref h30, .ref h31, .ref h32, .ref h33, .ref h34, .ref h35, .ref h36, .ref h37, .int h1f0, .int 60, .int 0, .int 0]), (h12, aJ (k 1) 9 anJ), (h30, aJ (k 1) 180 anJ), (h31, aI (k 0) 60 anI), (h32, aI (k 0) 60 anI), (h33, aI (k 0) 60 anI), (h35, aI (k 0) 128 (rgI (-1) 59)), (h36, aI (k 0) 60 (rgI (-1) 59))]) hx hb hml hown hU hK hT rfl rfl [12, 11, 3, 4, 5, 6, 13, 8] rfl (by decide) (cX4_append_e5fbb l D k _ h6 h12 h30 h31 h32 h33 h35 h36 h34 h37 ((-3)) ((-3)) h1f0 (60) (0) (0) (by have := li_m3; omega) (by have := li_m3; omega) (by omega) (by have := li_60; omega) (by have := li_0; omega) (by have := li_0; omega)) w501 w498 w499 w500 w66 hdX4_append ⟨rfl, rfl⟩ ⟨Nat.le_of_ble_eq_true rfl, Nat.le_of_ble_eq_true rfl⟩ rfl hl.1 (Nat.le_of_ble_eq_true rfl) dX10_orbit_46 ⟨Nat.le_of_ble_eq_true rfl, Nat.le_of_ble_eq_true rfl⟩) hT hS hA [12, 11, 3, 4, 5, 6, 13, 8] [0, 1, 2, 7, 9, 10] rfl rfl rfl (by decide) (by decide) (fun r6 H locs hB J hS => ?_)
    obtain ⟨v12, b_v12, rfl, hT1⟩ := hB
    have hT := J _ hT1
    have hT : TP D A [(h1, ob 4 [.int h1f0, .int h1f1, .int h1f2, .ref h14]), (h10, ob 1 [.ref h1]), (h14, aJ (k 1) 36 anJ), (h34, aI (k 0) 240 anI), (h37, aJ (k 1) 60 anJ), (h0, ob 7 [.ref h1, .ref h2, .int h0f2, .ref h3, .ref h4, .ref h5, .int h0f6, .ref h6, .int h0f8, .ref h7, .ref h8, .int h0f11, .ref h9, .ref h10, .ref h11, .ref h12, .ref h13]), (h6, ob 3 [.ref h30, .ref h31, .ref h32, .ref h33, .ref h34, .ref h35, .ref h36, .ref h37, .int h1f0, .int 60, .int v12, .int 0]), (h12, aJ (k 1) 9 anJ), (h30, aJ (k 1) 180 anJ), (h31, aI (k 0) 60 anI), (h32, aI (k 0) 60 anI), (h33, aI (k 0) 60 anI), (h35, aI (k 0) 128 (rgI (-1) 59)), (h36, aI (k 0) 60 (rgI (-1) 59))] H := hT
    refine lv_pop hx hb dX10_orbit_49 rfl ?_
    refine lv_aload_n hx hb dX10_orbit_50 rfl (lv_at hl 0 rfl) ?_
    refine tz_get (ci := 7) (v := .ref h6) (C := RX10) (F := TX10) (N := 17) hx hb hU iX10 hown hK hT 5 rfl rfl 7 (by decide) w256 (fun _ h9 => h9) rfl dX10_orbit_51 ?_
    refine lv_aload_n hx hb dX10_orbit_54 rfl (lv_at hl 0 rfl) ?_
    refine tz_get (ci := 7) (v := .ref h10) (C := RX10) (F := TX10) (N := 17) hx hb hU iX10 hown hK hT 5 rfl rfl 13 (by decide) w262 (fun _ h9 => h9) rfl dX10_orbit_55 ?_
    refine lv_aload_n hx hb dX10_orbit_58 rfl (lv_at hl 0 rfl) ?_
    refine tz_get (ci := 7) (v := .ref h1) (C := RX10) (F := TX10) (N := 17) hx hb hU iX10 hown hK hT 5 rfl rfl 0 (by decide) w249 (fun _ h9 => h9) rfl dX10_orbit_59 ?_
    refine tz_get (ci := 4) (v := .int h1f1) (C := RX5) (F := TX5) (N := 4) hx hb hU iX5 hown hK hT 0 rfl rfl 1 (by decide) w97 (fun _ h9 => h9) rfl dX10_orbit_62 ?_
    have q_q14 := li_60
    have q_q15 := li_0
    refine tcV (Tc := [(h6, ob 3 [.ref h30, .ref h31, .ref h32, .ref h33, .ref h34, .ref h35, .ref h36, .ref h37, .int h1f0, .int 60, .int v12, .int 0]), (h10, ob 1 [.ref h1]), (h30, aJ (k 1) 180 anJ), (h31, aI (k 0) 60 anI), (h32, aI (k 0) 60 anI), (h33, aI (k 0) 60 anI), (h34, aI (k 0) 240 anI), (h35, aI (k 0) 128 (rgI (-1) 59)), (h36, aI (k 0) 60 (rgI (-1) 59)), (h37, aJ (k 1) 60 anJ), (h1, ob 4 [.int h1f0, .int h1f1, .int h1f2, .ref h14]), (h14, aJ (k 1) 36 anJ)]) (Tr := [(h0, ob 7 [.ref h1, .ref h2, .int h0f2, .ref h3, .ref h4, .ref h5, .int h0f6, .ref h6, .int h0f8, .ref h7, .ref h8, .int h0f11, .ref h9, .ref h10, .ref h11, .ref h12, .ref h13]), (h12, aJ (k 1) 9 anJ)]) (as := [h6, h10, h30, h31, h32, h33, h34, h35, h36, h37, h1, h14]) (zcV (q0 := 6) (ci := 3) (As := [.ref h10, .int h1f1]) (rest := []) (Tc := [(h6, ob 3 [.ref h30, .ref h31, .ref h32, .ref h33, .ref h34, .ref h35, .ref h36, .ref h37, .int h1f0, .int 60, .int v12, .int 0]), (h10, ob 1 [.ref h1]), (h30, aJ (k 1) 180 anJ), (h31, aI (k 0) 60 anI), (h32, aI (k 0) 60 anI), (h33, aI (k 0) 60 anI), (h34, aI (k 0) 240 anI), (h35, aI (k 0) 128 (rgI (-1) 59)), (h36, aI (k 0) 60 (rgI (-1) 59)), (h37, aJ (k 1) 60 anJ), (h1, ob 4 [.int h1f0, .int h1f1, .int h1f2, .ref h14]), (h14, aJ (k 1) 36 anJ)]) hx hb hml hown hU hK hT rfl rfl [6, 1, 8, 9, 10, 11, 3, 12, 13, 4, 0, 2] rfl (by decide) (cX4_spread_6c665 l D k _ h6 h10 h30 h31 h32 h33 h34 h35 h36 h37 h1 h14 h1f1 h1f0 (60) v12 (0) h1f0 h1f1 h1f2 (by omega) (by omega) (by have := li_60; omega) (by omega) (by have := li_0; omega) (by omega) (by omega)) w519 w516 w517 w518 w66 hdX4_spread ⟨rfl, rfl⟩ ⟨Nat.le_of_ble_eq_true rfl, Nat.le_of_ble_eq_true rfl⟩ rfl hl.1 (Nat.le_of_ble_eq_true rfl) dX10_orbit_65 ⟨Nat.le_of_ble_eq_true rfl, Nat.le_of_ble_eq_true rfl⟩) hT hS hA [6, 1, 8, 9, 10, 11, 3, 12, 13, 4, 0, 2] [5, 7] rfl rfl rfl (by decide) (by decide) (fun H locs hB J hS => ?_)
    obtain ⟨v16, v17, b_v16, b_v17, hT1⟩ := hB
    have hT := J _ hT1
    have hT : TP D A [(h0, ob 7 [.ref h1, .ref h2, .int h0f2, .ref h3, .ref h4, .ref h5, .int h0f6, .ref h6, .int h0f8, .ref h7, .ref h8, .int h0f11, .ref h9, .ref h10, .ref h11, .ref h12, .ref h13]), (h12, aJ (k 1) 9 anJ), (h6, ob 3 [.ref h30, .ref h31, .ref h32, .ref h33, .ref h34, .ref h35, .ref h36, .ref h37, .int h1f0, .int 60, .int v16, .int v17]), (h10, ob 1 [.ref h1]), (h30, aJ (k 1) 180 anJ), (h31, aI (k 0) 60 anI), (h32, aI (k 0) 60 anI), (h33, aI (k 0) 60 anI), (h34, aI (k 0) 240 anI), (h35, aI (k 0) 128 (rgI (-1) 59)), (h36, aI (k 0) 60 (rgI (-1) 59)), (h37, aJ (k 1) 60 anJ), (h1, ob 4 [.int h1f0, .int h1f1, .int h1f2, .ref h14]), (h14, aJ (k 1) 36 anJ)] H := hT
    refine lv_aload_n hx hb dX10_orbit_68 rfl (lv_at hl 0 rfl) ?_
    refine lv_iconst (v := 1) hx hb dX10_orbit_69 (by decide) ?_
    refine tz_put (ci := 7) (v := .int 1) (ty := .boolean) (C := RX10) (F := TX10) (N := 17) hx hb hU iX10 tyX10 tyX10_ok nmX10 hown hK hT hS 0 rfl rfl 8 (by decide) w257 (fun _ h9 => h9) rfl (by decide +kernel) rfl rfl (Nat.le_of_ble_eq_true rfl) dX10_orbit_70 (fun H locs hT hS => ?_)
    have hT : TP D A [(h0, ob 7 [.ref h1, .ref h2, .int h0f2, .ref h3, .ref h4, .ref h5, .int h0f6, .ref h6, .int 1, .ref h7, .ref h8, .int h0f11, .ref h9, .ref h10, .ref h11, .ref h12, .ref h13]), (h12, aJ (k 1) 9 anJ), (h6, ob 3 [.ref h30, .ref h31, .ref h32, .ref h33, .ref h34, .ref h35, .ref h36, .ref h37, .int h1f0, .int 60, .int v16, .int v17]), (h10, ob 1 [.ref h1]), (h30, aJ (k 1) 180 anJ), (h31, aI (k 0) 60 anI), (h32, aI (k 0) 60 anI), (h33, aI (k 0) 60 anI), (h34, aI (k 0) 240 anI), (h35, aI (k 0) 128 (rgI (-1) 59)), (h36, aI (k 0) 60 (rgI (-1) 59)), (h37, aJ (k 1) 60 anJ), (h1, ob 4 [.int h1f0, .int h1f1, .int h1f2, .ref h14]), (h14, aJ (k 1) 36 anJ)] H := hT
    refine lv_aload_n hx hb dX10_orbit_73 rfl (lv_at hl 0 rfl) ?_
    refine lv_iconst (v := 0) hx hb dX10_orbit_74 (by decide) ?_
    refine tz_put (ci := 7) (v := .int 0) (ty := .int) (C := RX10) (F := TX10) (N := 17) hx hb hU iX10 tyX10 tyX10_ok nmX10 hown hK hT hS 0 rfl rfl 11 (by decide) w260 (fun _ h9 => h9) rfl (by decide +kernel) rfl rfl (Nat.le_of_ble_eq_true rfl) dX10_orbit_75 (fun H locs hT hS => ?_)
    have hT : TP D A [(h0, ob 7 [.ref h1, .ref h2, .int h0f2, .ref h3, .ref h4, .ref h5, .int h0f6, .ref h6, .int 1, .ref h7, .ref h8, .int 0, .ref h9, .ref h10, .ref h11, .ref h12, .ref h13]), (h12, aJ (k 1) 9 anJ), (h6, ob 3 [.ref h30, .ref h31, .ref h32, .ref h33, .ref h34, .ref h35, .ref h36, .ref h37, .int h1f0, .int 60, .int v16, .int v17]), (h10, ob 1 [.ref h1]), (h30, aJ (k 1) 180 anJ), (h31, aI (k 0) 60 anI), (h32, aI (k 0) 60 anI), (h33, aI (k 0) 60 anI), (h34, aI (k 0) 240 anI), (h35, aI (k 0) 128 (rgI (-1) 59)), (h36, aI (k 0) 60 (rgI (-1) 59)), (h37, aJ (k 1) 60 anJ), (h1, ob 4 [.int h1f0, .int h1f1, .int h1f2, .ref h14]), (h14, aJ (k 1) 36 anJ)] H := hT
    refine lv_aload_n hx hb dX10_orbit_78 rfl (lv_at hl 0 rfl) ?_
    refine tz_get (ci := 7) (v := .ref h6) (C := RX10) (F := TX10) (N := 17) hx hb hU iX10 hown hK hT 0 rfl rfl 7 (by decide) w256 (fun _ h9 => h9) rfl dX10_orbit_79 ?_
    refine tz_get (ci := 3) (v := .int v16) (C := RX4) (F := TX4) (N := 12) hx hb hU iX4 hown hK hT 2 rfl rfl 10 (by decide) w166 (fun _ h9 => h9) rfl dX10_orbit_82 ?_
    exact tz_retI (B := B_cX10_orbit_13963 D k h0 h1 h6 h10 h12 h14 h30 h31 h32 h33 h34 h35 h36 h37 h2 h3 h4 h5 h7 h8 h9 h11 h13 x1 x2 x3 h0f2 h0f6 h0f8 h0f11 h1f0 h1f1 h1f2 h6f8 h6f9 h6f10 h6f11) (v := v16) hQ hx hb hr hlocks hS (Nat.le_of_ble_eq_true rfl) (Nat.le_of_ble_eq_true rfl) dX10_orbit_85 (⟨1, 0, h1f0, 60, v16, v17, (by have := li_1; have := li_0; have := li_60; omega), (by have := li_1; have := li_0; have := li_60; omega), (by have := li_1; have := li_0; have := li_60; omega), (by have := li_1; have := li_0; have := li_60; omega), (by have := li_1; have := li_0; have := li_60; omega), (by have := li_1; have := li_0; have := li_60; omega), (by have := li_1; have := li_0; have := li_60; omega), (hT.sub [0, 12, 2, 3, 1, 13, 4, 5, 6, 7, 8, 9, 10, 11] (by decide) rfl)⟩)
  · skip
    have c_2 := ni_eq c_2 rfl li_0
    refine lv_iconst (v := (-1)) hx hb dX10_orbit_9 (by decide) ?_
    exact tz_retI (B := B_cX10_orbit_13963 D k h0 h1 h6 h10 h12 h14 h30 h31 h32 h33 h34 h35 h36 h37 h2 h3 h4 h5 h7 h8 h9 h11 h13 x1 x2 x3 h0f2 h0f6 h0f8 h0f11 h1f0 h1f1 h1f2 h6f8 h6f9 h6f10 h6f11) (v := (-1)) hQ hx hb hr hlocks hS (Nat.le_of_ble_eq_true rfl) (Nat.le_of_ble_eq_true rfl) dX10_orbit_10 (⟨h0f8, h0f11, h6f8, h6f9, h6f10, h6f11, (by have := li_m1; omega), (by have := li_m1; omega), (by have := li_m1; omega), (by have := li_m1; omega), (by have := li_m1; omega), (by have := li_m1; omega), (by have := li_m1; omega), hT⟩)
abbrev Rm_cX11_goes_2c552 : Room := { frames := 1, cells := 0, slots := 0, locals := 23 }
abbrev B_cX11_goes_2c552 (D : va_G) (k : Nat → ClassId) (h0 h1 h4 h5 h15 h2 h3 h6 h7 h8 h9 h10 h11 h12 h13 h14 h16 h17 h18 h19 h20 h21 : Nat) (x1 : Int32) (x2 : Int32) (h0f0 : Int32) (h0f1 : Int32) (h0f2 : Int32) (h0f3 : Int32) (h0f4 : Int32) (h0f5 : Int32) (h0f8 : Int32) (h0f9 : Int32) (h0f17 : Int32) (h0f18 : Int32) (h0f19 : Int32) (h0f24 : Int32) (h0f25 : Int32) (h0f30 : Int32) (h0f31 : Int32) (A : Nat → Prop) (H : Heap) : Prop := TP D A [(h0, ob 8 [.int h0f0, .int h0f1, .int h0f2, .int h0f3, .int h0f4, .int h0f5, .ref h1, .ref h2, .int h0f8, .int h0f9, .ref h3, .ref h4, .ref h5, .ref h6, .ref h7, .ref h8, .ref h9, .int h0f17, .int h0f18, .int h0f19, .ref h10, .ref h11, .ref h12, .ref h13, .int h0f24, .int h0f25, .ref h14, .ref h15, .ref h16, .ref h17, .int h0f30, .int h0f31, .ref h18, .ref h19, .ref h20, .ref h21]), (h1, aI (k 0) 36 anI), (h4, aJ (k 1) 9 anJ), (h5, aJ (k 1) 9 anJ), (h15, aJ (k 1) 180 anJ)] H
set_option maxHeartbeats 4000000 in
set_option maxRecDepth 100000 in
theorem cX11_goes_2c552 (l : Launch) (D : va_G) (k : Nat → ClassId) (sz : Nat) (h0 h1 h4 h5 h15 h2 h3 h6 h7 h8 h9 h10 h11 h12 h13 h14 h16 h17 h18 h19 h20 h21 : Nat) (x1 : Int32) (x2 : Int32) (h0f0 : Int32) (h0f1 : Int32) (h0f2 : Int32) (h0f3 : Int32) (h0f4 : Int32) (h0f5 : Int32) (h0f8 : Int32) (h0f9 : Int32) (h0f17 : Int32) (h0f18 : Int32) (h0f19 : Int32) (h0f24 : Int32) (h0f25 : Int32) (h0f30 : Int32) (h0f31 : Int32) (b_x1 : 0 ≤ x1.toInt ∧ x1.toInt ≤ 3) (b_x2 : 0 ≤ x2.toInt ∧ x2.toInt ≤ 59) (b_h0f0 : 1 ≤ h0f0.toInt ∧ h0f0.toInt ≤ 3) (b_h0f1 : 1 ≤ h0f1.toInt ∧ h0f1.toInt ≤ 4) (b_h0f3 : 0 ≤ h0f3.toInt ∧ h0f3.toInt ≤ 3) (b_h0f4 : 0 ≤ h0f4.toInt ∧ h0f4.toInt ≤ 4) (b_h0f8 : 0 ≤ h0f8.toInt ∧ h0f8.toInt ≤ 1) (b_h0f9 : 0 ≤ h0f9.toInt ∧ h0f9.toInt ≤ 1) (b_h0f17 : 0 ≤ h0f17.toInt ∧ h0f17.toInt ≤ 120) (b_h0f18 : 0 ≤ h0f18.toInt ∧ h0f18.toInt ≤ 120) (b_h0f19 : 0 ≤ h0f19.toInt ∧ h0f19.toInt ≤ 4) (b_h0f24 : 0 ≤ h0f24.toInt ∧ h0f24.toInt ≤ 100) (b_h0f25 : 0 ≤ h0f25.toInt ∧ h0f25.toInt ≤ 1) (b_h0f30 : 1 ≤ h0f30.toInt ∧ h0f30.toInt ≤ 60) (b_h0f31 : 0 ≤ h0f31.toInt ∧ h0f31.toInt ≤ 1) : Met l yX11_goes (Cond.code yX11_goes cX11_goes 5 none :: uw) Rm_cX11_goes_2c552 (pT D k sz [.ref h0, .int x1, .int x2] [(h0, ob 8 [.int h0f0, .int h0f1, .int h0f2, .int h0f3, .int h0f4, .int h0f5, .ref h1, .ref h2, .int h0f8, .int h0f9, .ref h3, .ref h4, .ref h5, .ref h6, .ref h7, .ref h8, .ref h9, .int h0f17, .int h0f18, .int h0f19, .ref h10, .ref h11, .ref h12, .ref h13, .int h0f24, .int h0f25, .ref h14, .ref h15, .ref h16, .ref h17, .int h0f30, .int h0f31, .ref h18, .ref h19, .ref h20, .ref h21]), (h1, aI (k 0) 36 anI), (h4, aJ (k 1) 9 anJ), (h5, aJ (k 1) 9 anJ), (h15, aJ (k 1) 180 anJ)]) (qV (B_cX11_goes_2c552 D k h0 h1 h4 h5 h15 h2 h3 h6 h7 h8 h9 h10 h11 h12 h13 h14 h16 h17 h18 h19 h20 h21 x1 x2 h0f0 h0f1 h0f2 h0f3 h0f4 h0f5 h0f8 h0f9 h0f17 h0f18 h0f19 h0f24 h0f25 h0f30 h0f31 (zA [h0, h1, h4, h5, h15] sz)) (zA [h0, h1, h4, h5, h15] sz)) 0 0 (zA [h0, h1, h4, h5, h15] sz) := by
  refine tz_begin (as := [h0, h1, h4, h5, h15]) (Qc := fun A => qV (B_cX11_goes_2c552 D k h0 h1 h4 h5 h15 h2 h3 h6 h7 h8 h9 h10 h11 h12 h13 h14 h16 h17 h18 h19 h20 h21 x1 x2 h0f0 h0f1 h0f2 h0f3 h0f4 h0f5 h0f8 h0f9 h0f17 h0f18 h0f19 h0f24 h0f25 h0f30 h0f31 A) A) (by decide +kernel) rfl (Nat.le_of_ble_eq_true rfl) ?_
  intro p e s m args below meth c ls A Q hx hb hr hml hown hlocks hin hU hK hT hS hA hl hQ
  have hl : lv_has ls 5 [(0, .ref h0), (1, .int x1), (2, .int x2)] := hl
  have hT : TP D A [(h0, ob 8 [.int h0f0, .int h0f1, .int h0f2, .int h0f3, .int h0f4, .int h0f5, .ref h1, .ref h2, .int h0f8, .int h0f9, .ref h3, .ref h4, .ref h5, .ref h6, .ref h7, .ref h8, .ref h9, .int h0f17, .int h0f18, .int h0f19, .ref h10, .ref h11, .ref h12, .ref h13, .int h0f24, .int h0f25, .ref h14, .ref h15, .ref h16, .ref h17, .int h0f30, .int h0f31, .ref h18, .ref h19, .ref h20, .ref h21]), (h1, aI (k 0) 36 anI), (h4, aJ (k 1) 9 anJ), (h5, aJ (k 1) 9 anJ), (h15, aJ (k 1) 180 anJ)] s.heap := hT
  refine lv_aload_n hx hb dX11_goes_0 rfl (lv_at hl 0 rfl) ?_
  refine lv_iload_n hx hb dX11_goes_1 rfl (lv_at hl 1 rfl) ?_
  refine lv_aload_n hx hb dX11_goes_2 rfl (lv_at hl 0 rfl) ?_
  refine tz_get (ci := 8) (v := .ref h5) (C := RX11) (F := TX11) (N := 36) hx hb hU iX11 hown hK hT 0 rfl rfl 12 (by decide) w797 (fun _ h9 => h9) rfl dX11_goes_3 ?_
  refine tcV (Tc := [(h0, ob 8 [.int h0f0, .int h0f1, .int h0f2, .int h0f3, .int h0f4, .int h0f5, .ref h1, .ref h2, .int h0f8, .int h0f9, .ref h3, .ref h4, .ref h5, .ref h6, .ref h7, .ref h8, .ref h9, .int h0f17, .int h0f18, .int h0f19, .ref h10, .ref h11, .ref h12, .ref h13, .int h0f24, .int h0f25, .ref h14, .ref h15, .ref h16, .ref h17, .int h0f30, .int h0f31, .ref h18, .ref h19, .ref h20, .ref h21]), (h5, aJ (k 1) 9 anJ), (h1, aI (k 0) 36 anI)]) (Tr := [(h4, aJ (k 1) 9 anJ), (h15, aJ (k 1) 180 anJ)]) (as := [h0, h5, h1]) (zcV (q0 := 0) (ci := 8) (As := [.int x1, .ref h5]) (rest := []) (Tc := [(h0, ob 8 [.int h0f0, .int h0f1, .int h0f2, .int h0f3, .int h0f4, .int h0f5, .ref h1, .ref h2, .int h0f8, .int h0f9, .ref h3, .ref h4, .ref h5, .ref h6, .ref h7, .ref h8, .ref h9, .int h0f17, .int h0f18, .int h0f19, .ref h10, .ref h11, .ref h12, .ref h13, .int h0f24, .int h0f25, .ref h14, .ref h15, .ref h16, .ref h17, .int h0f30, .int h0f31, .ref h18, .ref h19, .ref h20, .ref h21]), (h5, aJ (k 1) 9 anJ), (h1, aI (k 0) 36 anI)]) hx hb hml hown hU hK hT rfl rfl [0, 3, 1] rfl (by decide) (cX11_takes_c4d20 l D k _ h0 h5 h1 h2 h3 h4 h6 h7 h8 h9 h10 h11 h12 h13 h14 h15 h16 h17 h18 h19 h20 h21 x1 h0f0 h0f1 h0f2 h0f3 h0f4 h0f5 h0f8 h0f9 h0f17 h0f18 h0f19 h0f24 h0f25 h0f30 h0f31 (by omega) (by omega) (by omega) (by omega) (by omega) (by omega) (by omega) (by omega) (by omega) (by omega) (by omega) (by omega) (by omega) (by omega)) w939 w936 w938 w32 w72 hdX11_takes ⟨rfl, rfl⟩ ⟨Nat.le_of_ble_eq_true rfl, Nat.le_of_ble_eq_true rfl⟩ rfl hl.1 (Nat.le_of_ble_eq_true rfl) dX11_goes_6 ⟨Nat.le_of_ble_eq_true rfl, Nat.le_of_ble_eq_true rfl⟩) hT hS hA [0, 3, 1] [2, 4] rfl rfl rfl (by decide) (by decide) (fun H locs hB J hS => ?_)
  have hT1 := hB
  have hT := J _ hT1
  have hT : TP D A [(h4, aJ (k 1) 9 anJ), (h15, aJ (k 1) 180 anJ), (h0, ob 8 [.int h0f0, .int h0f1, .int h0f2, .int h0f3, .int h0f4, .int h0f5, .ref h1, .ref h2, .int h0f8, .int h0f9, .ref h3, .ref h4, .ref h5, .ref h6, .ref h7, .ref h8, .ref h9, .int h0f17, .int h0f18, .int h0f19, .ref h10, .ref h11, .ref h12, .ref h13, .int h0f24, .int h0f25, .ref h14, .ref h15, .ref h16, .ref h17, .int h0f30, .int h0f31, .ref h18, .ref h19, .ref h20, .ref h21]), (h5, aJ (k 1) 9 anJ), (h1, aI (k 0) 36 anI)] H := hT
  refine lv_iconst (v := 0) hx hb dX11_goes_9 (by decide) ?_
  refine lv_istore_n (lv' := [(3, .int 0), (0, .ref h0), (1, .int x1), (2, .int x2)]) hx hb dX11_goes_10 rfl hl (by decide) rfl (fun ls hl => ?_)
  have lp11_5 : ∀ (n : Nat) (y4 : Int32) (H : Heap) (locs : List Loc) (ls : Array Slot), (0 ≤ y4.toInt ∧ y4.toInt ≤ 3) → ((-1) * y4.toInt + 3 + 1).toNat < n → TP D A [(h4, aJ (k 1) 9 anJ), (h15, aJ (k 1) 180 anJ), (h0, ob 8 [.int h0f0, .int h0f1, .int h0f2, .int h0f3, .int h0f4, .int h0f5, .ref h1, .ref h2, .int h0f8, .int h0f9, .ref h3, .ref h4, .ref h5, .ref h6, .ref h7, .ref h8, .ref h9, .int h0f17, .int h0f18, .int h0f19, .ref h10, .ref h11, .ref h12, .ref h13, .int h0f24, .int h0f25, .ref h14, .ref h15, .ref h16, .ref h17, .int h0f30, .int h0f31, .ref h18, .ref h19, .ref h20, .ref h21]), (h5, aJ (k 1) 9 anJ), (h1, aI (k 0) 36 anI)] H → va_S A s.heap H locs → lv_has ls 5 [(0, .ref h0), (2, .int x2), (3, .int y4)] → W p l e Rm_cX11_goes_2c552 s m args below meth c H locs 0 0 Q (F0 m 11 ls []) := by
    intro n
    induction n with
    | zero => intro y4 H locs ls b_y4 hm hT hS hl; exact absurd hm (Nat.not_lt_zero _)
    | succ n ih =>
      intro y4 H locs ls b_y4 hm hT hS hl
      have ih11_5 := ih
      clear ih
      refine lv_iload_n hx hb dX11_goes_11 rfl (lv_at hl 2 rfl) ?_
      refine lv_iconst (v := 3) hx hb dX11_goes_12 (by decide) ?_
      refine lv_icmp_ge (tgt := 79) hx hb dX11_goes_13 (by decide) (fun c_6 => ?_) (fun c_6 => ?_)
      · skip
        have c_6 := ni_le c_6 li_3 rfl
        exact tz_retV (B := B_cX11_goes_2c552 D k h0 h1 h4 h5 h15 h2 h3 h6 h7 h8 h9 h10 h11 h12 h13 h14 h16 h17 h18 h19 h20 h21 x1 x2 h0f0 h0f1 h0f2 h0f3 h0f4 h0f5 h0f8 h0f9 h0f17 h0f18 h0f19 h0f24 h0f25 h0f30 h0f31) hQ hx hb hr hlocks hS (Nat.le_of_ble_eq_true rfl) (Nat.le_of_ble_eq_true rfl) dX11_goes_79 ((hT.sub [2, 4, 0, 3, 1] (by decide) rfl))
      · skip
        have c_6 := ni_nle c_6 li_3 rfl
        refine lv_aload_n hx hb dX11_goes_16 rfl (lv_at hl 0 rfl) ?_
        refine tz_get (ci := 8) (v := .ref h4) (C := RX11) (F := TX11) (N := 36) hx hb hU iX11 hown hK hT 2 rfl rfl 11 (by decide) w796 (fun _ h9 => h9) rfl dX11_goes_17 ?_
        refine lv_iload_n hx hb dX11_goes_20 rfl (lv_at hl 2 rfl) ?_
        refine lv_lconst (v := 0) hx hb dX11_goes_21 (by decide) ?_
        refine tz_last hx hb hK hT hS 0 rfl (by omega) (fun _ _ => trivial) dX11_goes_22 (fun H locs hT hS => ?_)
        refine lv_iconst (v := 0) hx hb dX11_goes_23 (by decide) ?_
        refine lv_istore (lv' := [(4, .int 0), (0, .ref h0), (2, .int x2), (3, .int y4)]) hx hb dX11_goes_24 hl (by decide) rfl (fun ls hl => ?_)
        have lp26_10 : ∀ (n : Nat) (y9 : Int32) (H : Heap) (locs : List Loc) (ls : Array Slot), (0 ≤ y9.toInt ∧ y9.toInt ≤ 3) → (h0f0.toInt + (-1) * y9.toInt + 1).toNat < n → TP D A [(h4, aJ (k 1) 9 anJ), (h15, aJ (k 1) 180 anJ), (h0, ob 8 [.int h0f0, .int h0f1, .int h0f2, .int h0f3, .int h0f4, .int h0f5, .ref h1, .ref h2, .int h0f8, .int h0f9, .ref h3, .ref h4, .ref h5, .ref h6, .ref h7, .ref h8, .ref h9, .int h0f17, .int h0f18, .int h0f19, .ref h10, .ref h11, .ref h12, .ref h13, .int h0f24, .int h0f25, .ref h14, .ref h15, .ref h16, .ref h17, .int h0f30, .int h0f31, .ref h18, .ref h19, .ref h20, .ref h21]), (h5, aJ (k 1) 9 anJ), (h1, aI (k 0) 36 anI)] H → va_S A s.heap H locs → lv_has ls 5 [(0, .ref h0), (2, .int x2), (3, .int y4), (4, .int y9)] → W p l e Rm_cX11_goes_2c552 s m args below meth c H locs 0 0 Q (F0 m 26 ls []) := by
          intro n
          induction n with
          | zero => intro y9 H locs ls b_y9 hm hT hS hl; exact absurd hm (Nat.not_lt_zero _)
          | succ n ih =>
            intro y9 H locs ls b_y9 hm hT hS hl
            have ih26_10 := ih
            clear ih
            refine lv_iload hx hb dX11_goes_26 (lv_at hl 3 rfl) ?_
            refine lv_aload_n hx hb dX11_goes_28 rfl (lv_at hl 0 rfl) ?_
            refine tz_get (ci := 8) (v := .int h0f0) (C := RX11) (F := TX11) (N := 36) hx hb hU iX11 hown hK hT 2 rfl rfl 0 (by decide) w785 (fun _ h9 => h9) rfl dX11_goes_29 ?_
            refine lv_icmp_ge (tgt := 73) hx hb dX11_goes_32 (by decide) (fun c_11 => ?_) (fun c_11 => ?_)
            · skip
              have c_11 := ni_le c_11 rfl rfl
              obtain ⟨v12, e_v12⟩ : ∃ x : Int32, x = y4 + Int32.ofInt 1 := ⟨_, rfl⟩
              have f_v12 := e_v12.symm
              have e_v12 : v12.toInt = y4.toInt + 1 := ai_add e_v12 rfl (show (Int32.ofInt 1).toInt = 1 from (by decide +kernel)) (by omega)
              refine lv_iinc (v := v12) (lv' := [(3, .int v12), (0, .ref h0), (2, .int x2), (4, .int y9)]) hx hb dX11_goes_73 hl (k := 2) rfl f_v12 (by decide) rfl (fun ls hl => ?_)
              refine lv_goto (tgt := 11) hx hb dX11_goes_76 (by decide) ?_
              exact ih11_5 v12 _ _ _ (by omega)  (by omega) hT hS (lv_sub hl [1, 2, 0] rfl)
            · skip
              have c_11 := ni_nle c_11 rfl rfl
              refine lv_aload_n hx hb dX11_goes_35 rfl (lv_at hl 0 rfl) ?_
              refine tz_get (ci := 8) (v := .ref h4) (C := RX11) (F := TX11) (N := 36) hx hb hU iX11 hown hK hT 2 rfl rfl 11 (by decide) w796 (fun _ h9 => h9) rfl dX11_goes_36 ?_
              refine lv_iload_n hx hb dX11_goes_39 rfl (lv_at hl 2 rfl) ?_
              refine lv_dup2_11 hx hb dX11_goes_40 rfl rfl ?_
              refine tz_lald hx hb hK hT 0 rfl (by omega) dX11_goes_41 (fun v13 e_v13 => ?_)
              clear e_v13
              refine lv_aload_n hx hb dX11_goes_42 rfl (lv_at hl 0 rfl) ?_
              refine tz_get (ci := 8) (v := .ref h5) (C := RX11) (F := TX11) (N := 36) hx hb hU iX11 hown hK hT 2 rfl rfl 12 (by decide) w797 (fun _ h9 => h9) rfl dX11_goes_43 ?_
              refine lv_iconst (v := 3) hx hb dX11_goes_46 (by decide) ?_
              refine lv_iload_n hx hb dX11_goes_47 rfl (lv_at hl 2 rfl) ?_
              refine lv_imul hx hb dX11_goes_48 (lv_topi (fun v14 e_v14 => ?_))
              have e_v14 := ai_mul e_v14 li_3 rfl (by omega)
              refine lv_iload hx hb dX11_goes_49 (lv_at hl 3 rfl) ?_
              refine lv_iadd hx hb dX11_goes_51 (lv_topi (fun v15 e_v15 => ?_))
              have e_v15 := ai_add e_v15 rfl rfl (by omega)
              refine tz_lald hx hb hK hT 3 rfl (by omega) dX11_goes_52 (fun v16 e_v16 => ?_)
              clear e_v16
              refine lv_aload_n hx hb dX11_goes_53 rfl (lv_at hl 0 rfl) ?_
              refine tz_get (ci := 8) (v := .ref h15) (C := RX11) (F := TX11) (N := 36) hx hb hU iX11 hown hK hT 2 rfl rfl 27 (by decide) w812 (fun _ h9 => h9) rfl dX11_goes_54 ?_
              refine lv_iconst (v := 3) hx hb dX11_goes_57 (by decide) ?_
              refine lv_iload_n hx hb dX11_goes_58 rfl (lv_at hl 1 rfl) ?_
              refine lv_imul hx hb dX11_goes_59 (lv_topi (fun v17 e_v17 => ?_))
              have e_v17 := ai_mul e_v17 li_3 rfl (by omega)
              refine lv_iload hx hb dX11_goes_60 (lv_at hl 3 rfl) ?_
              refine lv_iadd hx hb dX11_goes_62 (lv_topi (fun v18 e_v18 => ?_))
              have e_v18 := ai_add e_v18 rfl rfl (by omega)
              refine tz_lald hx hb hK hT 1 rfl (by omega) dX11_goes_63 (fun v19 e_v19 => ?_)
              clear e_v19
              refine lv_lmul hx hb dX11_goes_64 (lv_topl (fun v20 e_v20 => ?_))
              refine lv_ladd hx hb dX11_goes_65 (lv_topl (fun v21 e_v21 => ?_))
              refine tz_last hx hb hK hT hS 0 rfl (by omega) (fun _ _ => trivial) dX11_goes_66 (fun H locs hT hS => ?_)
              obtain ⟨v22, e_v22⟩ : ∃ x : Int32, x = y9 + Int32.ofInt 1 := ⟨_, rfl⟩
              have f_v22 := e_v22.symm
              have e_v22 : v22.toInt = y9.toInt + 1 := ai_add e_v22 rfl (show (Int32.ofInt 1).toInt = 1 from (by decide +kernel)) (by omega)
              refine lv_iinc (v := v22) (lv' := [(4, .int v22), (0, .ref h0), (2, .int x2), (3, .int y4)]) hx hb dX11_goes_67 hl (k := 3) rfl f_v22 (by decide) rfl (fun ls hl => ?_)
              refine lv_goto (tgt := 26) hx hb dX11_goes_70 (by decide) ?_
              exact ih26_10 v22 _ _ _ (by omega)  (by omega) hT hS (lv_sub hl [1, 2, 3, 0] rfl)
        exact lp26_10 ((h0f0.toInt + (-1) * (0 : Int32).toInt + 1).toNat + 1) (0) _ _ _ (by have := li_0; omega)  (Nat.lt_succ_self _) hT hS (lv_sub hl [1, 2, 3, 0] rfl)
  exact lp11_5 (((-1) * (0 : Int32).toInt + 3 + 1).toNat + 1) (0) _ _ _ (by have := li_0; omega)  (Nat.lt_succ_self _) hT hS (lv_sub hl [1, 3, 0] rfl)
abbrev Rm_cX11_placeIn_20d66 : Room := { frames := 0, cells := 0, slots := 0, locals := 0 }
abbrev B_cX11_placeIn_20d66 (D : va_G) (k : Nat → ClassId) (h0 h15 h1 h2 h3 h4 h5 h6 h7 h8 h9 h10 h11 h12 h13 h14 h16 h17 h18 h19 h20 h21 : Nat) (x1 : Int64) (x2 : Int64) (x3 : Int64) (h0f0 : Int32) (h0f1 : Int32) (h0f2 : Int32) (h0f3 : Int32) (h0f4 : Int32) (h0f5 : Int32) (h0f8 : Int32) (h0f9 : Int32) (h0f17 : Int32) (h0f18 : Int32) (h0f19 : Int32) (h0f24 : Int32) (h0f25 : Int32) (h0f30 : Int32) (h0f31 : Int32) (A : Nat → Prop) (r : Int32) (H : Heap) : Prop := ((-1) ≤ r.toInt ∧ r.toInt ≤ 59) ∧ TP D A [(h0, ob 8 [.int h0f0, .int h0f1, .int h0f2, .int h0f3, .int h0f4, .int h0f5, .ref h1, .ref h2, .int h0f8, .int h0f9, .ref h3, .ref h4, .ref h5, .ref h6, .ref h7, .ref h8, .ref h9, .int h0f17, .int h0f18, .int h0f19, .ref h10, .ref h11, .ref h12, .ref h13, .int h0f24, .int h0f25, .ref h14, .ref h15, .ref h16, .ref h17, .int h0f30, .int h0f31, .ref h18, .ref h19, .ref h20, .ref h21]), (h15, aJ (k 1) 180 anJ)] H
set_option maxHeartbeats 4000000 in
set_option maxRecDepth 100000 in
theorem cX11_placeIn_20d66 (l : Launch) (D : va_G) (k : Nat → ClassId) (sz : Nat) (h0 h15 h1 h2 h3 h4 h5 h6 h7 h8 h9 h10 h11 h12 h13 h14 h16 h17 h18 h19 h20 h21 : Nat) (x1 : Int64) (x2 : Int64) (x3 : Int64) (h0f0 : Int32) (h0f1 : Int32) (h0f2 : Int32) (h0f3 : Int32) (h0f4 : Int32) (h0f5 : Int32) (h0f8 : Int32) (h0f9 : Int32) (h0f17 : Int32) (h0f18 : Int32) (h0f19 : Int32) (h0f24 : Int32) (h0f25 : Int32) (h0f30 : Int32) (h0f31 : Int32) (b_h0f0 : 1 ≤ h0f0.toInt ∧ h0f0.toInt ≤ 3) (b_h0f1 : 1 ≤ h0f1.toInt ∧ h0f1.toInt ≤ 4) (b_h0f3 : 0 ≤ h0f3.toInt ∧ h0f3.toInt ≤ 3) (b_h0f4 : 0 ≤ h0f4.toInt ∧ h0f4.toInt ≤ 4) (b_h0f8 : 0 ≤ h0f8.toInt ∧ h0f8.toInt ≤ 1) (b_h0f9 : 0 ≤ h0f9.toInt ∧ h0f9.toInt ≤ 1) (b_h0f17 : 0 ≤ h0f17.toInt ∧ h0f17.toInt ≤ 120) (b_h0f18 : 0 ≤ h0f18.toInt ∧ h0f18.toInt ≤ 120) (b_h0f19 : 0 ≤ h0f19.toInt ∧ h0f19.toInt ≤ 4) (b_h0f24 : 0 ≤ h0f24.toInt ∧ h0f24.toInt ≤ 100) (b_h0f25 : 0 ≤ h0f25.toInt ∧ h0f25.toInt ≤ 1) (b_h0f30 : 1 ≤ h0f30.toInt ∧ h0f30.toInt ≤ 60) (b_h0f31 : 0 ≤ h0f31.toInt ∧ h0f31.toInt ≤ 1) : Met l yX11_placeIn (Cond.code yX11_placeIn cX11_placeIn 8 (some .int) :: uw) Rm_cX11_placeIn_20d66 (pT D k sz [.ref h0, .long x1, .long x2, .long x3] [(h0, ob 8 [.int h0f0, .int h0f1, .int h0f2, .int h0f3, .int h0f4, .int h0f5, .ref h1, .ref h2, .int h0f8, .int h0f9, .ref h3, .ref h4, .ref h5, .ref h6, .ref h7, .ref h8, .ref h9, .int h0f17, .int h0f18, .int h0f19, .ref h10, .ref h11, .ref h12, .ref h13, .int h0f24, .int h0f25, .ref h14, .ref h15, .ref h16, .ref h17, .int h0f30, .int h0f31, .ref h18, .ref h19, .ref h20, .ref h21]), (h15, aJ (k 1) 180 anJ)]) (qI (B_cX11_placeIn_20d66 D k h0 h15 h1 h2 h3 h4 h5 h6 h7 h8 h9 h10 h11 h12 h13 h14 h16 h17 h18 h19 h20 h21 x1 x2 x3 h0f0 h0f1 h0f2 h0f3 h0f4 h0f5 h0f8 h0f9 h0f17 h0f18 h0f19 h0f24 h0f25 h0f30 h0f31 (zA [h0, h15] sz)) (zA [h0, h15] sz)) 0 0 (zA [h0, h15] sz) := by
  refine tz_begin (as := [h0, h15]) (Qc := fun A => qI (B_cX11_placeIn_20d66 D k h0 h15 h1 h2 h3 h4 h5 h6 h7 h8 h9 h10 h11 h12 h13 h14 h16 h17 h18 h19 h20 h21 x1 x2 x3 h0f0 h0f1 h0f2 h0f3 h0f4 h0f5 h0f8 h0f9 h0f17 h0f18 h0f19 h0f24 h0f25 h0f30 h0f31 A) A) (by decide +kernel) rfl (Nat.le_of_ble_eq_true rfl) ?_
  intro p e s m args below meth c ls A Q hx hb hr hml hown hlocks hin hU hK hT hS hA hl hQ
  have hl : lv_has ls 8 [(0, .ref h0), (1, .long x1), (3, .long x2), (5, .long x3)] := hl
  have hT : TP D A [(h0, ob 8 [.int h0f0, .int h0f1, .int h0f2, .int h0f3, .int h0f4, .int h0f5, .ref h1, .ref h2, .int h0f8, .int h0f9, .ref h3, .ref h4, .ref h5, .ref h6, .ref h7, .ref h8, .ref h9, .int h0f17, .int h0f18, .int h0f19, .ref h10, .ref h11, .ref h12, .ref h13, .int h0f24, .int h0f25, .ref h14, .ref h15, .ref h16, .ref h17, .int h0f30, .int h0f31, .ref h18, .ref h19, .ref h20, .ref h21]), (h15, aJ (k 1) 180 anJ)] s.heap := hT
  refine lv_iconst (v := 0) hx hb dX11_placeIn_0 (by decide) ?_
  refine lv_istore (lv' := [(7, .int 0), (0, .ref h0), (1, .long x1), (3, .long x2), (5, .long x3)]) hx hb dX11_placeIn_1 hl (by decide) rfl (fun ls hl => ?_)
  have lp3_12 : ∀ (n : Nat) (y11 : Int32) (H : Heap) (locs : List Loc) (ls : Array Slot), (0 ≤ y11.toInt ∧ y11.toInt ≤ 60) → (h0f30.toInt + (-1) * y11.toInt + 1).toNat < n → TP D A [(h0, ob 8 [.int h0f0, .int h0f1, .int h0f2, .int h0f3, .int h0f4, .int h0f5, .ref h1, .ref h2, .int h0f8, .int h0f9, .ref h3, .ref h4, .ref h5, .ref h6, .ref h7, .ref h8, .ref h9, .int h0f17, .int h0f18, .int h0f19, .ref h10, .ref h11, .ref h12, .ref h13, .int h0f24, .int h0f25, .ref h14, .ref h15, .ref h16, .ref h17, .int h0f30, .int h0f31, .ref h18, .ref h19, .ref h20, .ref h21]), (h15, aJ (k 1) 180 anJ)] H → va_S A s.heap H locs → lv_has ls 8 [(0, .ref h0), (1, .long x1), (3, .long x2), (5, .long x3), (7, .int y11)] → W p l e Rm_cX11_placeIn_20d66 s m args below meth c H locs 0 0 Q (F0 m 3 ls []) := by
    intro n
    induction n with
    | zero => intro y11 H locs ls b_y11 hm hT hS hl; exact absurd hm (Nat.not_lt_zero _)
    | succ n ih =>
      intro y11 H locs ls b_y11 hm hT hS hl
      have ih3_12 := ih
      clear ih
      refine lv_iload hx hb dX11_placeIn_3 (lv_at hl 4 rfl) ?_
      refine lv_aload_n hx hb dX11_placeIn_5 rfl (lv_at hl 0 rfl) ?_
      refine tz_get (ci := 8) (v := .int h0f30) (C := RX11) (F := TX11) (N := 36) hx hb hU iX11 hown hK hT 0 rfl rfl 30 (by decide) w815 (fun _ h9 => h9) rfl dX11_placeIn_6 ?_
      refine lv_icmp_ge (tgt := 68) hx hb dX11_placeIn_9 (by decide) (fun c_13 => ?_) (fun c_13 => ?_)
      · skip
        have c_13 := ni_le c_13 rfl rfl
        refine lv_iconst (v := (-1)) hx hb dX11_placeIn_68 (by decide) ?_
        exact tz_retI (B := B_cX11_placeIn_20d66 D k h0 h15 h1 h2 h3 h4 h5 h6 h7 h8 h9 h10 h11 h12 h13 h14 h16 h17 h18 h19 h20 h21 x1 x2 x3 h0f0 h0f1 h0f2 h0f3 h0f4 h0f5 h0f8 h0f9 h0f17 h0f18 h0f19 h0f24 h0f25 h0f30 h0f31) (v := (-1)) hQ hx hb hr hlocks hS (Nat.le_of_ble_eq_true rfl) (Nat.le_of_ble_eq_true rfl) dX11_placeIn_69 (⟨(by have := li_m1; omega), hT⟩)
      · skip
        have c_13 := ni_nle c_13 rfl rfl
        refine lv_aload_n hx hb dX11_placeIn_12 rfl (lv_at hl 0 rfl) ?_
        refine tz_get (ci := 8) (v := .ref h15) (C := RX11) (F := TX11) (N := 36) hx hb hU iX11 hown hK hT 0 rfl rfl 27 (by decide) w812 (fun _ h9 => h9) rfl dX11_placeIn_13 ?_
        refine lv_iconst (v := 3) hx hb dX11_placeIn_16 (by decide) ?_
        refine lv_iload hx hb dX11_placeIn_17 (lv_at hl 4 rfl) ?_
        refine lv_imul hx hb dX11_placeIn_19 (lv_topi (fun v14 e_v14 => ?_))
        have e_v14 := ai_mul e_v14 li_3 rfl (by omega)
        refine tz_lald hx hb hK hT 1 rfl (by omega) dX11_placeIn_20 (fun v15 e_v15 => ?_)
        clear e_v15
        refine lv_lload_n hx hb dX11_placeIn_21 rfl (lv_at hl 1 rfl) ?_
        refine W.lcmp hx hb dX11_placeIn_22 ?_
        refine lv_if_ne (tgt := 62) hx hb dX11_placeIn_23 (by decide) (fun c_16 => ?_) (fun c_16 => ?_)
        · skip
          have c_16 := nl_ne c_16 rfl rfl
          obtain ⟨v17, e_v17⟩ : ∃ x : Int32, x = y11 + Int32.ofInt 1 := ⟨_, rfl⟩
          have f_v17 := e_v17.symm
          have e_v17 : v17.toInt = y11.toInt + 1 := ai_add e_v17 rfl (show (Int32.ofInt 1).toInt = 1 from (by decide +kernel)) (by omega)
          refine lv_iinc (v := v17) (lv' := [(7, .int v17), (0, .ref h0), (1, .long x1), (3, .long x2), (5, .long x3)]) hx hb dX11_placeIn_62 hl (k := 4) rfl f_v17 (by decide) rfl (fun ls hl => ?_)
          refine lv_goto (tgt := 3) hx hb dX11_placeIn_65 (by decide) ?_
          exact ih3_12 v17 _ _ _ (by omega)  (by omega) hT hS (lv_sub hl [1, 2, 3, 4, 0] rfl)
        · skip
          have c_16 := nl_eq c_16 rfl rfl
          refine lv_aload_n hx hb dX11_placeIn_26 rfl (lv_at hl 0 rfl) ?_
          refine tz_get (ci := 8) (v := .ref h15) (C := RX11) (F := TX11) (N := 36) hx hb hU iX11 hown hK hT 0 rfl rfl 27 (by decide) w812 (fun _ h9 => h9) rfl dX11_placeIn_27 ?_
          refine lv_iconst (v := 3) hx hb dX11_placeIn_30 (by decide) ?_
          refine lv_iload hx hb dX11_placeIn_31 (lv_at hl 4 rfl) ?_
          refine lv_imul hx hb dX11_placeIn_33 (lv_topi (fun v18 e_v18 => ?_))
          have e_v18 := ai_mul e_v18 li_3 rfl (by omega)
          refine lv_iconst (v := 1) hx hb dX11_placeIn_34 (by decide) ?_
          refine lv_iadd hx hb dX11_placeIn_35 (lv_topi (fun v19 e_v19 => ?_))
          have e_v19 := ai_add e_v19 rfl li_1 (by omega)
          refine tz_lald hx hb hK hT 1 rfl (by omega) dX11_placeIn_36 (fun v20 e_v20 => ?_)
          clear e_v20
          refine lv_lload_n hx hb dX11_placeIn_37 rfl (lv_at hl 2 rfl) ?_
          refine W.lcmp hx hb dX11_placeIn_38 ?_
          refine lv_if_ne (tgt := 62) hx hb dX11_placeIn_39 (by decide) (fun c_21 => ?_) (fun c_21 => ?_)
          · skip
            have c_21 := nl_ne c_21 rfl rfl
            obtain ⟨v22, e_v22⟩ : ∃ x : Int32, x = y11 + Int32.ofInt 1 := ⟨_, rfl⟩
            have f_v22 := e_v22.symm
            have e_v22 : v22.toInt = y11.toInt + 1 := ai_add e_v22 rfl (show (Int32.ofInt 1).toInt = 1 from (by decide +kernel)) (by omega)
            refine lv_iinc (v := v22) (lv' := [(7, .int v22), (0, .ref h0), (1, .long x1), (3, .long x2), (5, .long x3)]) hx hb dX11_placeIn_62 hl (k := 4) rfl f_v22 (by decide) rfl (fun ls hl => ?_)
            refine lv_goto (tgt := 3) hx hb dX11_placeIn_65 (by decide) ?_
            exact ih3_12 v22 _ _ _ (by omega)  (by omega) hT hS (lv_sub hl [1, 2, 3, 4, 0] rfl)
          · skip
            have c_21 := nl_eq c_21 rfl rfl
            refine lv_aload_n hx hb dX11_placeIn_42 rfl (lv_at hl 0 rfl) ?_
            refine tz_get (ci := 8) (v := .ref h15) (C := RX11) (F := TX11) (N := 36) hx hb hU iX11 hown hK hT 0 rfl rfl 27 (by decide) w812 (fun _ h9 => h9) rfl dX11_placeIn_43 ?_
            refine lv_iconst (v := 3) hx hb dX11_placeIn_46 (by decide) ?_
            refine lv_iload hx hb dX11_placeIn_47 (lv_at hl 4 rfl) ?_
            refine lv_imul hx hb dX11_placeIn_49 (lv_topi (fun v23 e_v23 => ?_))
            have e_v23 := ai_mul e_v23 li_3 rfl (by omega)
            refine lv_iconst (v := 2) hx hb dX11_placeIn_50 (by decide) ?_
            refine lv_iadd hx hb dX11_placeIn_51 (lv_topi (fun v24 e_v24 => ?_))
            have e_v24 := ai_add e_v24 rfl li_2 (by omega)
            refine tz_lald hx hb hK hT 1 rfl (by omega) dX11_placeIn_52 (fun v25 e_v25 => ?_)
            clear e_v25
            refine lv_lload hx hb dX11_placeIn_53 (lv_at hl 3 rfl) ?_
            refine W.lcmp hx hb dX11_placeIn_55 ?_
            refine lv_if_ne (tgt := 62) hx hb dX11_placeIn_56 (by decide) (fun c_26 => ?_) (fun c_26 => ?_)
            · skip
              have c_26 := nl_ne c_26 rfl rfl
              obtain ⟨v27, e_v27⟩ : ∃ x : Int32, x = y11 + Int32.ofInt 1 := ⟨_, rfl⟩
              have f_v27 := e_v27.symm
              have e_v27 : v27.toInt = y11.toInt + 1 := ai_add e_v27 rfl (show (Int32.ofInt 1).toInt = 1 from (by decide +kernel)) (by omega)
              refine lv_iinc (v := v27) (lv' := [(7, .int v27), (0, .ref h0), (1, .long x1), (3, .long x2), (5, .long x3)]) hx hb dX11_placeIn_62 hl (k := 4) rfl f_v27 (by decide) rfl (fun ls hl => ?_)
              refine lv_goto (tgt := 3) hx hb dX11_placeIn_65 (by decide) ?_
              exact ih3_12 v27 _ _ _ (by omega)  (by omega) hT hS (lv_sub hl [1, 2, 3, 4, 0] rfl)
            · skip
              have c_26 := nl_eq c_26 rfl rfl
              refine lv_iload hx hb dX11_placeIn_59 (lv_at hl 4 rfl) ?_
              exact tz_retI (B := B_cX11_placeIn_20d66 D k h0 h15 h1 h2 h3 h4 h5 h6 h7 h8 h9 h10 h11 h12 h13 h14 h16 h17 h18 h19 h20 h21 x1 x2 x3 h0f0 h0f1 h0f2 h0f3 h0f4 h0f5 h0f8 h0f9 h0f17 h0f18 h0f19 h0f24 h0f25 h0f30 h0f31) (v := y11) hQ hx hb hr hlocks hS (Nat.le_of_ble_eq_true rfl) (Nat.le_of_ble_eq_true rfl) dX11_placeIn_61 (⟨(by omega), hT⟩)
  exact lp3_12 ((h0f30.toInt + (-1) * (0 : Int32).toInt + 1).toNat + 1) (0) _ _ _ (by have := li_0; omega)  (Nat.lt_succ_self _) hT hS (lv_sub hl [1, 2, 3, 4, 0] rfl)
abbrev Rm_cX11_isAsked_874da : Room := { frames := 1, cells := 0, slots := 0, locals := 25 }
abbrev B_cX11_isAsked_874da (D : va_G) (k : Nat → ClassId) (x0 : Int32) (x1 : Int32) (x2 : Int32) (A : Nat → Prop) (r : Int32) (H : Heap) : Prop := (0 ≤ r.toInt ∧ r.toInt ≤ 1) ∧ TP D A [] H
set_option maxHeartbeats 4000000 in
set_option maxRecDepth 100000 in
theorem cX11_isAsked_874da (l : Launch) (D : va_G) (k : Nat → ClassId) (sz : Nat) (x0 : Int32) (x1 : Int32) (x2 : Int32) : Met l yX11_isAsked (Cond.code yX11_isAsked cX11_isAsked 3 (some .boolean) :: uw) Rm_cX11_isAsked_874da (pT D k sz [.int x0, .int x1, .int x2] []) (qI (B_cX11_isAsked_874da D k x0 x1 x2 (zA [] sz)) (zA [] sz)) 0 0 (zA [] sz) := by
  refine tz_begin (as := []) (Qc := fun A => qI (B_cX11_isAsked_874da D k x0 x1 x2 A) A) (by decide +kernel) rfl (Nat.le_of_ble_eq_true rfl) ?_
  intro p e s m args below meth c ls A Q hx hb hr hml hown hlocks hin hU hK hT hS hA hl hQ
  have hl : lv_has ls 3 [(0, .int x0), (1, .int x1), (2, .int x2)] := hl
  have hT : TP D A [] s.heap := hT
  refine lv_iload_n hx hb dX11_isAsked_0 rfl (lv_at hl 0 rfl) ?_
  obtain ⟨v1, e_v1⟩ : ∃ x : Int64, x0.toInt64 = x := ⟨_, rfl⟩
  refine lv_i2l (v := v1) hx hb dX11_isAsked_1 e_v1 ?_
  have e_v1 := ai_i2l e_v1 rfl
  refine lv_ldc2 hx hb hown (hU _ w1138) dX11_isAsked_2 ?_
  refine lv_ldc2 hx hb hown (hU _ w1139) dX11_isAsked_5 ?_
  have q_q3 := ll_m1000
  have q_q4 := ll_1000
  refine tcI (Tc := []) (Tr := []) (as := []) (zcS (As := [.long v1, .long (-1000), .long 1000]) (rest := []) (Tc := []) hx hb hml hown hU hK hT [] rfl (by decide) (cX11_in_ca3b9 l D k _ v1 ((-1000)) (1000) (by have := ll_m1000; omega) (by have := ll_1000; omega)) w901 w899 w900 w72 hdX11_in ⟨rfl, rfl⟩ ⟨Nat.le_of_ble_eq_true rfl, Nat.le_of_ble_eq_true rfl⟩ rfl hl.1 (Nat.le_of_ble_eq_true rfl) dX11_isAsked_8 ⟨Nat.le_of_ble_eq_true rfl, Nat.le_of_ble_eq_true rfl⟩) hT hS hA [] [] rfl rfl rfl (by decide) (by decide) (fun r2 H locs hB J hS => ?_)
  rcases hB with ⟨rfl, hT1⟩ | ⟨c_5, c_6, rfl, hT1⟩
  · skip
    have hT := J _ hT1
    have hT : TP D A [] H := hT
    refine lv_if_eq (tgt := 46) hx hb dX11_isAsked_11 (by decide) (fun _ => ?_) (fun cc => absurd (by decide +kernel) cc)
    refine lv_iconst (v := 0) hx hb dX11_isAsked_46 (by decide) ?_
    exact tz_retZ (B := B_cX11_isAsked_874da D k x0 x1 x2) (v := 0) hQ hx hb hr hlocks hS (Nat.le_of_ble_eq_true rfl) (Nat.le_of_ble_eq_true rfl) dX11_isAsked_47 (by have := li_0; omega) (⟨(by have := li_0; omega), hT⟩)
  · skip
    have hT := J _ hT1
    have hT : TP D A [] H := hT
    refine lv_if_eq (tgt := 46) hx hb dX11_isAsked_11 (by decide) (fun cc => absurd cc (by decide +kernel)) (fun _ => ?_)
    refine lv_iload_n hx hb dX11_isAsked_14 rfl (lv_at hl 1 rfl) ?_
    obtain ⟨v7, e_v7⟩ : ∃ x : Int64, x1.toInt64 = x := ⟨_, rfl⟩
    refine lv_i2l (v := v7) hx hb dX11_isAsked_15 e_v7 ?_
    have e_v7 := ai_i2l e_v7 rfl
    refine lv_ldc2 hx hb hown (hU _ w1138) dX11_isAsked_16 ?_
    refine lv_ldc2 hx hb hown (hU _ w1139) dX11_isAsked_19 ?_
    have q_q9 := ll_m1000
    have q_q10 := ll_1000
    refine tcI (Tc := []) (Tr := []) (as := []) (zcS (As := [.long v7, .long (-1000), .long 1000]) (rest := []) (Tc := []) hx hb hml hown hU hK hT [] rfl (by decide) (cX11_in_ca3b9 l D k _ v7 ((-1000)) (1000) (by have := ll_m1000; omega) (by have := ll_1000; omega)) w901 w899 w900 w72 hdX11_in ⟨rfl, rfl⟩ ⟨Nat.le_of_ble_eq_true rfl, Nat.le_of_ble_eq_true rfl⟩ rfl hl.1 (Nat.le_of_ble_eq_true rfl) dX11_isAsked_22 ⟨Nat.le_of_ble_eq_true rfl, Nat.le_of_ble_eq_true rfl⟩) hT hS hA [] [] rfl rfl rfl (by decide) (by decide) (fun r8 H locs hB J hS => ?_)
    rcases hB with ⟨rfl, hT1⟩ | ⟨c_11, c_12, rfl, hT1⟩
    · skip
      have hT := J _ hT1
      have hT : TP D A [] H := hT
      refine lv_if_eq (tgt := 46) hx hb dX11_isAsked_25 (by decide) (fun _ => ?_) (fun cc => absurd (by decide +kernel) cc)
      refine lv_iconst (v := 0) hx hb dX11_isAsked_46 (by decide) ?_
      exact tz_retZ (B := B_cX11_isAsked_874da D k x0 x1 x2) (v := 0) hQ hx hb hr hlocks hS (Nat.le_of_ble_eq_true rfl) (Nat.le_of_ble_eq_true rfl) dX11_isAsked_47 (by have := li_0; omega) (⟨(by have := li_0; omega), hT⟩)
    · skip
      have hT := J _ hT1
      have hT : TP D A [] H := hT
      refine lv_if_eq (tgt := 46) hx hb dX11_isAsked_25 (by decide) (fun cc => absurd cc (by decide +kernel)) (fun _ => ?_)
      refine lv_iload_n hx hb dX11_isAsked_28 rfl (lv_at hl 2 rfl) ?_
      obtain ⟨v13, e_v13⟩ : ∃ x : Int64, x2.toInt64 = x := ⟨_, rfl⟩
      refine lv_i2l (v := v13) hx hb dX11_isAsked_29 e_v13 ?_
      have e_v13 := ai_i2l e_v13 rfl
      refine lv_ldc2 hx hb hown (hU _ w1138) dX11_isAsked_30 ?_
      refine lv_ldc2 hx hb hown (hU _ w1139) dX11_isAsked_33 ?_
      have q_q15 := ll_m1000
      have q_q16 := ll_1000
      refine tcI (Tc := []) (Tr := []) (as := []) (zcS (As := [.long v13, .long (-1000), .long 1000]) (rest := []) (Tc := []) hx hb hml hown hU hK hT [] rfl (by decide) (cX11_in_ca3b9 l D k _ v13 ((-1000)) (1000) (by have := ll_m1000; omega) (by have := ll_1000; omega)) w901 w899 w900 w72 hdX11_in ⟨rfl, rfl⟩ ⟨Nat.le_of_ble_eq_true rfl, Nat.le_of_ble_eq_true rfl⟩ rfl hl.1 (Nat.le_of_ble_eq_true rfl) dX11_isAsked_36 ⟨Nat.le_of_ble_eq_true rfl, Nat.le_of_ble_eq_true rfl⟩) hT hS hA [] [] rfl rfl rfl (by decide) (by decide) (fun r14 H locs hB J hS => ?_)
      rcases hB with ⟨rfl, hT1⟩ | ⟨c_17, c_18, rfl, hT1⟩
      · skip
        have hT := J _ hT1
        have hT : TP D A [] H := hT
        refine lv_if_eq (tgt := 46) hx hb dX11_isAsked_39 (by decide) (fun _ => ?_) (fun cc => absurd (by decide +kernel) cc)
        refine lv_iconst (v := 0) hx hb dX11_isAsked_46 (by decide) ?_
        exact tz_retZ (B := B_cX11_isAsked_874da D k x0 x1 x2) (v := 0) hQ hx hb hr hlocks hS (Nat.le_of_ble_eq_true rfl) (Nat.le_of_ble_eq_true rfl) dX11_isAsked_47 (by have := li_0; omega) (⟨(by have := li_0; omega), hT⟩)
      · skip
        have hT := J _ hT1
        have hT : TP D A [] H := hT
        refine lv_if_eq (tgt := 46) hx hb dX11_isAsked_39 (by decide) (fun cc => absurd cc (by decide +kernel)) (fun _ => ?_)
        refine lv_iconst (v := 1) hx hb dX11_isAsked_42 (by decide) ?_
        refine lv_goto (tgt := 47) hx hb dX11_isAsked_43 (by decide) ?_
        exact tz_retZ (B := B_cX11_isAsked_874da D k x0 x1 x2) (v := 1) hQ hx hb hr hlocks hS (Nat.le_of_ble_eq_true rfl) (Nat.le_of_ble_eq_true rfl) dX11_isAsked_47 (by have := li_1; omega) (⟨(by have := li_1; omega), hT⟩)
abbrev Rm_cX11_orbit_79666 : Room := { frames := 2, cells := 0, slots := 0, locals := 47 }
abbrev B_cX11_orbit_79666 (D : va_G) (k : Nat → ClassId) (h0 h1 h4 h5 h15 h16 h2 h3 h6 h7 h8 h9 h10 h11 h12 h13 h14 h17 h18 h19 h20 h21 : Nat) (x1 : Int32) (x2 : Int32) (x3 : Int32) (h0f0 : Int32) (h0f1 : Int32) (h0f2 : Int32) (h0f3 : Int32) (h0f4 : Int32) (h0f5 : Int32) (h0f8 : Int32) (h0f9 : Int32) (h0f17 : Int32) (h0f18 : Int32) (h0f19 : Int32) (h0f24 : Int32) (h0f25 : Int32) (h0f30 : Int32) (h0f31 : Int32) (A : Nat → Prop) (r : Int32) (H : Heap) : Prop := ∃ o0 : Int32, ∃ o1 : Int32, (0 ≤ o0.toInt ∧ o0.toInt ≤ 60) ∧ (0 ≤ o1.toInt ∧ o1.toInt ≤ 1) ∧ ((-1) ≤ r.toInt ∧ r.toInt ≤ 60) ∧ TP D A [(h0, ob 8 [.int h0f0, .int h0f1, .int h0f2, .int h0f3, .int h0f4, .int h0f5, .ref h1, .ref h2, .int h0f8, .int h0f9, .ref h3, .ref h4, .ref h5, .ref h6, .ref h7, .ref h8, .ref h9, .int h0f17, .int h0f18, .int h0f19, .ref h10, .ref h11, .ref h12, .ref h13, .int h0f24, .int h0f25, .ref h14, .ref h15, .ref h16, .ref h17, .int o0, .int o1, .ref h18, .ref h19, .ref h20, .ref h21]), (h1, aI (k 0) 36 anI), (h4, aJ (k 1) 9 anJ), (h5, aJ (k 1) 9 anJ), (h15, aJ (k 1) 180 anJ), (h16, aI (k 0) 240 anI)] H
set_option maxHeartbeats 4000000 in
set_option maxRecDepth 100000 in
theorem cX11_orbit_79666 (l : Launch) (D : va_G) (k : Nat → ClassId) (sz : Nat) (h0 h1 h4 h5 h15 h16 h2 h3 h6 h7 h8 h9 h10 h11 h12 h13 h14 h17 h18 h19 h20 h21 : Nat) (x1 : Int32) (x2 : Int32) (x3 : Int32) (h0f0 : Int32) (h0f1 : Int32) (h0f2 : Int32) (h0f3 : Int32) (h0f4 : Int32) (h0f5 : Int32) (h0f8 : Int32) (h0f9 : Int32) (h0f17 : Int32) (h0f18 : Int32) (h0f19 : Int32) (h0f24 : Int32) (h0f25 : Int32) (h0f30 : Int32) (h0f31 : Int32) (b_h0f0 : 1 ≤ h0f0.toInt ∧ h0f0.toInt ≤ 3) (b_h0f1 : 0 ≤ h0f1.toInt ∧ h0f1.toInt ≤ 4) (b_h0f3 : 0 ≤ h0f3.toInt ∧ h0f3.toInt ≤ 3) (b_h0f4 : 0 ≤ h0f4.toInt ∧ h0f4.toInt ≤ 4) (b_h0f8 : 0 ≤ h0f8.toInt ∧ h0f8.toInt ≤ 1) (b_h0f9 : 0 ≤ h0f9.toInt ∧ h0f9.toInt ≤ 1) (b_h0f17 : 0 ≤ h0f17.toInt ∧ h0f17.toInt ≤ 120) (b_h0f18 : 0 ≤ h0f18.toInt ∧ h0f18.toInt ≤ 120) (b_h0f19 : 0 ≤ h0f19.toInt ∧ h0f19.toInt ≤ 4) (b_h0f24 : 0 ≤ h0f24.toInt ∧ h0f24.toInt ≤ 100) (b_h0f25 : 0 ≤ h0f25.toInt ∧ h0f25.toInt ≤ 1) (b_h0f30 : 0 ≤ h0f30.toInt ∧ h0f30.toInt ≤ 60) (b_h0f31 : 0 ≤ h0f31.toInt ∧ h0f31.toInt ≤ 1) : Met l yX11_orbit (Cond.code yX11_orbit cX11_orbit 7 (some .int) :: uw) Rm_cX11_orbit_79666 (pT D k sz [.ref h0, .int x1, .int x2, .int x3] [(h0, ob 8 [.int h0f0, .int h0f1, .int h0f2, .int h0f3, .int h0f4, .int h0f5, .ref h1, .ref h2, .int h0f8, .int h0f9, .ref h3, .ref h4, .ref h5, .ref h6, .ref h7, .ref h8, .ref h9, .int h0f17, .int h0f18, .int h0f19, .ref h10, .ref h11, .ref h12, .ref h13, .int h0f24, .int h0f25, .ref h14, .ref h15, .ref h16, .ref h17, .int h0f30, .int h0f31, .ref h18, .ref h19, .ref h20, .ref h21]), (h1, aI (k 0) 36 anI), (h4, aJ (k 1) 9 anJ), (h5, aJ (k 1) 9 anJ), (h15, aJ (k 1) 180 anJ), (h16, aI (k 0) 240 anI)]) (qI (B_cX11_orbit_79666 D k h0 h1 h4 h5 h15 h16 h2 h3 h6 h7 h8 h9 h10 h11 h12 h13 h14 h17 h18 h19 h20 h21 x1 x2 x3 h0f0 h0f1 h0f2 h0f3 h0f4 h0f5 h0f8 h0f9 h0f17 h0f18 h0f19 h0f24 h0f25 h0f30 h0f31 (zA [h0, h1, h4, h5, h15, h16] sz)) (zA [h0, h1, h4, h5, h15, h16] sz)) 0 0 (zA [h0, h1, h4, h5, h15, h16] sz) := by
  refine tz_begin (as := [h0, h1, h4, h5, h15, h16]) (Qc := fun A => qI (B_cX11_orbit_79666 D k h0 h1 h4 h5 h15 h16 h2 h3 h6 h7 h8 h9 h10 h11 h12 h13 h14 h17 h18 h19 h20 h21 x1 x2 x3 h0f0 h0f1 h0f2 h0f3 h0f4 h0f5 h0f8 h0f9 h0f17 h0f18 h0f19 h0f24 h0f25 h0f30 h0f31 A) A) (by decide +kernel) rfl (Nat.le_of_ble_eq_true rfl) ?_
  intro p e s m args below meth c ls A Q hx hb hr hml hown hlocks hin hU hK hT hS hA hl hQ
  have hl : lv_has ls 7 [(0, .ref h0), (1, .int x1), (2, .int x2), (3, .int x3)] := hl
  have hT : TP D A [(h0, ob 8 [.int h0f0, .int h0f1, .int h0f2, .int h0f3, .int h0f4, .int h0f5, .ref h1, .ref h2, .int h0f8, .int h0f9, .ref h3, .ref h4, .ref h5, .ref h6, .ref h7, .ref h8, .ref h9, .int h0f17, .int h0f18, .int h0f19, .ref h10, .ref h11, .ref h12, .ref h13, .int h0f24, .int h0f25, .ref h14, .ref h15, .ref h16, .ref h17, .int h0f30, .int h0f31, .ref h18, .ref h19, .ref h20, .ref h21]), (h1, aI (k 0) 36 anI), (h4, aJ (k 1) 9 anJ), (h5, aJ (k 1) 9 anJ), (h15, aJ (k 1) 180 anJ), (h16, aI (k 0) 240 anI)] s.heap := hT
  have lp67_23 : ∀ (n : Nat) (y21 : Int32) (y22 : Int32) (H : Heap) (locs : List Loc) (ls : Array Slot), (0 ≤ y21.toInt ∧ y21.toInt ≤ 60) → (1 ≤ y22.toInt ∧ y22.toInt ≤ 60) → (60 - y21.toInt).toNat < n → TP D A [(h0, ob 8 [.int h0f0, .int h0f1, .int h0f2, .int h0f3, .int h0f4, .int h0f5, .ref h1, .ref h2, .int h0f8, .int h0f9, .ref h3, .ref h4, .ref h5, .ref h6, .ref h7, .ref h8, .ref h9, .int h0f17, .int h0f18, .int h0f19, .ref h10, .ref h11, .ref h12, .ref h13, .int h0f24, .int h0f25, .ref h14, .ref h15, .ref h16, .ref h17, .int y22, .int h0f31, .ref h18, .ref h19, .ref h20, .ref h21]), (h1, aI (k 0) 36 anI), (h4, aJ (k 1) 9 anJ), (h5, aJ (k 1) 9 anJ), (h15, aJ (k 1) 180 anJ), (h16, aI (k 0) 240 anI)] H → va_S A s.heap H locs → lv_has ls 7 [(0, .ref h0), (4, .int y21)] → W p l e Rm_cX11_orbit_79666 s m args below meth c H locs 0 0 Q (F0 m 67 ls []) := by
    intro n
    induction n with
    | zero => intro y21 y22 H locs ls b_y21 b_y22 hm hT hS hl; exact absurd hm (Nat.not_lt_zero _)
    | succ n ih =>
      intro y21 y22 H locs ls b_y21 b_y22 hm hT hS hl
      have ih67_23 := ih
      clear ih
      refine lv_iload hx hb dX11_orbit_67 (lv_at hl 1 rfl) ?_
      refine lv_aload_n hx hb dX11_orbit_69 rfl (lv_at hl 0 rfl) ?_
      refine tz_get (ci := 8) (v := .int y22) (C := RX11) (F := TX11) (N := 36) hx hb hU iX11 hown hK hT 0 rfl rfl 30 (by decide) w815 (fun _ h9 => h9) rfl dX11_orbit_70 ?_
      refine lv_icmp_ge (tgt := 273) hx hb dX11_orbit_73 (by decide) (fun c_24 => ?_) (fun c_24 => ?_)
      · skip
        have c_24 := ni_le c_24 rfl rfl
        refine lv_aload_n hx hb dX11_orbit_273 rfl (lv_at hl 0 rfl) ?_
        refine lv_iconst (v := 1) hx hb dX11_orbit_274 (by decide) ?_
        refine tz_put (ci := 8) (v := .int 1) (ty := .boolean) (C := RX11) (F := TX11) (N := 36) hx hb hU iX11 tyX11 tyX11_ok nmX11 hown hK hT hS 0 rfl rfl 31 (by decide) w816 (fun _ h9 => h9) rfl (by decide +kernel) rfl rfl (Nat.le_of_ble_eq_true rfl) dX11_orbit_275 (fun H locs hT hS => ?_)
        have hT : TP D A [(h0, ob 8 [.int h0f0, .int h0f1, .int h0f2, .int h0f3, .int h0f4, .int h0f5, .ref h1, .ref h2, .int h0f8, .int h0f9, .ref h3, .ref h4, .ref h5, .ref h6, .ref h7, .ref h8, .ref h9, .int h0f17, .int h0f18, .int h0f19, .ref h10, .ref h11, .ref h12, .ref h13, .int h0f24, .int h0f25, .ref h14, .ref h15, .ref h16, .ref h17, .int y22, .int 1, .ref h18, .ref h19, .ref h20, .ref h21]), (h1, aI (k 0) 36 anI), (h4, aJ (k 1) 9 anJ), (h5, aJ (k 1) 9 anJ), (h15, aJ (k 1) 180 anJ), (h16, aI (k 0) 240 anI)] H := hT
        refine lv_iconst (v := 0) hx hb dX11_orbit_278 (by decide) ?_
        refine lv_istore (lv' := [(4, .int 0), (0, .ref h0)]) hx hb dX11_orbit_279 hl (by decide) rfl (fun ls hl => ?_)
        have lp281_47 : ∀ (n : Nat) (y45 : Int32) (y46 : Int32) (H : Heap) (locs : List Loc) (ls : Array Slot), (0 ≤ y45.toInt ∧ y45.toInt ≤ 60) → (0 ≤ y46.toInt ∧ y46.toInt ≤ 1) → (y22.toInt + (-1) * y45.toInt + 1).toNat < n → TP D A [(h0, ob 8 [.int h0f0, .int h0f1, .int h0f2, .int h0f3, .int h0f4, .int h0f5, .ref h1, .ref h2, .int h0f8, .int h0f9, .ref h3, .ref h4, .ref h5, .ref h6, .ref h7, .ref h8, .ref h9, .int h0f17, .int h0f18, .int h0f19, .ref h10, .ref h11, .ref h12, .ref h13, .int h0f24, .int h0f25, .ref h14, .ref h15, .ref h16, .ref h17, .int y22, .int y46, .ref h18, .ref h19, .ref h20, .ref h21]), (h1, aI (k 0) 36 anI), (h4, aJ (k 1) 9 anJ), (h5, aJ (k 1) 9 anJ), (h15, aJ (k 1) 180 anJ), (h16, aI (k 0) 240 anI)] H → va_S A s.heap H locs → lv_has ls 7 [(0, .ref h0), (4, .int y45)] → W p l e Rm_cX11_orbit_79666 s m args below meth c H locs 0 0 Q (F0 m 281 ls []) := by
          intro n
          induction n with
          | zero => intro y45 y46 H locs ls b_y45 b_y46 hm hT hS hl; exact absurd hm (Nat.not_lt_zero _)
          | succ n ih =>
            intro y45 y46 H locs ls b_y45 b_y46 hm hT hS hl
            have ih281_47 := ih
            clear ih
            refine lv_iload hx hb dX11_orbit_281 (lv_at hl 1 rfl) ?_
            refine lv_aload_n hx hb dX11_orbit_283 rfl (lv_at hl 0 rfl) ?_
            refine tz_get (ci := 8) (v := .int y22) (C := RX11) (F := TX11) (N := 36) hx hb hU iX11 hown hK hT 0 rfl rfl 30 (by decide) w815 (fun _ h9 => h9) rfl dX11_orbit_284 ?_
            refine lv_icmp_ge (tgt := 382) hx hb dX11_orbit_287 (by decide) (fun c_48 => ?_) (fun c_48 => ?_)
            · skip
              have c_48 := ni_le c_48 rfl rfl
              refine lv_aload_n hx hb dX11_orbit_382 rfl (lv_at hl 0 rfl) ?_
              refine tz_get (ci := 8) (v := .int y22) (C := RX11) (F := TX11) (N := 36) hx hb hU iX11 hown hK hT 0 rfl rfl 30 (by decide) w815 (fun _ h9 => h9) rfl dX11_orbit_383 ?_
              exact tz_retI (B := B_cX11_orbit_79666 D k h0 h1 h4 h5 h15 h16 h2 h3 h6 h7 h8 h9 h10 h11 h12 h13 h14 h17 h18 h19 h20 h21 x1 x2 x3 h0f0 h0f1 h0f2 h0f3 h0f4 h0f5 h0f8 h0f9 h0f17 h0f18 h0f19 h0f24 h0f25 h0f30 h0f31) (v := y22) hQ hx hb hr hlocks hS (Nat.le_of_ble_eq_true rfl) (Nat.le_of_ble_eq_true rfl) dX11_orbit_386 (⟨y22, y46, (by omega), (by omega), (by omega), hT⟩)
            · skip
              have c_48 := ni_nle c_48 rfl rfl
              refine lv_iconst (v := 0) hx hb dX11_orbit_290 (by decide) ?_
              refine lv_istore (lv' := [(5, .int 0), (0, .ref h0), (4, .int y45)]) hx hb dX11_orbit_291 hl (by decide) rfl (fun ls hl => ?_)
              have lp293_57 : ∀ (n : Nat) (y55 : Int32) (y56 : Int32) (H : Heap) (locs : List Loc) (ls : Array Slot), (0 ≤ y55.toInt ∧ y55.toInt ≤ 4) → (0 ≤ y56.toInt ∧ y56.toInt ≤ 1) → (h0f1.toInt + (-1) * y55.toInt + 1).toNat < n → TP D A [(h0, ob 8 [.int h0f0, .int h0f1, .int h0f2, .int h0f3, .int h0f4, .int h0f5, .ref h1, .ref h2, .int h0f8, .int h0f9, .ref h3, .ref h4, .ref h5, .ref h6, .ref h7, .ref h8, .ref h9, .int h0f17, .int h0f18, .int h0f19, .ref h10, .ref h11, .ref h12, .ref h13, .int h0f24, .int h0f25, .ref h14, .ref h15, .ref h16, .ref h17, .int y22, .int y56, .ref h18, .ref h19, .ref h20, .ref h21]), (h1, aI (k 0) 36 anI), (h4, aJ (k 1) 9 anJ), (h5, aJ (k 1) 9 anJ), (h15, aJ (k 1) 180 anJ), (h16, aI (k 0) 240 anI)] H → va_S A s.heap H locs → lv_has ls 7 [(0, .ref h0), (4, .int y45), (5, .int y55)] → W p l e Rm_cX11_orbit_79666 s m args below meth c H locs 0 0 Q (F0 m 293 ls []) := by
                intro n
                induction n with
                | zero => intro y55 y56 H locs ls b_y55 b_y56 hm hT hS hl; exact absurd hm (Nat.not_lt_zero _)
                | succ n ih =>
                  intro y55 y56 H locs ls b_y55 b_y56 hm hT hS hl
                  have ih293_57 := ih
                  clear ih
                  refine lv_iload hx hb dX11_orbit_293 (lv_at hl 2 rfl) ?_
                  refine lv_aload_n hx hb dX11_orbit_295 rfl (lv_at hl 0 rfl) ?_
                  refine tz_get (ci := 8) (v := .int h0f1) (C := RX11) (F := TX11) (N := 36) hx hb hU iX11 hown hK hT 0 rfl rfl 1 (by decide) w786 (fun _ h9 => h9) rfl dX11_orbit_296 ?_
                  refine lv_icmp_ge (tgt := 376) hx hb dX11_orbit_299 (by decide) (fun c_58 => ?_) (fun c_58 => ?_)
                  · skip
                    have c_58 := ni_le c_58 rfl rfl
                    obtain ⟨v59, e_v59⟩ : ∃ x : Int32, x = y45 + Int32.ofInt 1 := ⟨_, rfl⟩
                    have f_v59 := e_v59.symm
                    have e_v59 : v59.toInt = y45.toInt + 1 := ai_add e_v59 rfl (show (Int32.ofInt 1).toInt = 1 from (by decide +kernel)) (by omega)
                    refine lv_iinc (v := v59) (lv' := [(4, .int v59), (0, .ref h0), (5, .int y55)]) hx hb dX11_orbit_376 hl (k := 1) rfl f_v59 (by decide) rfl (fun ls hl => ?_)
                    refine lv_goto (tgt := 281) hx hb dX11_orbit_379 (by decide) ?_
                    exact ih281_47 v59 y56 _ _ _ (by omega) (by omega)  (by omega) hT hS (lv_sub hl [1, 0] rfl)
                  · skip
                    have c_58 := ni_nle c_58 rfl rfl
                    refine lv_aload_n hx hb dX11_orbit_302 rfl (lv_at hl 0 rfl) ?_
                    refine lv_iload hx hb dX11_orbit_303 (lv_at hl 2 rfl) ?_
                    refine lv_iload hx hb dX11_orbit_305 (lv_at hl 1 rfl) ?_
                    refine tcV (Tc := [(h0, ob 8 [.int h0f0, .int h0f1, .int h0f2, .int h0f3, .int h0f4, .int h0f5, .ref h1, .ref h2, .int h0f8, .int h0f9, .ref h3, .ref h4, .ref h5, .ref h6, .ref h7, .ref h8, .ref h9, .int h0f17, .int h0f18, .int h0f19, .ref h10, .ref h11, .ref h12, .ref h13, .int h0f24, .int h0f25, .ref h14, .ref h15, .ref h16, .ref h17, .int y22, .int y56, .ref h18, .ref h19, .ref h20, .ref h21]), (h1, aI (k 0) 36 anI), (h4, aJ (k 1) 9 anJ), (h5, aJ (k 1) 9 anJ), (h15, aJ (k 1) 180 anJ)]) (Tr := [(h16, aI (k 0) 240 anI)]) (as := [h0, h1, h4, h5, h15]) (zcV (q0 := 0) (ci := 8) (As := [.int y55, .int y45]) (rest := []) (Tc := [(h0, ob 8 [.int h0f0, .int h0f1, .int h0f2, .int h0f3, .int h0f4, .int h0f5, .ref h1, .ref h2, .int h0f8, .int h0f9, .ref h3, .ref h4, .ref h5, .ref h6, .ref h7, .ref h8, .ref h9, .int h0f17, .int h0f18, .int h0f19, .ref h10, .ref h11, .ref h12, .ref h13, .int h0f24, .int h0f25, .ref h14, .ref h15, .ref h16, .ref h17, .int y22, .int y56, .ref h18, .ref h19, .ref h20, .ref h21]), (h1, aI (k 0) 36 anI), (h4, aJ (k 1) 9 anJ), (h5, aJ (k 1) 9 anJ), (h15, aJ (k 1) 180 anJ)]) hx hb hml hown hU hK hT rfl rfl [0, 1, 2, 3, 4] rfl (by decide) (cX11_goes_2c552 l D k _ h0 h1 h4 h5 h15 h2 h3 h6 h7 h8 h9 h10 h11 h12 h13 h14 h16 h17 h18 h19 h20 h21 y55 y45 h0f0 h0f1 h0f2 h0f3 h0f4 h0f5 h0f8 h0f9 h0f17 h0f18 h0f19 h0f24 h0f25 y22 y56 (by omega) (by omega) (by omega) (by omega) (by omega) (by omega) (by omega) (by omega) (by omega) (by omega) (by omega) (by omega) (by omega) (by omega) (by omega)) w1143 w1140 w1142 w57 w72 hdX11_goes ⟨rfl, rfl⟩ ⟨Nat.le_of_ble_eq_true rfl, Nat.le_of_ble_eq_true rfl⟩ rfl hl.1 (Nat.le_of_ble_eq_true rfl) dX11_orbit_307 ⟨Nat.le_of_ble_eq_true rfl, Nat.le_of_ble_eq_true rfl⟩) hT hS hA [0, 1, 2, 3, 4] [5] rfl rfl rfl (by decide) (by decide) (fun H locs hB J hS => ?_)
                    have hT1 := hB
                    have hT := J _ hT1
                    have hT : TP D A [(h16, aI (k 0) 240 anI), (h0, ob 8 [.int h0f0, .int h0f1, .int h0f2, .int h0f3, .int h0f4, .int h0f5, .ref h1, .ref h2, .int h0f8, .int h0f9, .ref h3, .ref h4, .ref h5, .ref h6, .ref h7, .ref h8, .ref h9, .int h0f17, .int h0f18, .int h0f19, .ref h10, .ref h11, .ref h12, .ref h13, .int h0f24, .int h0f25, .ref h14, .ref h15, .ref h16, .ref h17, .int y22, .int y56, .ref h18, .ref h19, .ref h20, .ref h21]), (h1, aI (k 0) 36 anI), (h4, aJ (k 1) 9 anJ), (h5, aJ (k 1) 9 anJ), (h15, aJ (k 1) 180 anJ)] H := hT
                    refine lv_aload_n hx hb dX11_orbit_310 rfl (lv_at hl 0 rfl) ?_
                    refine lv_aload_n hx hb dX11_orbit_311 rfl (lv_at hl 0 rfl) ?_
                    refine tz_get (ci := 8) (v := .ref h4) (C := RX11) (F := TX11) (N := 36) hx hb hU iX11 hown hK hT 1 rfl rfl 11 (by decide) w796 (fun _ h9 => h9) rfl dX11_orbit_312 ?_
                    refine lv_iconst (v := 0) hx hb dX11_orbit_315 (by decide) ?_
                    refine tz_lald hx hb hK hT 3 rfl (by have := li_0; omega) dX11_orbit_316 (fun v61 e_v61 => ?_)
                    clear e_v61
                    refine lv_aload_n hx hb dX11_orbit_317 rfl (lv_at hl 0 rfl) ?_
                    refine tz_get (ci := 8) (v := .ref h4) (C := RX11) (F := TX11) (N := 36) hx hb hU iX11 hown hK hT 1 rfl rfl 11 (by decide) w796 (fun _ h9 => h9) rfl dX11_orbit_318 ?_
                    refine lv_iconst (v := 1) hx hb dX11_orbit_321 (by decide) ?_
                    refine tz_lald hx hb hK hT 3 rfl (by have := li_1; omega) dX11_orbit_322 (fun v62 e_v62 => ?_)
                    clear e_v62
                    refine lv_aload_n hx hb dX11_orbit_323 rfl (lv_at hl 0 rfl) ?_
                    refine tz_get (ci := 8) (v := .ref h4) (C := RX11) (F := TX11) (N := 36) hx hb hU iX11 hown hK hT 1 rfl rfl 11 (by decide) w796 (fun _ h9 => h9) rfl dX11_orbit_324 ?_
                    refine lv_iconst (v := 2) hx hb dX11_orbit_327 (by decide) ?_
                    refine tz_lald hx hb hK hT 3 rfl (by have := li_2; omega) dX11_orbit_328 (fun v63 e_v63 => ?_)
                    clear e_v63
                    refine tcI (Tc := [(h0, ob 8 [.int h0f0, .int h0f1, .int h0f2, .int h0f3, .int h0f4, .int h0f5, .ref h1, .ref h2, .int h0f8, .int h0f9, .ref h3, .ref h4, .ref h5, .ref h6, .ref h7, .ref h8, .ref h9, .int h0f17, .int h0f18, .int h0f19, .ref h10, .ref h11, .ref h12, .ref h13, .int h0f24, .int h0f25, .ref h14, .ref h15, .ref h16, .ref h17, .int y22, .int y56, .ref h18, .ref h19, .ref h20, .ref h21]), (h15, aJ (k 1) 180 anJ)]) (Tr := [(h16, aI (k 0) 240 anI), (h1, aI (k 0) 36 anI), (h4, aJ (k 1) 9 anJ), (h5, aJ (k 1) 9 anJ)]) (as := [h0, h15]) (zcV (q0 := 1) (ci := 8) (As := [.long v61, .long v62, .long v63]) (rest := []) (Tc := [(h0, ob 8 [.int h0f0, .int h0f1, .int h0f2, .int h0f3, .int h0f4, .int h0f5, .ref h1, .ref h2, .int h0f8, .int h0f9, .ref h3, .ref h4, .ref h5, .ref h6, .ref h7, .ref h8, .ref h9, .int h0f17, .int h0f18, .int h0f19, .ref h10, .ref h11, .ref h12, .ref h13, .int h0f24, .int h0f25, .ref h14, .ref h15, .ref h16, .ref h17, .int y22, .int y56, .ref h18, .ref h19, .ref h20, .ref h21]), (h15, aJ (k 1) 180 anJ)]) hx hb hml hown hU hK hT rfl rfl [1, 5] rfl (by decide) (cX11_placeIn_20d66 l D k _ h0 h15 h1 h2 h3 h4 h5 h6 h7 h8 h9 h10 h11 h12 h13 h14 h16 h17 h18 h19 h20 h21 v61 v62 v63 h0f0 h0f1 h0f2 h0f3 h0f4 h0f5 h0f8 h0f9 h0f17 h0f18 h0f19 h0f24 h0f25 y22 y56 (by omega) (by omega) (by omega) (by omega) (by omega) (by omega) (by omega) (by omega) (by omega) (by omega) (by omega) (by omega) (by omega)) w1147 w1144 w1146 w58 w72 hdX11_placeIn ⟨rfl, rfl⟩ ⟨Nat.le_of_ble_eq_true rfl, Nat.le_of_ble_eq_true rfl⟩ rfl hl.1 (Nat.le_of_ble_eq_true rfl) dX11_orbit_329 ⟨Nat.le_of_ble_eq_true rfl, Nat.le_of_ble_eq_true rfl⟩) hT hS hA [1, 5] [0, 2, 3, 4] rfl rfl rfl (by decide) (by decide) (fun r64 H locs hB J hS => ?_)
                    obtain ⟨b_r64, hT1⟩ := hB
                    have hT := J _ hT1
                    have hT : TP D A [(h16, aI (k 0) 240 anI), (h1, aI (k 0) 36 anI), (h4, aJ (k 1) 9 anJ), (h5, aJ (k 1) 9 anJ), (h0, ob 8 [.int h0f0, .int h0f1, .int h0f2, .int h0f3, .int h0f4, .int h0f5, .ref h1, .ref h2, .int h0f8, .int h0f9, .ref h3, .ref h4, .ref h5, .ref h6, .ref h7, .ref h8, .ref h9, .int h0f17, .int h0f18, .int h0f19, .ref h10, .ref h11, .ref h12, .ref h13, .int h0f24, .int h0f25, .ref h14, .ref h15, .ref h16, .ref h17, .int y22, .int y56, .ref h18, .ref h19, .ref h20, .ref h21]), (h15, aJ (k 1) 180 anJ)] H := hT
                    refine lv_istore (lv' := [(6, .int r64), (0, .ref h0), (4, .int y45), (5, .int y55)]) hx hb dX11_orbit_332 hl (by decide) rfl (fun ls hl => ?_)
                    refine lv_aload_n hx hb dX11_orbit_334 rfl (lv_at hl 1 rfl) ?_
                    refine tz_get (ci := 8) (v := .ref h16) (C := RX11) (F := TX11) (N := 36) hx hb hU iX11 hown hK hT 4 rfl rfl 28 (by decide) w813 (fun _ h9 => h9) rfl dX11_orbit_335 ?_
                    refine lv_bipush (v := 60) hx hb dX11_orbit_338 (by decide) ?_
                    refine lv_iload hx hb dX11_orbit_340 (lv_at hl 3 rfl) ?_
                    refine lv_imul hx hb dX11_orbit_342 (lv_topi (fun v65 e_v65 => ?_))
                    have e_v65 := ai_mul e_v65 li_60 rfl (by omega)
                    refine lv_iload hx hb dX11_orbit_343 (lv_at hl 2 rfl) ?_
                    refine lv_iadd hx hb dX11_orbit_345 (lv_topi (fun v66 e_v66 => ?_))
                    have e_v66 := ai_add e_v66 rfl rfl (by omega)
                    refine lv_iload hx hb dX11_orbit_346 (lv_at hl 0 rfl) ?_
                    refine tz_iast hx hb hK hT hS 0 rfl (by omega) (fun _ _ => trivial) dX11_orbit_348 (fun H locs hT hS => ?_)
                    refine lv_aload_n hx hb dX11_orbit_349 rfl (lv_at hl 1 rfl) ?_
                    refine lv_aload_n hx hb dX11_orbit_350 rfl (lv_at hl 1 rfl) ?_
                    refine tz_get (ci := 8) (v := .int y56) (C := RX11) (F := TX11) (N := 36) hx hb hU iX11 hown hK hT 4 rfl rfl 31 (by decide) w816 (fun _ h9 => h9) rfl dX11_orbit_351 ?_
                    refine lv_if_eq (tgt := 366) hx hb dX11_orbit_354 (by decide) (fun c_67 => ?_) (fun c_67 => ?_)
                    · skip
                      have c_67 := ni_eq c_67 rfl li_0
                      refine lv_iconst (v := 0) hx hb dX11_orbit_366 (by decide) ?_
                      refine tz_put (ci := 8) (v := .int 0) (ty := .boolean) (C := RX11) (F := TX11) (N := 36) hx hb hU iX11 tyX11 tyX11_ok nmX11 hown hK hT hS 4 rfl rfl 31 (by decide) w816 (fun _ h9 => h9) rfl (by decide +kernel) rfl rfl (Nat.le_of_ble_eq_true rfl) dX11_orbit_367 (fun H locs hT hS => ?_)
                      have hT : TP D A [(h16, aI (k 0) 240 anI), (h1, aI (k 0) 36 anI), (h4, aJ (k 1) 9 anJ), (h5, aJ (k 1) 9 anJ), (h0, ob 8 [.int h0f0, .int h0f1, .int h0f2, .int h0f3, .int h0f4, .int h0f5, .ref h1, .ref h2, .int h0f8, .int h0f9, .ref h3, .ref h4, .ref h5, .ref h6, .ref h7, .ref h8, .ref h9, .int h0f17, .int h0f18, .int h0f19, .ref h10, .ref h11, .ref h12, .ref h13, .int h0f24, .int h0f25, .ref h14, .ref h15, .ref h16, .ref h17, .int y22, .int 0, .ref h18, .ref h19, .ref h20, .ref h21]), (h15, aJ (k 1) 180 anJ)] H := hT
                      obtain ⟨v68, e_v68⟩ : ∃ x : Int32, x = y55 + Int32.ofInt 1 := ⟨_, rfl⟩
                      have f_v68 := e_v68.symm
                      have e_v68 : v68.toInt = y55.toInt + 1 := ai_add e_v68 rfl (show (Int32.ofInt 1).toInt = 1 from (by decide +kernel)) (by omega)
                      refine lv_iinc (v := v68) (lv' := [(5, .int v68), (6, .int r64), (0, .ref h0), (4, .int y45)]) hx hb dX11_orbit_370 hl (k := 3) rfl f_v68 (by decide) rfl (fun ls hl => ?_)
                      refine lv_goto (tgt := 293) hx hb dX11_orbit_373 (by decide) ?_
                      exact ih293_57 v68 (0) _ _ _ (by have := li_0; omega) (by have := li_0; omega)  (by have := li_0; omega) (hT.sub [4, 1, 2, 3, 5, 0] (by decide) rfl) hS (lv_sub hl [2, 3, 0] rfl)
                    · skip
                      have c_67 := ni_ne c_67 rfl li_0
                      refine lv_iload hx hb dX11_orbit_357 (lv_at hl 0 rfl) ?_
                      refine lv_if_lt (tgt := 366) hx hb dX11_orbit_359 (by decide) (fun c_69 => ?_) (fun c_69 => ?_)
                      · skip
                        have c_69 := ni_lt c_69 rfl li_0
                        refine lv_iconst (v := 0) hx hb dX11_orbit_366 (by decide) ?_
                        refine tz_put (ci := 8) (v := .int 0) (ty := .boolean) (C := RX11) (F := TX11) (N := 36) hx hb hU iX11 tyX11 tyX11_ok nmX11 hown hK hT hS 4 rfl rfl 31 (by decide) w816 (fun _ h9 => h9) rfl (by decide +kernel) rfl rfl (Nat.le_of_ble_eq_true rfl) dX11_orbit_367 (fun H locs hT hS => ?_)
                        have hT : TP D A [(h16, aI (k 0) 240 anI), (h1, aI (k 0) 36 anI), (h4, aJ (k 1) 9 anJ), (h5, aJ (k 1) 9 anJ), (h0, ob 8 [.int h0f0, .int h0f1, .int h0f2, .int h0f3, .int h0f4, .int h0f5, .ref h1, .ref h2, .int h0f8, .int h0f9, .ref h3, .ref h4, .ref h5, .ref h6, .ref h7, .ref h8, .ref h9, .int h0f17, .int h0f18, .int h0f19, .ref h10, .ref h11, .ref h12, .ref h13, .int h0f24, .int h0f25, .ref h14, .ref h15, .ref h16, .ref h17, .int y22, .int 0, .ref h18, .ref h19, .ref h20, .ref h21]), (h15, aJ (k 1) 180 anJ)] H := hT
                        obtain ⟨v70, e_v70⟩ : ∃ x : Int32, x = y55 + Int32.ofInt 1 := ⟨_, rfl⟩
                        have f_v70 := e_v70.symm
                        have e_v70 : v70.toInt = y55.toInt + 1 := ai_add e_v70 rfl (show (Int32.ofInt 1).toInt = 1 from (by decide +kernel)) (by omega)
                        refine lv_iinc (v := v70) (lv' := [(5, .int v70), (6, .int r64), (0, .ref h0), (4, .int y45)]) hx hb dX11_orbit_370 hl (k := 3) rfl f_v70 (by decide) rfl (fun ls hl => ?_)
                        refine lv_goto (tgt := 293) hx hb dX11_orbit_373 (by decide) ?_
                        exact ih293_57 v70 (0) _ _ _ (by have := li_0; omega) (by have := li_0; omega)  (by have := li_0; omega) (hT.sub [4, 1, 2, 3, 5, 0] (by decide) rfl) hS (lv_sub hl [2, 3, 0] rfl)
                      · skip
                        have c_69 := ni_nlt c_69 rfl li_0
                        refine lv_iconst (v := 1) hx hb dX11_orbit_362 (by decide) ?_
                        refine lv_goto (tgt := 367) hx hb dX11_orbit_363 (by decide) ?_
                        refine tz_put (ci := 8) (v := .int 1) (ty := .boolean) (C := RX11) (F := TX11) (N := 36) hx hb hU iX11 tyX11 tyX11_ok nmX11 hown hK hT hS 4 rfl rfl 31 (by decide) w816 (fun _ h9 => h9) rfl (by decide +kernel) rfl rfl (Nat.le_of_ble_eq_true rfl) dX11_orbit_367 (fun H locs hT hS => ?_)
                        have hT : TP D A [(h16, aI (k 0) 240 anI), (h1, aI (k 0) 36 anI), (h4, aJ (k 1) 9 anJ), (h5, aJ (k 1) 9 anJ), (h0, ob 8 [.int h0f0, .int h0f1, .int h0f2, .int h0f3, .int h0f4, .int h0f5, .ref h1, .ref h2, .int h0f8, .int h0f9, .ref h3, .ref h4, .ref h5, .ref h6, .ref h7, .ref h8, .ref h9, .int h0f17, .int h0f18, .int h0f19, .ref h10, .ref h11, .ref h12, .ref h13, .int h0f24, .int h0f25, .ref h14, .ref h15, .ref h16, .ref h17, .int y22, .int 1, .ref h18, .ref h19, .ref h20, .ref h21]), (h15, aJ (k 1) 180 anJ)] H := hT
                        obtain ⟨v71, e_v71⟩ : ∃ x : Int32, x = y55 + Int32.ofInt 1 := ⟨_, rfl⟩
                        have f_v71 := e_v71.symm
                        have e_v71 : v71.toInt = y55.toInt + 1 := ai_add e_v71 rfl (show (Int32.ofInt 1).toInt = 1 from (by decide +kernel)) (by omega)
                        refine lv_iinc (v := v71) (lv' := [(5, .int v71), (6, .int r64), (0, .ref h0), (4, .int y45)]) hx hb dX11_orbit_370 hl (k := 3) rfl f_v71 (by decide) rfl (fun ls hl => ?_)
                        refine lv_goto (tgt := 293) hx hb dX11_orbit_373 (by decide) ?_
                        exact ih293_57 v71 (1) _ _ _ (by have := li_1; omega) (by have := li_1; omega)  (by have := li_1; omega) (hT.sub [4, 1, 2, 3, 5, 0] (by decide) rfl) hS (lv_sub hl [2, 3, 0] rfl)
              exact lp293_57 ((h0f1.toInt + (-1) * (0 : Int32).toInt + 1).toNat + 1) (0) y46 _ _ _ (by have := li_0; omega) (by have := li_0; omega)  (Nat.lt_succ_self _) hT hS (lv_sub hl [1, 2, 0] rfl)
        exact lp281_47 ((y22.toInt + (-1) * (0 : Int32).toInt + 1).toNat + 1) (0) (1) _ _ _ (by have := li_0; have := li_1; omega) (by have := li_0; have := li_1; omega)  (Nat.lt_succ_self _) hT hS (lv_sub hl [1, 0] rfl)
      · skip
        have c_24 := ni_nle c_24 rfl rfl
        refine lv_iconst (v := 0) hx hb dX11_orbit_76 (by decide) ?_
        refine lv_istore (lv' := [(5, .int 0), (0, .ref h0), (4, .int y21)]) hx hb dX11_orbit_77 hl (by decide) rfl (fun ls hl => ?_)
        have lp79_80 : ∀ (n : Nat) (y78 : Int32) (y79 : Int32) (H : Heap) (locs : List Loc) (ls : Array Slot), (0 ≤ y78.toInt ∧ y78.toInt ≤ 4) → (1 ≤ y79.toInt ∧ y79.toInt ≤ 60) → (h0f1.toInt + (-1) * y78.toInt + 1).toNat < n → TP D A [(h0, ob 8 [.int h0f0, .int h0f1, .int h0f2, .int h0f3, .int h0f4, .int h0f5, .ref h1, .ref h2, .int h0f8, .int h0f9, .ref h3, .ref h4, .ref h5, .ref h6, .ref h7, .ref h8, .ref h9, .int h0f17, .int h0f18, .int h0f19, .ref h10, .ref h11, .ref h12, .ref h13, .int h0f24, .int h0f25, .ref h14, .ref h15, .ref h16, .ref h17, .int y79, .int h0f31, .ref h18, .ref h19, .ref h20, .ref h21]), (h1, aI (k 0) 36 anI), (h4, aJ (k 1) 9 anJ), (h5, aJ (k 1) 9 anJ), (h15, aJ (k 1) 180 anJ), (h16, aI (k 0) 240 anI)] H → va_S A s.heap H locs → lv_has ls 7 [(0, .ref h0), (4, .int y21), (5, .int y78)] → W p l e Rm_cX11_orbit_79666 s m args below meth c H locs 0 0 Q (F0 m 79 ls []) := by
          intro n
          induction n with
          | zero => intro y78 y79 H locs ls b_y78 b_y79 hm hT hS hl; exact absurd hm (Nat.not_lt_zero _)
          | succ n ih =>
            intro y78 y79 H locs ls b_y78 b_y79 hm hT hS hl
            have ih79_80 := ih
            clear ih
            refine lv_iload hx hb dX11_orbit_79 (lv_at hl 2 rfl) ?_
            refine lv_aload_n hx hb dX11_orbit_81 rfl (lv_at hl 0 rfl) ?_
            refine tz_get (ci := 8) (v := .int h0f1) (C := RX11) (F := TX11) (N := 36) hx hb hU iX11 hown hK hT 0 rfl rfl 1 (by decide) w786 (fun _ h9 => h9) rfl dX11_orbit_82 ?_
            refine lv_icmp_ge (tgt := 267) hx hb dX11_orbit_85 (by decide) (fun c_81 => ?_) (fun c_81 => ?_)
            · skip
              have c_81 := ni_le c_81 rfl rfl
              obtain ⟨v82, e_v82⟩ : ∃ x : Int32, x = y21 + Int32.ofInt 1 := ⟨_, rfl⟩
              have f_v82 := e_v82.symm
              have e_v82 : v82.toInt = y21.toInt + 1 := ai_add e_v82 rfl (show (Int32.ofInt 1).toInt = 1 from (by decide +kernel)) (by omega)
              refine lv_iinc (v := v82) (lv' := [(4, .int v82), (0, .ref h0), (5, .int y78)]) hx hb dX11_orbit_267 hl (k := 1) rfl f_v82 (by decide) rfl (fun ls hl => ?_)
              refine lv_goto (tgt := 67) hx hb dX11_orbit_270 (by decide) ?_
              exact ih67_23 v82 y79 _ _ _ (by omega) (by omega)  (by omega) hT hS (lv_sub hl [1, 0] rfl)
            · skip
              have c_81 := ni_nle c_81 rfl rfl
              refine lv_aload_n hx hb dX11_orbit_88 rfl (lv_at hl 0 rfl) ?_
              refine tz_get (ci := 8) (v := .int y79) (C := RX11) (F := TX11) (N := 36) hx hb hU iX11 hown hK hT 0 rfl rfl 30 (by decide) w815 (fun _ h9 => h9) rfl dX11_orbit_89 ?_
              refine lv_bipush (v := 60) hx hb dX11_orbit_92 (by decide) ?_
              refine lv_icmp_ge (tgt := 267) hx hb dX11_orbit_94 (by decide) (fun c_83 => ?_) (fun c_83 => ?_)
              · skip
                have c_83 := ni_le c_83 li_60 rfl
                obtain ⟨v84, e_v84⟩ : ∃ x : Int32, x = y21 + Int32.ofInt 1 := ⟨_, rfl⟩
                have f_v84 := e_v84.symm
                have e_v84 : v84.toInt = y21.toInt + 1 := ai_add e_v84 rfl (show (Int32.ofInt 1).toInt = 1 from (by decide +kernel)) (by omega)
                refine lv_iinc (v := v84) (lv' := [(4, .int v84), (0, .ref h0), (5, .int y78)]) hx hb dX11_orbit_267 hl (k := 1) rfl f_v84 (by decide) rfl (fun ls hl => ?_)
                refine lv_goto (tgt := 67) hx hb dX11_orbit_270 (by decide) ?_
                exact ih67_23 v84 y79 _ _ _ (by omega) (by omega)  (by omega) hT hS (lv_sub hl [1, 0] rfl)
              · skip
                have c_83 := ni_nle c_83 li_60 rfl
                refine lv_aload_n hx hb dX11_orbit_97 rfl (lv_at hl 0 rfl) ?_
                refine lv_iload hx hb dX11_orbit_98 (lv_at hl 2 rfl) ?_
                refine lv_iload hx hb dX11_orbit_100 (lv_at hl 1 rfl) ?_
                refine tcV (Tc := [(h0, ob 8 [.int h0f0, .int h0f1, .int h0f2, .int h0f3, .int h0f4, .int h0f5, .ref h1, .ref h2, .int h0f8, .int h0f9, .ref h3, .ref h4, .ref h5, .ref h6, .ref h7, .ref h8, .ref h9, .int h0f17, .int h0f18, .int h0f19, .ref h10, .ref h11, .ref h12, .ref h13, .int h0f24, .int h0f25, .ref h14, .ref h15, .ref h16, .ref h17, .int y79, .int h0f31, .ref h18, .ref h19, .ref h20, .ref h21]), (h1, aI (k 0) 36 anI), (h4, aJ (k 1) 9 anJ), (h5, aJ (k 1) 9 anJ), (h15, aJ (k 1) 180 anJ)]) (Tr := [(h16, aI (k 0) 240 anI)]) (as := [h0, h1, h4, h5, h15]) (zcV (q0 := 0) (ci := 8) (As := [.int y78, .int y21]) (rest := []) (Tc := [(h0, ob 8 [.int h0f0, .int h0f1, .int h0f2, .int h0f3, .int h0f4, .int h0f5, .ref h1, .ref h2, .int h0f8, .int h0f9, .ref h3, .ref h4, .ref h5, .ref h6, .ref h7, .ref h8, .ref h9, .int h0f17, .int h0f18, .int h0f19, .ref h10, .ref h11, .ref h12, .ref h13, .int h0f24, .int h0f25, .ref h14, .ref h15, .ref h16, .ref h17, .int y79, .int h0f31, .ref h18, .ref h19, .ref h20, .ref h21]), (h1, aI (k 0) 36 anI), (h4, aJ (k 1) 9 anJ), (h5, aJ (k 1) 9 anJ), (h15, aJ (k 1) 180 anJ)]) hx hb hml hown hU hK hT rfl rfl [0, 1, 2, 3, 4] rfl (by decide) (cX11_goes_2c552 l D k _ h0 h1 h4 h5 h15 h2 h3 h6 h7 h8 h9 h10 h11 h12 h13 h14 h16 h17 h18 h19 h20 h21 y78 y21 h0f0 h0f1 h0f2 h0f3 h0f4 h0f5 h0f8 h0f9 h0f17 h0f18 h0f19 h0f24 h0f25 y79 h0f31 (by omega) (by omega) (by omega) (by omega) (by omega) (by omega) (by omega) (by omega) (by omega) (by omega) (by omega) (by omega) (by omega) (by omega) (by omega)) w1143 w1140 w1142 w57 w72 hdX11_goes ⟨rfl, rfl⟩ ⟨Nat.le_of_ble_eq_true rfl, Nat.le_of_ble_eq_true rfl⟩ rfl hl.1 (Nat.le_of_ble_eq_true rfl) dX11_orbit_102 ⟨Nat.le_of_ble_eq_true rfl, Nat.le_of_ble_eq_true rfl⟩) hT hS hA [0, 1, 2, 3, 4] [5] rfl rfl rfl (by decide) (by decide) (fun H locs hB J hS => ?_)
                have hT1 := hB
                have hT := J _ hT1
                have hT : TP D A [(h16, aI (k 0) 240 anI), (h0, ob 8 [.int h0f0, .int h0f1, .int h0f2, .int h0f3, .int h0f4, .int h0f5, .ref h1, .ref h2, .int h0f8, .int h0f9, .ref h3, .ref h4, .ref h5, .ref h6, .ref h7, .ref h8, .ref h9, .int h0f17, .int h0f18, .int h0f19, .ref h10, .ref h11, .ref h12, .ref h13, .int h0f24, .int h0f25, .ref h14, .ref h15, .ref h16, .ref h17, .int y79, .int h0f31, .ref h18, .ref h19, .ref h20, .ref h21]), (h1, aI (k 0) 36 anI), (h4, aJ (k 1) 9 anJ), (h5, aJ (k 1) 9 anJ), (h15, aJ (k 1) 180 anJ)] H := hT
                refine lv_aload_n hx hb dX11_orbit_105 rfl (lv_at hl 0 rfl) ?_
                refine tz_get (ci := 8) (v := .ref h4) (C := RX11) (F := TX11) (N := 36) hx hb hU iX11 hown hK hT 1 rfl rfl 11 (by decide) w796 (fun _ h9 => h9) rfl dX11_orbit_106 ?_
                refine lv_iconst (v := 0) hx hb dX11_orbit_109 (by decide) ?_
                refine tz_lald hx hb hK hT 3 rfl (by have := li_0; omega) dX11_orbit_110 (fun v86 e_v86 => ?_)
                clear e_v86
                refine lv_ldc2 hx hb hown (hU _ w981) dX11_orbit_111 ?_
                refine lv_ldc2 hx hb hown (hU _ w982) dX11_orbit_114 ?_
                have q_q88 := ll_m1000000000
                have q_q89 := ll_1000000000
                refine tcI (Tc := []) (Tr := [(h16, aI (k 0) 240 anI), (h0, ob 8 [.int h0f0, .int h0f1, .int h0f2, .int h0f3, .int h0f4, .int h0f5, .ref h1, .ref h2, .int h0f8, .int h0f9, .ref h3, .ref h4, .ref h5, .ref h6, .ref h7, .ref h8, .ref h9, .int h0f17, .int h0f18, .int h0f19, .ref h10, .ref h11, .ref h12, .ref h13, .int h0f24, .int h0f25, .ref h14, .ref h15, .ref h16, .ref h17, .int y79, .int h0f31, .ref h18, .ref h19, .ref h20, .ref h21]), (h1, aI (k 0) 36 anI), (h4, aJ (k 1) 9 anJ), (h5, aJ (k 1) 9 anJ), (h15, aJ (k 1) 180 anJ)]) (as := []) (zcS (As := [.long v86, .long (-1000000000), .long 1000000000]) (rest := []) (Tc := []) hx hb hml hown hU hK hT [] rfl (by decide) (cX11_in_ca3b9 l D k _ v86 ((-1000000000)) (1000000000) (by have := ll_m1000000000; omega) (by have := ll_1000000000; omega)) w901 w899 w900 w72 hdX11_in ⟨rfl, rfl⟩ ⟨Nat.le_of_ble_eq_true rfl, Nat.le_of_ble_eq_true rfl⟩ rfl hl.1 (Nat.le_of_ble_eq_true rfl) dX11_orbit_117 ⟨Nat.le_of_ble_eq_true rfl, Nat.le_of_ble_eq_true rfl⟩) hT hS hA [] [0, 1, 2, 3, 4, 5] rfl rfl rfl (by decide) (by decide) (fun r87 H locs hB J hS => ?_)
                rcases hB with ⟨rfl, hT1⟩ | ⟨c_90, c_91, rfl, hT1⟩
                · skip
                  have hT := J _ hT1
                  have hT : TP D A [(h16, aI (k 0) 240 anI), (h0, ob 8 [.int h0f0, .int h0f1, .int h0f2, .int h0f3, .int h0f4, .int h0f5, .ref h1, .ref h2, .int h0f8, .int h0f9, .ref h3, .ref h4, .ref h5, .ref h6, .ref h7, .ref h8, .ref h9, .int h0f17, .int h0f18, .int h0f19, .ref h10, .ref h11, .ref h12, .ref h13, .int h0f24, .int h0f25, .ref h14, .ref h15, .ref h16, .ref h17, .int y79, .int h0f31, .ref h18, .ref h19, .ref h20, .ref h21]), (h1, aI (k 0) 36 anI), (h4, aJ (k 1) 9 anJ), (h5, aJ (k 1) 9 anJ), (h15, aJ (k 1) 180 anJ)] H := hT
                  refine lv_if_eq (tgt := 163) hx hb dX11_orbit_120 (by decide) (fun _ => ?_) (fun cc => absurd (by decide +kernel) cc)
                  refine lv_iconst (v := 0) hx hb dX11_orbit_163 (by decide) ?_
                  refine lv_istore (lv' := [(6, .int 0), (0, .ref h0), (4, .int y21), (5, .int y78)]) hx hb dX11_orbit_164 hl (by decide) rfl (fun ls hl => ?_)
                  refine lv_iload hx hb dX11_orbit_166 (lv_at hl 0 rfl) ?_
                  refine lv_if_eq (tgt := 261) hx hb dX11_orbit_168 (by decide) (fun _ => ?_) (fun cc => absurd (by decide +kernel) cc)
                  obtain ⟨v92, e_v92⟩ : ∃ x : Int32, x = y78 + Int32.ofInt 1 := ⟨_, rfl⟩
                  have f_v92 := e_v92.symm
                  have e_v92 : v92.toInt = y78.toInt + 1 := ai_add e_v92 rfl (show (Int32.ofInt 1).toInt = 1 from (by decide +kernel)) (by omega)
                  refine lv_iinc (v := v92) (lv' := [(5, .int v92), (6, .int 0), (0, .ref h0), (4, .int y21)]) hx hb dX11_orbit_261 hl (k := 3) rfl f_v92 (by decide) rfl (fun ls hl => ?_)
                  refine lv_goto (tgt := 79) hx hb dX11_orbit_264 (by decide) ?_
                  exact ih79_80 v92 y79 _ _ _ (by omega) (by omega)  (by omega) (hT.sub [1, 2, 3, 4, 5, 0] (by decide) rfl) hS (lv_sub hl [2, 3, 0] rfl)
                · skip
                  have hT := J _ hT1
                  have hT : TP D A [(h16, aI (k 0) 240 anI), (h0, ob 8 [.int h0f0, .int h0f1, .int h0f2, .int h0f3, .int h0f4, .int h0f5, .ref h1, .ref h2, .int h0f8, .int h0f9, .ref h3, .ref h4, .ref h5, .ref h6, .ref h7, .ref h8, .ref h9, .int h0f17, .int h0f18, .int h0f19, .ref h10, .ref h11, .ref h12, .ref h13, .int h0f24, .int h0f25, .ref h14, .ref h15, .ref h16, .ref h17, .int y79, .int h0f31, .ref h18, .ref h19, .ref h20, .ref h21]), (h1, aI (k 0) 36 anI), (h4, aJ (k 1) 9 anJ), (h5, aJ (k 1) 9 anJ), (h15, aJ (k 1) 180 anJ)] H := hT
                  refine lv_if_eq (tgt := 163) hx hb dX11_orbit_120 (by decide) (fun cc => absurd cc (by decide +kernel)) (fun _ => ?_)
                  refine lv_aload_n hx hb dX11_orbit_123 rfl (lv_at hl 0 rfl) ?_
                  refine tz_get (ci := 8) (v := .ref h4) (C := RX11) (F := TX11) (N := 36) hx hb hU iX11 hown hK hT 1 rfl rfl 11 (by decide) w796 (fun _ h9 => h9) rfl dX11_orbit_124 ?_
                  refine lv_iconst (v := 1) hx hb dX11_orbit_127 (by decide) ?_
                  refine tz_lald hx hb hK hT 3 rfl (by have := li_1; omega) dX11_orbit_128 (fun v93 e_v93 => ?_)
                  clear e_v93
                  refine lv_ldc2 hx hb hown (hU _ w981) dX11_orbit_129 ?_
                  refine lv_ldc2 hx hb hown (hU _ w982) dX11_orbit_132 ?_
                  have q_q95 := ll_m1000000000
                  have q_q96 := ll_1000000000
                  refine tcI (Tc := []) (Tr := [(h16, aI (k 0) 240 anI), (h0, ob 8 [.int h0f0, .int h0f1, .int h0f2, .int h0f3, .int h0f4, .int h0f5, .ref h1, .ref h2, .int h0f8, .int h0f9, .ref h3, .ref h4, .ref h5, .ref h6, .ref h7, .ref h8, .ref h9, .int h0f17, .int h0f18, .int h0f19, .ref h10, .ref h11, .ref h12, .ref h13, .int h0f24, .int h0f25, .ref h14, .ref h15, .ref h16, .ref h17, .int y79, .int h0f31, .ref h18, .ref h19, .ref h20, .ref h21]), (h1, aI (k 0) 36 anI), (h4, aJ (k 1) 9 anJ), (h5, aJ (k 1) 9 anJ), (h15, aJ (k 1) 180 anJ)]) (as := []) (zcS (As := [.long v93, .long (-1000000000), .long 1000000000]) (rest := []) (Tc := []) hx hb hml hown hU hK hT [] rfl (by decide) (cX11_in_ca3b9 l D k _ v93 ((-1000000000)) (1000000000) (by have := ll_m1000000000; omega) (by have := ll_1000000000; omega)) w901 w899 w900 w72 hdX11_in ⟨rfl, rfl⟩ ⟨Nat.le_of_ble_eq_true rfl, Nat.le_of_ble_eq_true rfl⟩ rfl hl.1 (Nat.le_of_ble_eq_true rfl) dX11_orbit_135 ⟨Nat.le_of_ble_eq_true rfl, Nat.le_of_ble_eq_true rfl⟩) hT hS hA [] [0, 1, 2, 3, 4, 5] rfl rfl rfl (by decide) (by decide) (fun r94 H locs hB J hS => ?_)
                  rcases hB with ⟨rfl, hT1⟩ | ⟨c_97, c_98, rfl, hT1⟩
                  · skip
                    have hT := J _ hT1
                    have hT : TP D A [(h16, aI (k 0) 240 anI), (h0, ob 8 [.int h0f0, .int h0f1, .int h0f2, .int h0f3, .int h0f4, .int h0f5, .ref h1, .ref h2, .int h0f8, .int h0f9, .ref h3, .ref h4, .ref h5, .ref h6, .ref h7, .ref h8, .ref h9, .int h0f17, .int h0f18, .int h0f19, .ref h10, .ref h11, .ref h12, .ref h13, .int h0f24, .int h0f25, .ref h14, .ref h15, .ref h16, .ref h17, .int y79, .int h0f31, .ref h18, .ref h19, .ref h20, .ref h21]), (h1, aI (k 0) 36 anI), (h4, aJ (k 1) 9 anJ), (h5, aJ (k 1) 9 anJ), (h15, aJ (k 1) 180 anJ)] H := hT
                    refine lv_if_eq (tgt := 163) hx hb dX11_orbit_138 (by decide) (fun _ => ?_) (fun cc => absurd (by decide +kernel) cc)
                    refine lv_iconst (v := 0) hx hb dX11_orbit_163 (by decide) ?_
                    refine lv_istore (lv' := [(6, .int 0), (0, .ref h0), (4, .int y21), (5, .int y78)]) hx hb dX11_orbit_164 hl (by decide) rfl (fun ls hl => ?_)
                    refine lv_iload hx hb dX11_orbit_166 (lv_at hl 0 rfl) ?_
                    refine lv_if_eq (tgt := 261) hx hb dX11_orbit_168 (by decide) (fun _ => ?_) (fun cc => absurd (by decide +kernel) cc)
                    obtain ⟨v99, e_v99⟩ : ∃ x : Int32, x = y78 + Int32.ofInt 1 := ⟨_, rfl⟩
                    have f_v99 := e_v99.symm
                    have e_v99 : v99.toInt = y78.toInt + 1 := ai_add e_v99 rfl (show (Int32.ofInt 1).toInt = 1 from (by decide +kernel)) (by omega)
                    refine lv_iinc (v := v99) (lv' := [(5, .int v99), (6, .int 0), (0, .ref h0), (4, .int y21)]) hx hb dX11_orbit_261 hl (k := 3) rfl f_v99 (by decide) rfl (fun ls hl => ?_)
                    refine lv_goto (tgt := 79) hx hb dX11_orbit_264 (by decide) ?_
                    exact ih79_80 v99 y79 _ _ _ (by omega) (by omega)  (by omega) (hT.sub [1, 2, 3, 4, 5, 0] (by decide) rfl) hS (lv_sub hl [2, 3, 0] rfl)
                  · skip
                    have hT := J _ hT1
                    have hT : TP D A [(h16, aI (k 0) 240 anI), (h0, ob 8 [.int h0f0, .int h0f1, .int h0f2, .int h0f3, .int h0f4, .int h0f5, .ref h1, .ref h2, .int h0f8, .int h0f9, .ref h3, .ref h4, .ref h5, .ref h6, .ref h7, .ref h8, .ref h9, .int h0f17, .int h0f18, .int h0f19, .ref h10, .ref h11, .ref h12, .ref h13, .int h0f24, .int h0f25, .ref h14, .ref h15, .ref h16, .ref h17, .int y79, .int h0f31, .ref h18, .ref h19, .ref h20, .ref h21]), (h1, aI (k 0) 36 anI), (h4, aJ (k 1) 9 anJ), (h5, aJ (k 1) 9 anJ), (h15, aJ (k 1) 180 anJ)] H := hT
                    refine lv_if_eq (tgt := 163) hx hb dX11_orbit_138 (by decide) (fun cc => absurd cc (by decide +kernel)) (fun _ => ?_)
                    refine lv_aload_n hx hb dX11_orbit_141 rfl (lv_at hl 0 rfl) ?_
                    refine tz_get (ci := 8) (v := .ref h4) (C := RX11) (F := TX11) (N := 36) hx hb hU iX11 hown hK hT 1 rfl rfl 11 (by decide) w796 (fun _ h9 => h9) rfl dX11_orbit_142 ?_
                    refine lv_iconst (v := 2) hx hb dX11_orbit_145 (by decide) ?_
                    refine tz_lald hx hb hK hT 3 rfl (by have := li_2; omega) dX11_orbit_146 (fun v100 e_v100 => ?_)
                    clear e_v100
                    refine lv_ldc2 hx hb hown (hU _ w981) dX11_orbit_147 ?_
                    refine lv_ldc2 hx hb hown (hU _ w982) dX11_orbit_150 ?_
                    have q_q102 := ll_m1000000000
                    have q_q103 := ll_1000000000
                    refine tcI (Tc := []) (Tr := [(h16, aI (k 0) 240 anI), (h0, ob 8 [.int h0f0, .int h0f1, .int h0f2, .int h0f3, .int h0f4, .int h0f5, .ref h1, .ref h2, .int h0f8, .int h0f9, .ref h3, .ref h4, .ref h5, .ref h6, .ref h7, .ref h8, .ref h9, .int h0f17, .int h0f18, .int h0f19, .ref h10, .ref h11, .ref h12, .ref h13, .int h0f24, .int h0f25, .ref h14, .ref h15, .ref h16, .ref h17, .int y79, .int h0f31, .ref h18, .ref h19, .ref h20, .ref h21]), (h1, aI (k 0) 36 anI), (h4, aJ (k 1) 9 anJ), (h5, aJ (k 1) 9 anJ), (h15, aJ (k 1) 180 anJ)]) (as := []) (zcS (As := [.long v100, .long (-1000000000), .long 1000000000]) (rest := []) (Tc := []) hx hb hml hown hU hK hT [] rfl (by decide) (cX11_in_ca3b9 l D k _ v100 ((-1000000000)) (1000000000) (by have := ll_m1000000000; omega) (by have := ll_1000000000; omega)) w901 w899 w900 w72 hdX11_in ⟨rfl, rfl⟩ ⟨Nat.le_of_ble_eq_true rfl, Nat.le_of_ble_eq_true rfl⟩ rfl hl.1 (Nat.le_of_ble_eq_true rfl) dX11_orbit_153 ⟨Nat.le_of_ble_eq_true rfl, Nat.le_of_ble_eq_true rfl⟩) hT hS hA [] [0, 1, 2, 3, 4, 5] rfl rfl rfl (by decide) (by decide) (fun r101 H locs hB J hS => ?_)
                    rcases hB with ⟨rfl, hT1⟩ | ⟨c_104, c_105, rfl, hT1⟩
                    · skip
                      have hT := J _ hT1
                      have hT : TP D A [(h16, aI (k 0) 240 anI), (h0, ob 8 [.int h0f0, .int h0f1, .int h0f2, .int h0f3, .int h0f4, .int h0f5, .ref h1, .ref h2, .int h0f8, .int h0f9, .ref h3, .ref h4, .ref h5, .ref h6, .ref h7, .ref h8, .ref h9, .int h0f17, .int h0f18, .int h0f19, .ref h10, .ref h11, .ref h12, .ref h13, .int h0f24, .int h0f25, .ref h14, .ref h15, .ref h16, .ref h17, .int y79, .int h0f31, .ref h18, .ref h19, .ref h20, .ref h21]), (h1, aI (k 0) 36 anI), (h4, aJ (k 1) 9 anJ), (h5, aJ (k 1) 9 anJ), (h15, aJ (k 1) 180 anJ)] H := hT
                      refine lv_if_eq (tgt := 163) hx hb dX11_orbit_156 (by decide) (fun _ => ?_) (fun cc => absurd (by decide +kernel) cc)
                      refine lv_iconst (v := 0) hx hb dX11_orbit_163 (by decide) ?_
                      refine lv_istore (lv' := [(6, .int 0), (0, .ref h0), (4, .int y21), (5, .int y78)]) hx hb dX11_orbit_164 hl (by decide) rfl (fun ls hl => ?_)
                      refine lv_iload hx hb dX11_orbit_166 (lv_at hl 0 rfl) ?_
                      refine lv_if_eq (tgt := 261) hx hb dX11_orbit_168 (by decide) (fun _ => ?_) (fun cc => absurd (by decide +kernel) cc)
                      obtain ⟨v106, e_v106⟩ : ∃ x : Int32, x = y78 + Int32.ofInt 1 := ⟨_, rfl⟩
                      have f_v106 := e_v106.symm
                      have e_v106 : v106.toInt = y78.toInt + 1 := ai_add e_v106 rfl (show (Int32.ofInt 1).toInt = 1 from (by decide +kernel)) (by omega)
                      refine lv_iinc (v := v106) (lv' := [(5, .int v106), (6, .int 0), (0, .ref h0), (4, .int y21)]) hx hb dX11_orbit_261 hl (k := 3) rfl f_v106 (by decide) rfl (fun ls hl => ?_)
                      refine lv_goto (tgt := 79) hx hb dX11_orbit_264 (by decide) ?_
                      exact ih79_80 v106 y79 _ _ _ (by omega) (by omega)  (by omega) (hT.sub [1, 2, 3, 4, 5, 0] (by decide) rfl) hS (lv_sub hl [2, 3, 0] rfl)
                    · skip
                      have hT := J _ hT1
                      have hT : TP D A [(h16, aI (k 0) 240 anI), (h0, ob 8 [.int h0f0, .int h0f1, .int h0f2, .int h0f3, .int h0f4, .int h0f5, .ref h1, .ref h2, .int h0f8, .int h0f9, .ref h3, .ref h4, .ref h5, .ref h6, .ref h7, .ref h8, .ref h9, .int h0f17, .int h0f18, .int h0f19, .ref h10, .ref h11, .ref h12, .ref h13, .int h0f24, .int h0f25, .ref h14, .ref h15, .ref h16, .ref h17, .int y79, .int h0f31, .ref h18, .ref h19, .ref h20, .ref h21]), (h1, aI (k 0) 36 anI), (h4, aJ (k 1) 9 anJ), (h5, aJ (k 1) 9 anJ), (h15, aJ (k 1) 180 anJ)] H := hT
                      refine lv_if_eq (tgt := 163) hx hb dX11_orbit_156 (by decide) (fun cc => absurd cc (by decide +kernel)) (fun _ => ?_)
                      refine lv_iconst (v := 1) hx hb dX11_orbit_159 (by decide) ?_
                      refine lv_goto (tgt := 164) hx hb dX11_orbit_160 (by decide) ?_
                      refine lv_istore (lv' := [(6, .int 1), (0, .ref h0), (4, .int y21), (5, .int y78)]) hx hb dX11_orbit_164 hl (by decide) rfl (fun ls hl => ?_)
                      refine lv_iload hx hb dX11_orbit_166 (lv_at hl 0 rfl) ?_
                      refine lv_if_eq (tgt := 261) hx hb dX11_orbit_168 (by decide) (fun cc => absurd cc (by decide +kernel)) (fun _ => ?_)
                      refine lv_aload_n hx hb dX11_orbit_171 rfl (lv_at hl 1 rfl) ?_
                      refine lv_aload_n hx hb dX11_orbit_172 rfl (lv_at hl 1 rfl) ?_
                      refine tz_get (ci := 8) (v := .ref h4) (C := RX11) (F := TX11) (N := 36) hx hb hU iX11 hown hK hT 1 rfl rfl 11 (by decide) w796 (fun _ h9 => h9) rfl dX11_orbit_173 ?_
                      refine lv_iconst (v := 0) hx hb dX11_orbit_176 (by decide) ?_
                      refine tz_lald hx hb hK hT 3 rfl (by have := li_0; omega) dX11_orbit_177 (fun v107 e_v107 => ?_)
                      clear e_v107
                      refine lv_aload_n hx hb dX11_orbit_178 rfl (lv_at hl 1 rfl) ?_
                      refine tz_get (ci := 8) (v := .ref h4) (C := RX11) (F := TX11) (N := 36) hx hb hU iX11 hown hK hT 1 rfl rfl 11 (by decide) w796 (fun _ h9 => h9) rfl dX11_orbit_179 ?_
                      refine lv_iconst (v := 1) hx hb dX11_orbit_182 (by decide) ?_
                      refine tz_lald hx hb hK hT 3 rfl (by have := li_1; omega) dX11_orbit_183 (fun v108 e_v108 => ?_)
                      clear e_v108
                      refine lv_aload_n hx hb dX11_orbit_184 rfl (lv_at hl 1 rfl) ?_
                      refine tz_get (ci := 8) (v := .ref h4) (C := RX11) (F := TX11) (N := 36) hx hb hU iX11 hown hK hT 1 rfl rfl 11 (by decide) w796 (fun _ h9 => h9) rfl dX11_orbit_185 ?_
                      refine lv_iconst (v := 2) hx hb dX11_orbit_188 (by decide) ?_
                      refine tz_lald hx hb hK hT 3 rfl (by have := li_2; omega) dX11_orbit_189 (fun v109 e_v109 => ?_)
                      clear e_v109
                      refine tcI (Tc := [(h0, ob 8 [.int h0f0, .int h0f1, .int h0f2, .int h0f3, .int h0f4, .int h0f5, .ref h1, .ref h2, .int h0f8, .int h0f9, .ref h3, .ref h4, .ref h5, .ref h6, .ref h7, .ref h8, .ref h9, .int h0f17, .int h0f18, .int h0f19, .ref h10, .ref h11, .ref h12, .ref h13, .int h0f24, .int h0f25, .ref h14, .ref h15, .ref h16, .ref h17, .int y79, .int h0f31, .ref h18, .ref h19, .ref h20, .ref h21]), (h15, aJ (k 1) 180 anJ)]) (Tr := [(h16, aI (k 0) 240 anI), (h1, aI (k 0) 36 anI), (h4, aJ (k 1) 9 anJ), (h5, aJ (k 1) 9 anJ)]) (as := [h0, h15]) (zcV (q0 := 1) (ci := 8) (As := [.long v107, .long v108, .long v109]) (rest := []) (Tc := [(h0, ob 8 [.int h0f0, .int h0f1, .int h0f2, .int h0f3, .int h0f4, .int h0f5, .ref h1, .ref h2, .int h0f8, .int h0f9, .ref h3, .ref h4, .ref h5, .ref h6, .ref h7, .ref h8, .ref h9, .int h0f17, .int h0f18, .int h0f19, .ref h10, .ref h11, .ref h12, .ref h13, .int h0f24, .int h0f25, .ref h14, .ref h15, .ref h16, .ref h17, .int y79, .int h0f31, .ref h18, .ref h19, .ref h20, .ref h21]), (h15, aJ (k 1) 180 anJ)]) hx hb hml hown hU hK hT rfl rfl [1, 5] rfl (by decide) (cX11_placeIn_20d66 l D k _ h0 h15 h1 h2 h3 h4 h5 h6 h7 h8 h9 h10 h11 h12 h13 h14 h16 h17 h18 h19 h20 h21 v107 v108 v109 h0f0 h0f1 h0f2 h0f3 h0f4 h0f5 h0f8 h0f9 h0f17 h0f18 h0f19 h0f24 h0f25 y79 h0f31 (by omega) (by omega) (by omega) (by omega) (by omega) (by omega) (by omega) (by omega) (by omega) (by omega) (by omega) (by omega) (by omega)) w1147 w1144 w1146 w58 w72 hdX11_placeIn ⟨rfl, rfl⟩ ⟨Nat.le_of_ble_eq_true rfl, Nat.le_of_ble_eq_true rfl⟩ rfl hl.1 (Nat.le_of_ble_eq_true rfl) dX11_orbit_190 ⟨Nat.le_of_ble_eq_true rfl, Nat.le_of_ble_eq_true rfl⟩) hT hS hA [1, 5] [0, 2, 3, 4] rfl rfl rfl (by decide) (by decide) (fun r110 H locs hB J hS => ?_)
                      obtain ⟨b_r110, hT1⟩ := hB
                      have hT := J _ hT1
                      have hT : TP D A [(h16, aI (k 0) 240 anI), (h1, aI (k 0) 36 anI), (h4, aJ (k 1) 9 anJ), (h5, aJ (k 1) 9 anJ), (h0, ob 8 [.int h0f0, .int h0f1, .int h0f2, .int h0f3, .int h0f4, .int h0f5, .ref h1, .ref h2, .int h0f8, .int h0f9, .ref h3, .ref h4, .ref h5, .ref h6, .ref h7, .ref h8, .ref h9, .int h0f17, .int h0f18, .int h0f19, .ref h10, .ref h11, .ref h12, .ref h13, .int h0f24, .int h0f25, .ref h14, .ref h15, .ref h16, .ref h17, .int y79, .int h0f31, .ref h18, .ref h19, .ref h20, .ref h21]), (h15, aJ (k 1) 180 anJ)] H := hT
                      refine lv_if_ge (tgt := 261) hx hb dX11_orbit_193 (by decide) (fun c_111 => ?_) (fun c_111 => ?_)
                      · skip
                        have c_111 := ni_le c_111 li_0 rfl
                        obtain ⟨v112, e_v112⟩ : ∃ x : Int32, x = y78 + Int32.ofInt 1 := ⟨_, rfl⟩
                        have f_v112 := e_v112.symm
                        have e_v112 : v112.toInt = y78.toInt + 1 := ai_add e_v112 rfl (show (Int32.ofInt 1).toInt = 1 from (by decide +kernel)) (by omega)
                        refine lv_iinc (v := v112) (lv' := [(5, .int v112), (6, .int 1), (0, .ref h0), (4, .int y21)]) hx hb dX11_orbit_261 hl (k := 3) rfl f_v112 (by decide) rfl (fun ls hl => ?_)
                        refine lv_goto (tgt := 79) hx hb dX11_orbit_264 (by decide) ?_
                        exact ih79_80 v112 y79 _ _ _ (by omega) (by omega)  (by omega) (hT.sub [4, 1, 2, 3, 5, 0] (by decide) rfl) hS (lv_sub hl [2, 3, 0] rfl)
                      · skip
                        have c_111 := ni_nle c_111 li_0 rfl
                        refine lv_aload_n hx hb dX11_orbit_196 rfl (lv_at hl 1 rfl) ?_
                        refine tz_get (ci := 8) (v := .ref h15) (C := RX11) (F := TX11) (N := 36) hx hb hU iX11 hown hK hT 4 rfl rfl 27 (by decide) w812 (fun _ h9 => h9) rfl dX11_orbit_197 ?_
                        refine lv_iconst (v := 3) hx hb dX11_orbit_200 (by decide) ?_
                        refine lv_aload_n hx hb dX11_orbit_201 rfl (lv_at hl 1 rfl) ?_
                        refine tz_get (ci := 8) (v := .int y79) (C := RX11) (F := TX11) (N := 36) hx hb hU iX11 hown hK hT 4 rfl rfl 30 (by decide) w815 (fun _ h9 => h9) rfl dX11_orbit_202 ?_
                        refine lv_imul hx hb dX11_orbit_205 (lv_topi (fun v113 e_v113 => ?_))
                        have e_v113 := ai_mul e_v113 li_3 rfl (by omega)
                        refine lv_aload_n hx hb dX11_orbit_206 rfl (lv_at hl 1 rfl) ?_
                        refine tz_get (ci := 8) (v := .ref h4) (C := RX11) (F := TX11) (N := 36) hx hb hU iX11 hown hK hT 4 rfl rfl 11 (by decide) w796 (fun _ h9 => h9) rfl dX11_orbit_207 ?_
                        refine lv_iconst (v := 0) hx hb dX11_orbit_210 (by decide) ?_
                        refine tz_lald hx hb hK hT 2 rfl (by have := li_0; omega) dX11_orbit_211 (fun v114 e_v114 => ?_)
                        clear e_v114
                        refine tz_last hx hb hK hT hS 5 rfl (by omega) (fun _ _ => trivial) dX11_orbit_212 (fun H locs hT hS => ?_)
                        refine lv_aload_n hx hb dX11_orbit_213 rfl (lv_at hl 1 rfl) ?_
                        refine tz_get (ci := 8) (v := .ref h15) (C := RX11) (F := TX11) (N := 36) hx hb hU iX11 hown hK hT 4 rfl rfl 27 (by decide) w812 (fun _ h9 => h9) rfl dX11_orbit_214 ?_
                        refine lv_iconst (v := 3) hx hb dX11_orbit_217 (by decide) ?_
                        refine lv_aload_n hx hb dX11_orbit_218 rfl (lv_at hl 1 rfl) ?_
                        refine tz_get (ci := 8) (v := .int y79) (C := RX11) (F := TX11) (N := 36) hx hb hU iX11 hown hK hT 4 rfl rfl 30 (by decide) w815 (fun _ h9 => h9) rfl dX11_orbit_219 ?_
                        refine lv_imul hx hb dX11_orbit_222 (lv_topi (fun v115 e_v115 => ?_))
                        have e_v115 := ai_mul e_v115 li_3 rfl (by omega)
                        refine lv_iconst (v := 1) hx hb dX11_orbit_223 (by decide) ?_
                        refine lv_iadd hx hb dX11_orbit_224 (lv_topi (fun v116 e_v116 => ?_))
                        have e_v116 := ai_add e_v116 rfl li_1 (by omega)
                        refine lv_aload_n hx hb dX11_orbit_225 rfl (lv_at hl 1 rfl) ?_
                        refine tz_get (ci := 8) (v := .ref h4) (C := RX11) (F := TX11) (N := 36) hx hb hU iX11 hown hK hT 4 rfl rfl 11 (by decide) w796 (fun _ h9 => h9) rfl dX11_orbit_226 ?_
                        refine lv_iconst (v := 1) hx hb dX11_orbit_229 (by decide) ?_
                        refine tz_lald hx hb hK hT 2 rfl (by have := li_1; omega) dX11_orbit_230 (fun v117 e_v117 => ?_)
                        clear e_v117
                        refine tz_last hx hb hK hT hS 5 rfl (by omega) (fun _ _ => trivial) dX11_orbit_231 (fun H locs hT hS => ?_)
                        refine lv_aload_n hx hb dX11_orbit_232 rfl (lv_at hl 1 rfl) ?_
                        refine tz_get (ci := 8) (v := .ref h15) (C := RX11) (F := TX11) (N := 36) hx hb hU iX11 hown hK hT 4 rfl rfl 27 (by decide) w812 (fun _ h9 => h9) rfl dX11_orbit_233 ?_
                        refine lv_iconst (v := 3) hx hb dX11_orbit_236 (by decide) ?_
                        refine lv_aload_n hx hb dX11_orbit_237 rfl (lv_at hl 1 rfl) ?_
                        refine tz_get (ci := 8) (v := .int y79) (C := RX11) (F := TX11) (N := 36) hx hb hU iX11 hown hK hT 4 rfl rfl 30 (by decide) w815 (fun _ h9 => h9) rfl dX11_orbit_238 ?_
                        refine lv_imul hx hb dX11_orbit_241 (lv_topi (fun v118 e_v118 => ?_))
                        have e_v118 := ai_mul e_v118 li_3 rfl (by omega)
                        refine lv_iconst (v := 2) hx hb dX11_orbit_242 (by decide) ?_
                        refine lv_iadd hx hb dX11_orbit_243 (lv_topi (fun v119 e_v119 => ?_))
                        have e_v119 := ai_add e_v119 rfl li_2 (by omega)
                        refine lv_aload_n hx hb dX11_orbit_244 rfl (lv_at hl 1 rfl) ?_
                        refine tz_get (ci := 8) (v := .ref h4) (C := RX11) (F := TX11) (N := 36) hx hb hU iX11 hown hK hT 4 rfl rfl 11 (by decide) w796 (fun _ h9 => h9) rfl dX11_orbit_245 ?_
                        refine lv_iconst (v := 2) hx hb dX11_orbit_248 (by decide) ?_
                        refine tz_lald hx hb hK hT 2 rfl (by have := li_2; omega) dX11_orbit_249 (fun v120 e_v120 => ?_)
                        clear e_v120
                        refine tz_last hx hb hK hT hS 5 rfl (by omega) (fun _ _ => trivial) dX11_orbit_250 (fun H locs hT hS => ?_)
                        refine lv_aload_n hx hb dX11_orbit_251 rfl (lv_at hl 1 rfl) ?_
                        refine lv_dup hx hb dX11_orbit_252 rfl ?_
                        refine tz_get (ci := 8) (v := .int y79) (C := RX11) (F := TX11) (N := 36) hx hb hU iX11 hown hK hT 4 rfl rfl 30 (by decide) w815 (fun _ h9 => h9) rfl dX11_orbit_253 ?_
                        refine lv_iconst (v := 1) hx hb dX11_orbit_256 (by decide) ?_
                        refine lv_iadd hx hb dX11_orbit_257 (lv_topi (fun v121 e_v121 => ?_))
                        have e_v121 := ai_add e_v121 rfl li_1 (by omega)
                        refine tz_put (ci := 8) (v := .int v121) (ty := .int) (C := RX11) (F := TX11) (N := 36) hx hb hU iX11 tyX11 tyX11_ok nmX11 hown hK hT hS 4 rfl rfl 30 (by decide) w815 (fun _ h9 => h9) rfl (by decide +kernel) rfl rfl (Nat.le_of_ble_eq_true rfl) dX11_orbit_258 (fun H locs hT hS => ?_)
                        have hT : TP D A [(h16, aI (k 0) 240 anI), (h1, aI (k 0) 36 anI), (h4, aJ (k 1) 9 anJ), (h5, aJ (k 1) 9 anJ), (h0, ob 8 [.int h0f0, .int h0f1, .int h0f2, .int h0f3, .int h0f4, .int h0f5, .ref h1, .ref h2, .int h0f8, .int h0f9, .ref h3, .ref h4, .ref h5, .ref h6, .ref h7, .ref h8, .ref h9, .int h0f17, .int h0f18, .int h0f19, .ref h10, .ref h11, .ref h12, .ref h13, .int h0f24, .int h0f25, .ref h14, .ref h15, .ref h16, .ref h17, .int v121, .int h0f31, .ref h18, .ref h19, .ref h20, .ref h21]), (h15, aJ (k 1) 180 anJ)] H := hT
                        obtain ⟨v122, e_v122⟩ : ∃ x : Int32, x = y78 + Int32.ofInt 1 := ⟨_, rfl⟩
                        have f_v122 := e_v122.symm
                        have e_v122 : v122.toInt = y78.toInt + 1 := ai_add e_v122 rfl (show (Int32.ofInt 1).toInt = 1 from (by decide +kernel)) (by omega)
                        refine lv_iinc (v := v122) (lv' := [(5, .int v122), (6, .int 1), (0, .ref h0), (4, .int y21)]) hx hb dX11_orbit_261 hl (k := 3) rfl f_v122 (by decide) rfl (fun ls hl => ?_)
                        refine lv_goto (tgt := 79) hx hb dX11_orbit_264 (by decide) ?_
                        exact ih79_80 v122 v121 _ _ _ (by omega) (by omega)  (by omega) (hT.sub [4, 1, 2, 3, 5, 0] (by decide) rfl) hS (lv_sub hl [2, 3, 0] rfl)
        exact lp79_80 ((h0f1.toInt + (-1) * (0 : Int32).toInt + 1).toNat + 1) (0) y22 _ _ _ (by have := li_0; omega) (by have := li_0; omega)  (Nat.lt_succ_self _) hT hS (lv_sub hl [1, 2, 0] rfl)
  refine lv_iload_n hx hb dX11_orbit_0 rfl (lv_at hl 1 rfl) ?_
  refine lv_iload_n hx hb dX11_orbit_1 rfl (lv_at hl 2 rfl) ?_
  refine lv_iload_n hx hb dX11_orbit_2 rfl (lv_at hl 3 rfl) ?_
  refine tcI (Tc := []) (Tr := [(h0, ob 8 [.int h0f0, .int h0f1, .int h0f2, .int h0f3, .int h0f4, .int h0f5, .ref h1, .ref h2, .int h0f8, .int h0f9, .ref h3, .ref h4, .ref h5, .ref h6, .ref h7, .ref h8, .ref h9, .int h0f17, .int h0f18, .int h0f19, .ref h10, .ref h11, .ref h12, .ref h13, .int h0f24, .int h0f25, .ref h14, .ref h15, .ref h16, .ref h17, .int h0f30, .int h0f31, .ref h18, .ref h19, .ref h20, .ref h21]), (h1, aI (k 0) 36 anI), (h4, aJ (k 1) 9 anJ), (h5, aJ (k 1) 9 anJ), (h15, aJ (k 1) 180 anJ), (h16, aI (k 0) 240 anI)]) (as := []) (zcS (As := [.int x1, .int x2, .int x3]) (rest := []) (Tc := []) hx hb hml hown hU hK hT [] rfl (by decide) (cX11_isAsked_874da l D k _ x1 x2 x3) w1137 w1135 w1136 w72 hdX11_isAsked ⟨rfl, rfl⟩ ⟨Nat.le_of_ble_eq_true rfl, Nat.le_of_ble_eq_true rfl⟩ rfl hl.1 (Nat.le_of_ble_eq_true rfl) dX11_orbit_3 ⟨Nat.le_of_ble_eq_true rfl, Nat.le_of_ble_eq_true rfl⟩) hT hS hA [] [0, 1, 2, 3, 4, 5] rfl rfl rfl (by decide) (by decide) (fun r123 H locs hB J hS => ?_)
  obtain ⟨b_r123, hT1⟩ := hB
  have hT := J _ hT1
  have hT : TP D A [(h0, ob 8 [.int h0f0, .int h0f1, .int h0f2, .int h0f3, .int h0f4, .int h0f5, .ref h1, .ref h2, .int h0f8, .int h0f9, .ref h3, .ref h4, .ref h5, .ref h6, .ref h7, .ref h8, .ref h9, .int h0f17, .int h0f18, .int h0f19, .ref h10, .ref h11, .ref h12, .ref h13, .int h0f24, .int h0f25, .ref h14, .ref h15, .ref h16, .ref h17, .int h0f30, .int h0f31, .ref h18, .ref h19, .ref h20, .ref h21]), (h1, aI (k 0) 36 anI), (h4, aJ (k 1) 9 anJ), (h5, aJ (k 1) 9 anJ), (h15, aJ (k 1) 180 anJ), (h16, aI (k 0) 240 anI)] H := hT
  refine lv_if_ne (tgt := 11) hx hb dX11_orbit_6 (by decide) (fun c_124 => ?_) (fun c_124 => ?_)
  · skip
    have c_124 := ni_ne c_124 rfl li_0
    refine lv_aload_n hx hb dX11_orbit_11 rfl (lv_at hl 0 rfl) ?_
    refine tz_get (ci := 8) (v := .ref h15) (C := RX11) (F := TX11) (N := 36) hx hb hU iX11 hown hK hT 0 rfl rfl 27 (by decide) w812 (fun _ h9 => h9) rfl dX11_orbit_12 ?_
    refine lv_iconst (v := 0) hx hb dX11_orbit_15 (by decide) ?_
    refine lv_iload_n hx hb dX11_orbit_16 rfl (lv_at hl 1 rfl) ?_
    obtain ⟨v125, e_v125⟩ : ∃ x : Int64, x1.toInt64 = x := ⟨_, rfl⟩
    refine lv_i2l (v := v125) hx hb dX11_orbit_17 e_v125 ?_
    have e_v125 := ai_i2l e_v125 rfl
    refine tz_last hx hb hK hT hS 4 rfl (by have := li_0; omega) (fun _ _ => trivial) dX11_orbit_18 (fun H locs hT hS => ?_)
    refine lv_aload_n hx hb dX11_orbit_19 rfl (lv_at hl 0 rfl) ?_
    refine tz_get (ci := 8) (v := .ref h15) (C := RX11) (F := TX11) (N := 36) hx hb hU iX11 hown hK hT 0 rfl rfl 27 (by decide) w812 (fun _ h9 => h9) rfl dX11_orbit_20 ?_
    refine lv_iconst (v := 1) hx hb dX11_orbit_23 (by decide) ?_
    refine lv_aload_n hx hb dX11_orbit_24 rfl (lv_at hl 0 rfl) ?_
    refine tz_get (ci := 8) (v := .int h0f0) (C := RX11) (F := TX11) (N := 36) hx hb hU iX11 hown hK hT 0 rfl rfl 0 (by decide) w785 (fun _ h9 => h9) rfl dX11_orbit_25 ?_
    refine lv_iconst (v := 1) hx hb dX11_orbit_28 (by decide) ?_
    refine lv_icmp_le (tgt := 37) hx hb dX11_orbit_29 (by decide) (fun c_126 => ?_) (fun c_126 => ?_)
    · skip
      have c_126 := ni_le c_126 rfl li_1
      refine lv_lconst (v := 0) hx hb dX11_orbit_37 (by decide) ?_
      refine tz_last hx hb hK hT hS 4 rfl (by have := li_1; omega) (fun _ _ => trivial) dX11_orbit_38 (fun H locs hT hS => ?_)
      refine lv_aload_n hx hb dX11_orbit_39 rfl (lv_at hl 0 rfl) ?_
      refine tz_get (ci := 8) (v := .ref h15) (C := RX11) (F := TX11) (N := 36) hx hb hU iX11 hown hK hT 0 rfl rfl 27 (by decide) w812 (fun _ h9 => h9) rfl dX11_orbit_40 ?_
      refine lv_iconst (v := 2) hx hb dX11_orbit_43 (by decide) ?_
      refine lv_aload_n hx hb dX11_orbit_44 rfl (lv_at hl 0 rfl) ?_
      refine tz_get (ci := 8) (v := .int h0f0) (C := RX11) (F := TX11) (N := 36) hx hb hU iX11 hown hK hT 0 rfl rfl 0 (by decide) w785 (fun _ h9 => h9) rfl dX11_orbit_45 ?_
      refine lv_iconst (v := 2) hx hb dX11_orbit_48 (by decide) ?_
      refine lv_icmp_le (tgt := 57) hx hb dX11_orbit_49 (by decide) (fun c_127 => ?_) (fun c_127 => ?_)
      · skip
        have c_127 := ni_le c_127 rfl li_2
        refine lv_lconst (v := 0) hx hb dX11_orbit_57 (by decide) ?_
        refine tz_last hx hb hK hT hS 4 rfl (by have := li_2; omega) (fun _ _ => trivial) dX11_orbit_58 (fun H locs hT hS => ?_)
        refine lv_aload_n hx hb dX11_orbit_59 rfl (lv_at hl 0 rfl) ?_
        refine lv_iconst (v := 1) hx hb dX11_orbit_60 (by decide) ?_
        refine tz_put (ci := 8) (v := .int 1) (ty := .int) (C := RX11) (F := TX11) (N := 36) hx hb hU iX11 tyX11 tyX11_ok nmX11 hown hK hT hS 0 rfl rfl 30 (by decide) w815 (fun _ h9 => h9) rfl (by decide +kernel) rfl rfl (Nat.le_of_ble_eq_true rfl) dX11_orbit_61 (fun H locs hT hS => ?_)
        have hT : TP D A [(h0, ob 8 [.int h0f0, .int h0f1, .int h0f2, .int h0f3, .int h0f4, .int h0f5, .ref h1, .ref h2, .int h0f8, .int h0f9, .ref h3, .ref h4, .ref h5, .ref h6, .ref h7, .ref h8, .ref h9, .int h0f17, .int h0f18, .int h0f19, .ref h10, .ref h11, .ref h12, .ref h13, .int h0f24, .int h0f25, .ref h14, .ref h15, .ref h16, .ref h17, .int 1, .int h0f31, .ref h18, .ref h19, .ref h20, .ref h21]), (h1, aI (k 0) 36 anI), (h4, aJ (k 1) 9 anJ), (h5, aJ (k 1) 9 anJ), (h15, aJ (k 1) 180 anJ), (h16, aI (k 0) 240 anI)] H := hT
        refine lv_iconst (v := 0) hx hb dX11_orbit_64 (by decide) ?_
        refine lv_istore (lv' := [(4, .int 0), (0, .ref h0), (1, .int x1), (2, .int x2), (3, .int x3)]) hx hb dX11_orbit_65 hl (by decide) rfl (fun ls hl => ?_)
        exact lp67_23 ((60 - (0 : Int32).toInt).toNat + 1) (0) (1) _ _ _ (by have := li_0; have := li_1; omega) (by have := li_0; have := li_1; omega)  (Nat.lt_succ_self _) hT hS (lv_sub hl [1, 0] rfl)
      · skip
        have c_127 := ni_nle c_127 rfl li_2
        exfalso; omega
    · skip
      have c_126 := ni_nle c_126 rfl li_1
      refine lv_iload_n hx hb dX11_orbit_32 rfl (lv_at hl 2 rfl) ?_
      obtain ⟨v128, e_v128⟩ : ∃ x : Int64, x2.toInt64 = x := ⟨_, rfl⟩
      refine lv_i2l (v := v128) hx hb dX11_orbit_33 e_v128 ?_
      have e_v128 := ai_i2l e_v128 rfl
      refine lv_goto (tgt := 38) hx hb dX11_orbit_34 (by decide) ?_
      refine tz_last hx hb hK hT hS 4 rfl (by have := li_1; omega) (fun _ _ => trivial) dX11_orbit_38 (fun H locs hT hS => ?_)
      refine lv_aload_n hx hb dX11_orbit_39 rfl (lv_at hl 0 rfl) ?_
      refine tz_get (ci := 8) (v := .ref h15) (C := RX11) (F := TX11) (N := 36) hx hb hU iX11 hown hK hT 0 rfl rfl 27 (by decide) w812 (fun _ h9 => h9) rfl dX11_orbit_40 ?_
      refine lv_iconst (v := 2) hx hb dX11_orbit_43 (by decide) ?_
      refine lv_aload_n hx hb dX11_orbit_44 rfl (lv_at hl 0 rfl) ?_
      refine tz_get (ci := 8) (v := .int h0f0) (C := RX11) (F := TX11) (N := 36) hx hb hU iX11 hown hK hT 0 rfl rfl 0 (by decide) w785 (fun _ h9 => h9) rfl dX11_orbit_45 ?_
      refine lv_iconst (v := 2) hx hb dX11_orbit_48 (by decide) ?_
      refine lv_icmp_le (tgt := 57) hx hb dX11_orbit_49 (by decide) (fun c_129 => ?_) (fun c_129 => ?_)
      · skip
        have c_129 := ni_le c_129 rfl li_2
        refine lv_lconst (v := 0) hx hb dX11_orbit_57 (by decide) ?_
        refine tz_last hx hb hK hT hS 4 rfl (by have := li_2; omega) (fun _ _ => trivial) dX11_orbit_58 (fun H locs hT hS => ?_)
        refine lv_aload_n hx hb dX11_orbit_59 rfl (lv_at hl 0 rfl) ?_
        refine lv_iconst (v := 1) hx hb dX11_orbit_60 (by decide) ?_
        refine tz_put (ci := 8) (v := .int 1) (ty := .int) (C := RX11) (F := TX11) (N := 36) hx hb hU iX11 tyX11 tyX11_ok nmX11 hown hK hT hS 0 rfl rfl 30 (by decide) w815 (fun _ h9 => h9) rfl (by decide +kernel) rfl rfl (Nat.le_of_ble_eq_true rfl) dX11_orbit_61 (fun H locs hT hS => ?_)
        have hT : TP D A [(h0, ob 8 [.int h0f0, .int h0f1, .int h0f2, .int h0f3, .int h0f4, .int h0f5, .ref h1, .ref h2, .int h0f8, .int h0f9, .ref h3, .ref h4, .ref h5, .ref h6, .ref h7, .ref h8, .ref h9, .int h0f17, .int h0f18, .int h0f19, .ref h10, .ref h11, .ref h12, .ref h13, .int h0f24, .int h0f25, .ref h14, .ref h15, .ref h16, .ref h17, .int 1, .int h0f31, .ref h18, .ref h19, .ref h20, .ref h21]), (h1, aI (k 0) 36 anI), (h4, aJ (k 1) 9 anJ), (h5, aJ (k 1) 9 anJ), (h15, aJ (k 1) 180 anJ), (h16, aI (k 0) 240 anI)] H := hT
        refine lv_iconst (v := 0) hx hb dX11_orbit_64 (by decide) ?_
        refine lv_istore (lv' := [(4, .int 0), (0, .ref h0), (1, .int x1), (2, .int x2), (3, .int x3)]) hx hb dX11_orbit_65 hl (by decide) rfl (fun ls hl => ?_)
        exact lp67_23 ((60 - (0 : Int32).toInt).toNat + 1) (0) (1) _ _ _ (by have := li_0; have := li_1; omega) (by have := li_0; have := li_1; omega)  (Nat.lt_succ_self _) hT hS (lv_sub hl [1, 0] rfl)
      · skip
        have c_129 := ni_nle c_129 rfl li_2
        refine lv_iload_n hx hb dX11_orbit_52 rfl (lv_at hl 3 rfl) ?_
        obtain ⟨v130, e_v130⟩ : ∃ x : Int64, x3.toInt64 = x := ⟨_, rfl⟩
        refine lv_i2l (v := v130) hx hb dX11_orbit_53 e_v130 ?_
        have e_v130 := ai_i2l e_v130 rfl
        refine lv_goto (tgt := 58) hx hb dX11_orbit_54 (by decide) ?_
        refine tz_last hx hb hK hT hS 4 rfl (by have := li_2; omega) (fun _ _ => trivial) dX11_orbit_58 (fun H locs hT hS => ?_)
        refine lv_aload_n hx hb dX11_orbit_59 rfl (lv_at hl 0 rfl) ?_
        refine lv_iconst (v := 1) hx hb dX11_orbit_60 (by decide) ?_
        refine tz_put (ci := 8) (v := .int 1) (ty := .int) (C := RX11) (F := TX11) (N := 36) hx hb hU iX11 tyX11 tyX11_ok nmX11 hown hK hT hS 0 rfl rfl 30 (by decide) w815 (fun _ h9 => h9) rfl (by decide +kernel) rfl rfl (Nat.le_of_ble_eq_true rfl) dX11_orbit_61 (fun H locs hT hS => ?_)
        have hT : TP D A [(h0, ob 8 [.int h0f0, .int h0f1, .int h0f2, .int h0f3, .int h0f4, .int h0f5, .ref h1, .ref h2, .int h0f8, .int h0f9, .ref h3, .ref h4, .ref h5, .ref h6, .ref h7, .ref h8, .ref h9, .int h0f17, .int h0f18, .int h0f19, .ref h10, .ref h11, .ref h12, .ref h13, .int h0f24, .int h0f25, .ref h14, .ref h15, .ref h16, .ref h17, .int 1, .int h0f31, .ref h18, .ref h19, .ref h20, .ref h21]), (h1, aI (k 0) 36 anI), (h4, aJ (k 1) 9 anJ), (h5, aJ (k 1) 9 anJ), (h15, aJ (k 1) 180 anJ), (h16, aI (k 0) 240 anI)] H := hT
        refine lv_iconst (v := 0) hx hb dX11_orbit_64 (by decide) ?_
        refine lv_istore (lv' := [(4, .int 0), (0, .ref h0), (1, .int x1), (2, .int x2), (3, .int x3)]) hx hb dX11_orbit_65 hl (by decide) rfl (fun ls hl => ?_)
        exact lp67_23 ((60 - (0 : Int32).toInt).toNat + 1) (0) (1) _ _ _ (by have := li_0; have := li_1; omega) (by have := li_0; have := li_1; omega)  (Nat.lt_succ_self _) hT hS (lv_sub hl [1, 0] rfl)
  · skip
    have c_124 := ni_eq c_124 rfl li_0
    refine lv_iconst (v := (-1)) hx hb dX11_orbit_9 (by decide) ?_
    exact tz_retI (B := B_cX11_orbit_79666 D k h0 h1 h4 h5 h15 h16 h2 h3 h6 h7 h8 h9 h10 h11 h12 h13 h14 h17 h18 h19 h20 h21 x1 x2 x3 h0f0 h0f1 h0f2 h0f3 h0f4 h0f5 h0f8 h0f9 h0f17 h0f18 h0f19 h0f24 h0f25 h0f30 h0f31) (v := (-1)) hQ hx hb hr hlocks hS (Nat.le_of_ble_eq_true rfl) (Nat.le_of_ble_eq_true rfl) dX11_orbit_10 (⟨h0f30, h0f31, (by have := li_m1; omega), (by have := li_m1; omega), (by have := li_m1; omega), hT⟩)
abbrev Rm_cX10_point_2daab : Room := { frames := 1, cells := 0, slots := 0, locals := 21 }
abbrev B_cX10_point_2daab (D : va_G) (k : Nat → ClassId) (h0 h1 h6 h29 h2 h3 h4 h5 h7 h8 h9 h10 h11 h12 h13 h30 h31 h32 h33 h34 h35 h36 : Nat) (x1 : Int32) (x2 : Int32) (h0f2 : Int32) (h0f6 : Int32) (h0f8 : Int32) (h0f11 : Int32) (h1f0 : Int32) (h1f1 : Int32) (h1f2 : Int32) (h6f8 : Int32) (h6f9 : Int32) (h6f10 : Int32) (h6f11 : Int32) (A : Nat → Prop) (r : Int64) (H : Heap) : Prop := TP D A [(h0, ob 7 [.ref h1, .ref h2, .int h0f2, .ref h3, .ref h4, .ref h5, .int h0f6, .ref h6, .int h0f8, .null, .ref h7, .int h0f11, .ref h8, .ref h9, .ref h10, .ref h11, .ref h12]), (h1, ob 4 [.int h1f0, .int h1f1, .int h1f2, .ref h13]), (h6, ob 3 [.ref h29, .ref h30, .ref h31, .ref h32, .ref h33, .ref h34, .ref h35, .ref h36, .int h6f8, .int h6f9, .int h6f10, .int h6f11]), (h29, aJ (k 1) 180 anJ)] H
set_option maxHeartbeats 4000000 in
set_option maxRecDepth 100000 in
theorem cX10_point_2daab (l : Launch) (D : va_G) (k : Nat → ClassId) (sz : Nat) (h0 h1 h6 h29 h2 h3 h4 h5 h7 h8 h9 h10 h11 h12 h13 h30 h31 h32 h33 h34 h35 h36 : Nat) (x1 : Int32) (x2 : Int32) (h0f2 : Int32) (h0f6 : Int32) (h0f8 : Int32) (h0f11 : Int32) (h1f0 : Int32) (h1f1 : Int32) (h1f2 : Int32) (h6f8 : Int32) (h6f9 : Int32) (h6f10 : Int32) (h6f11 : Int32) (b_h0f2 : 0 ≤ h0f2.toInt ∧ h0f2.toInt ≤ 1) (b_h0f6 : 0 ≤ h0f6.toInt ∧ h0f6.toInt ≤ 1) (b_h0f8 : 0 ≤ h0f8.toInt ∧ h0f8.toInt ≤ 1) (b_h0f11 : 0 ≤ h0f11.toInt ∧ h0f11.toInt ≤ 200) (b_h1f0 : 1 ≤ h1f0.toInt ∧ h1f0.toInt ≤ 3) (b_h1f1 : 0 ≤ h1f1.toInt ∧ h1f1.toInt ≤ 4) (b_h6f8 : 0 ≤ h6f8.toInt ∧ h6f8.toInt ≤ 3) (b_h6f9 : 0 ≤ h6f9.toInt ∧ h6f9.toInt ≤ 60) (b_h6f10 : 0 ≤ h6f10.toInt ∧ h6f10.toInt ≤ 60) (b_h6f11 : 0 ≤ h6f11.toInt ∧ h6f11.toInt ≤ 1) : Met l yX10_point (Cond.code yX10_point cX10_point 3 (some .long) :: uw) Rm_cX10_point_2daab (pT D k sz [.ref h0, .int x1, .int x2] [(h0, ob 7 [.ref h1, .ref h2, .int h0f2, .ref h3, .ref h4, .ref h5, .int h0f6, .ref h6, .int h0f8, .null, .ref h7, .int h0f11, .ref h8, .ref h9, .ref h10, .ref h11, .ref h12]), (h1, ob 4 [.int h1f0, .int h1f1, .int h1f2, .ref h13]), (h6, ob 3 [.ref h29, .ref h30, .ref h31, .ref h32, .ref h33, .ref h34, .ref h35, .ref h36, .int h6f8, .int h6f9, .int h6f10, .int h6f11]), (h29, aJ (k 1) 180 anJ)]) (qL (B_cX10_point_2daab D k h0 h1 h6 h29 h2 h3 h4 h5 h7 h8 h9 h10 h11 h12 h13 h30 h31 h32 h33 h34 h35 h36 x1 x2 h0f2 h0f6 h0f8 h0f11 h1f0 h1f1 h1f2 h6f8 h6f9 h6f10 h6f11 (zA [h0, h1, h6, h29] sz)) (zA [h0, h1, h6, h29] sz)) 0 0 (zA [h0, h1, h6, h29] sz) := by
  refine tz_begin (as := [h0, h1, h6, h29]) (Qc := fun A => qL (B_cX10_point_2daab D k h0 h1 h6 h29 h2 h3 h4 h5 h7 h8 h9 h10 h11 h12 h13 h30 h31 h32 h33 h34 h35 h36 x1 x2 h0f2 h0f6 h0f8 h0f11 h1f0 h1f1 h1f2 h6f8 h6f9 h6f10 h6f11 A) A) (by decide +kernel) rfl (Nat.le_of_ble_eq_true rfl) ?_
  intro p e s m args below meth c ls A Q hx hb hr hml hown hlocks hin hU hK hT hS hA hl hQ
  have hl : lv_has ls 3 [(0, .ref h0), (1, .int x1), (2, .int x2)] := hl
  have hT : TP D A [(h0, ob 7 [.ref h1, .ref h2, .int h0f2, .ref h3, .ref h4, .ref h5, .int h0f6, .ref h6, .int h0f8, .null, .ref h7, .int h0f11, .ref h8, .ref h9, .ref h10, .ref h11, .ref h12]), (h1, ob 4 [.int h1f0, .int h1f1, .int h1f2, .ref h13]), (h6, ob 3 [.ref h29, .ref h30, .ref h31, .ref h32, .ref h33, .ref h34, .ref h35, .ref h36, .int h6f8, .int h6f9, .int h6f10, .int h6f11]), (h29, aJ (k 1) 180 anJ)] s.heap := hT
  refine lv_aload_n hx hb dX10_point_0 rfl (lv_at hl 0 rfl) ?_
  refine tz_get (ci := 7) (v := .int h0f8) (C := RX10) (F := TX10) (N := 17) hx hb hU iX10 hown hK hT 0 rfl rfl 8 (by decide) w257 (fun _ h9 => h9) rfl dX10_point_1 ?_
  refine lv_if_eq (tgt := 33) hx hb dX10_point_4 (by decide) (fun c_1 => ?_) (fun c_1 => ?_)
  · skip
    have c_1 := ni_eq c_1 rfl li_0
    refine lv_iconst (v := (-1)) hx hb dX10_point_33 (by decide) ?_
    have q_q3 := li_m1
    refine tcL (Tc := []) (Tr := [(h0, ob 7 [.ref h1, .ref h2, .int h0f2, .ref h3, .ref h4, .ref h5, .int h0f6, .ref h6, .int h0f8, .null, .ref h7, .int h0f11, .ref h8, .ref h9, .ref h10, .ref h11, .ref h12]), (h1, ob 4 [.int h1f0, .int h1f1, .int h1f2, .ref h13]), (h6, ob 3 [.ref h29, .ref h30, .ref h31, .ref h32, .ref h33, .ref h34, .ref h35, .ref h36, .int h6f8, .int h6f9, .int h6f10, .int h6f11]), (h29, aJ (k 1) 180 anJ)]) (as := []) (zcS (As := [.int (-1)]) (rest := []) (Tc := []) hx hb hml hown hU hK hT [] rfl (by decide) (cX10_asLong_5cc16 l D k _ ((-1)) (by have := li_m1; omega)) w572 w570 w571 w63 hdX10_asLong ⟨rfl, rfl⟩ ⟨Nat.le_of_ble_eq_true rfl, Nat.le_of_ble_eq_true rfl⟩ rfl hl.1 (Nat.le_of_ble_eq_true rfl) dX10_point_34 ⟨Nat.le_of_ble_eq_true rfl, Nat.le_of_ble_eq_true rfl⟩) hT hS hA [] [0, 1, 2, 3] rfl rfl rfl (by decide) (by decide) (fun r2 H locs hB J hS => ?_)
    obtain ⟨b_r2, hT1⟩ := hB
    have hT := J _ hT1
    have hT : TP D A [(h0, ob 7 [.ref h1, .ref h2, .int h0f2, .ref h3, .ref h4, .ref h5, .int h0f6, .ref h6, .int h0f8, .null, .ref h7, .int h0f11, .ref h8, .ref h9, .ref h10, .ref h11, .ref h12]), (h1, ob 4 [.int h1f0, .int h1f1, .int h1f2, .ref h13]), (h6, ob 3 [.ref h29, .ref h30, .ref h31, .ref h32, .ref h33, .ref h34, .ref h35, .ref h36, .int h6f8, .int h6f9, .int h6f10, .int h6f11]), (h29, aJ (k 1) 180 anJ)] H := hT
    exact tz_retL (B := B_cX10_point_2daab D k h0 h1 h6 h29 h2 h3 h4 h5 h7 h8 h9 h10 h11 h12 h13 h30 h31 h32 h33 h34 h35 h36 x1 x2 h0f2 h0f6 h0f8 h0f11 h1f0 h1f1 h1f2 h6f8 h6f9 h6f10 h6f11) (v := r2) hQ hx hb hr hlocks hS (Nat.le_of_ble_eq_true rfl) (Nat.le_of_ble_eq_true rfl) dX10_point_37 (hT)
  · skip
    have c_1 := ni_ne c_1 rfl li_0
    refine lv_aload_n hx hb dX10_point_7 rfl (lv_at hl 0 rfl) ?_
    refine tz_get (ci := 7) (v := .ref h6) (C := RX10) (F := TX10) (N := 17) hx hb hU iX10 hown hK hT 0 rfl rfl 7 (by decide) w256 (fun _ h9 => h9) rfl dX10_point_8 ?_
    refine lv_iload_n hx hb dX10_point_11 rfl (lv_at hl 1 rfl) ?_
    refine tcI (Tc := [(h6, ob 3 [.ref h29, .ref h30, .ref h31, .ref h32, .ref h33, .ref h34, .ref h35, .ref h36, .int h6f8, .int h6f9, .int h6f10, .int h6f11])]) (Tr := [(h0, ob 7 [.ref h1, .ref h2, .int h0f2, .ref h3, .ref h4, .ref h5, .int h0f6, .ref h6, .int h0f8, .null, .ref h7, .int h0f11, .ref h8, .ref h9, .ref h10, .ref h11, .ref h12]), (h1, ob 4 [.int h1f0, .int h1f1, .int h1f2, .ref h13]), (h29, aJ (k 1) 180 anJ)]) (as := [h6]) (zcV (q0 := 2) (ci := 3) (As := [.int x1]) (rest := []) (Tc := [(h6, ob 3 [.ref h29, .ref h30, .ref h31, .ref h32, .ref h33, .ref h34, .ref h35, .ref h36, .int h6f8, .int h6f9, .int h6f10, .int h6f11])]) hx hb hml hown hU hK hT rfl rfl [2] rfl (by decide) (cX4_has_e732f l D k _ h6 h29 h30 h31 h32 h33 h34 h35 h36 x1 h6f8 h6f9 h6f10 h6f11 (by omega) (by omega) (by omega) (by omega)) w510 w569 w508 w509 w66 hdX4_has ⟨rfl, rfl⟩ ⟨Nat.le_of_ble_eq_true rfl, Nat.le_of_ble_eq_true rfl⟩ rfl hl.1 (Nat.le_of_ble_eq_true rfl) dX10_point_12 ⟨Nat.le_of_ble_eq_true rfl, Nat.le_of_ble_eq_true rfl⟩) hT hS hA [2] [0, 1, 3] rfl rfl rfl (by decide) (by decide) (fun r4 H locs hB J hS => ?_)
    rcases hB with ⟨rfl, hT1⟩ | ⟨c_5, c_6, rfl, hT1⟩
    · skip
      have hT := J _ hT1
      have hT : TP D A [(h0, ob 7 [.ref h1, .ref h2, .int h0f2, .ref h3, .ref h4, .ref h5, .int h0f6, .ref h6, .int h0f8, .null, .ref h7, .int h0f11, .ref h8, .ref h9, .ref h10, .ref h11, .ref h12]), (h1, ob 4 [.int h1f0, .int h1f1, .int h1f2, .ref h13]), (h29, aJ (k 1) 180 anJ), (h6, ob 3 [.ref h29, .ref h30, .ref h31, .ref h32, .ref h33, .ref h34, .ref h35, .ref h36, .int h6f8, .int h6f9, .int h6f10, .int h6f11])] H := hT
      refine lv_if_eq (tgt := 33) hx hb dX10_point_15 (by decide) (fun _ => ?_) (fun cc => absurd (by decide +kernel) cc)
      refine lv_iconst (v := (-1)) hx hb dX10_point_33 (by decide) ?_
      have q_q8 := li_m1
      refine tcL (Tc := []) (Tr := [(h0, ob 7 [.ref h1, .ref h2, .int h0f2, .ref h3, .ref h4, .ref h5, .int h0f6, .ref h6, .int h0f8, .null, .ref h7, .int h0f11, .ref h8, .ref h9, .ref h10, .ref h11, .ref h12]), (h1, ob 4 [.int h1f0, .int h1f1, .int h1f2, .ref h13]), (h29, aJ (k 1) 180 anJ), (h6, ob 3 [.ref h29, .ref h30, .ref h31, .ref h32, .ref h33, .ref h34, .ref h35, .ref h36, .int h6f8, .int h6f9, .int h6f10, .int h6f11])]) (as := []) (zcS (As := [.int (-1)]) (rest := []) (Tc := []) hx hb hml hown hU hK hT [] rfl (by decide) (cX10_asLong_5cc16 l D k _ ((-1)) (by have := li_m1; omega)) w572 w570 w571 w63 hdX10_asLong ⟨rfl, rfl⟩ ⟨Nat.le_of_ble_eq_true rfl, Nat.le_of_ble_eq_true rfl⟩ rfl hl.1 (Nat.le_of_ble_eq_true rfl) dX10_point_34 ⟨Nat.le_of_ble_eq_true rfl, Nat.le_of_ble_eq_true rfl⟩) hT hS hA [] [0, 1, 2, 3] rfl rfl rfl (by decide) (by decide) (fun r7 H locs hB J hS => ?_)
      obtain ⟨b_r7, hT1⟩ := hB
      have hT := J _ hT1
      have hT : TP D A [(h0, ob 7 [.ref h1, .ref h2, .int h0f2, .ref h3, .ref h4, .ref h5, .int h0f6, .ref h6, .int h0f8, .null, .ref h7, .int h0f11, .ref h8, .ref h9, .ref h10, .ref h11, .ref h12]), (h1, ob 4 [.int h1f0, .int h1f1, .int h1f2, .ref h13]), (h29, aJ (k 1) 180 anJ), (h6, ob 3 [.ref h29, .ref h30, .ref h31, .ref h32, .ref h33, .ref h34, .ref h35, .ref h36, .int h6f8, .int h6f9, .int h6f10, .int h6f11])] H := hT
      exact tz_retL (B := B_cX10_point_2daab D k h0 h1 h6 h29 h2 h3 h4 h5 h7 h8 h9 h10 h11 h12 h13 h30 h31 h32 h33 h34 h35 h36 x1 x2 h0f2 h0f6 h0f8 h0f11 h1f0 h1f1 h1f2 h6f8 h6f9 h6f10 h6f11) (v := r7) hQ hx hb hr hlocks hS (Nat.le_of_ble_eq_true rfl) (Nat.le_of_ble_eq_true rfl) dX10_point_37 ((hT.sub [0, 1, 3, 2] (by decide) rfl))
    · skip
      have hT := J _ hT1
      have hT : TP D A [(h0, ob 7 [.ref h1, .ref h2, .int h0f2, .ref h3, .ref h4, .ref h5, .int h0f6, .ref h6, .int h0f8, .null, .ref h7, .int h0f11, .ref h8, .ref h9, .ref h10, .ref h11, .ref h12]), (h1, ob 4 [.int h1f0, .int h1f1, .int h1f2, .ref h13]), (h29, aJ (k 1) 180 anJ), (h6, ob 3 [.ref h29, .ref h30, .ref h31, .ref h32, .ref h33, .ref h34, .ref h35, .ref h36, .int h6f8, .int h6f9, .int h6f10, .int h6f11])] H := hT
      refine lv_if_eq (tgt := 33) hx hb dX10_point_15 (by decide) (fun cc => absurd cc (by decide +kernel)) (fun _ => ?_)
      refine lv_iload_n hx hb dX10_point_18 rfl (lv_at hl 2 rfl) ?_
      refine lv_if_lt (tgt := 33) hx hb dX10_point_19 (by decide) (fun c_9 => ?_) (fun c_9 => ?_)
      · skip
        have c_9 := ni_lt c_9 rfl li_0
        refine lv_iconst (v := (-1)) hx hb dX10_point_33 (by decide) ?_
        have q_q11 := li_m1
        refine tcL (Tc := []) (Tr := [(h0, ob 7 [.ref h1, .ref h2, .int h0f2, .ref h3, .ref h4, .ref h5, .int h0f6, .ref h6, .int h0f8, .null, .ref h7, .int h0f11, .ref h8, .ref h9, .ref h10, .ref h11, .ref h12]), (h1, ob 4 [.int h1f0, .int h1f1, .int h1f2, .ref h13]), (h29, aJ (k 1) 180 anJ), (h6, ob 3 [.ref h29, .ref h30, .ref h31, .ref h32, .ref h33, .ref h34, .ref h35, .ref h36, .int h6f8, .int h6f9, .int h6f10, .int h6f11])]) (as := []) (zcS (As := [.int (-1)]) (rest := []) (Tc := []) hx hb hml hown hU hK hT [] rfl (by decide) (cX10_asLong_5cc16 l D k _ ((-1)) (by have := li_m1; omega)) w572 w570 w571 w63 hdX10_asLong ⟨rfl, rfl⟩ ⟨Nat.le_of_ble_eq_true rfl, Nat.le_of_ble_eq_true rfl⟩ rfl hl.1 (Nat.le_of_ble_eq_true rfl) dX10_point_34 ⟨Nat.le_of_ble_eq_true rfl, Nat.le_of_ble_eq_true rfl⟩) hT hS hA [] [0, 1, 2, 3] rfl rfl rfl (by decide) (by decide) (fun r10 H locs hB J hS => ?_)
        obtain ⟨b_r10, hT1⟩ := hB
        have hT := J _ hT1
        have hT : TP D A [(h0, ob 7 [.ref h1, .ref h2, .int h0f2, .ref h3, .ref h4, .ref h5, .int h0f6, .ref h6, .int h0f8, .null, .ref h7, .int h0f11, .ref h8, .ref h9, .ref h10, .ref h11, .ref h12]), (h1, ob 4 [.int h1f0, .int h1f1, .int h1f2, .ref h13]), (h29, aJ (k 1) 180 anJ), (h6, ob 3 [.ref h29, .ref h30, .ref h31, .ref h32, .ref h33, .ref h34, .ref h35, .ref h36, .int h6f8, .int h6f9, .int h6f10, .int h6f11])] H := hT
        exact tz_retL (B := B_cX10_point_2daab D k h0 h1 h6 h29 h2 h3 h4 h5 h7 h8 h9 h10 h11 h12 h13 h30 h31 h32 h33 h34 h35 h36 x1 x2 h0f2 h0f6 h0f8 h0f11 h1f0 h1f1 h1f2 h6f8 h6f9 h6f10 h6f11) (v := r10) hQ hx hb hr hlocks hS (Nat.le_of_ble_eq_true rfl) (Nat.le_of_ble_eq_true rfl) dX10_point_37 ((hT.sub [0, 1, 3, 2] (by decide) rfl))
      · skip
        have c_9 := ni_nlt c_9 rfl li_0
        refine lv_iload_n hx hb dX10_point_22 rfl (lv_at hl 2 rfl) ?_
        refine lv_aload_n hx hb dX10_point_23 rfl (lv_at hl 0 rfl) ?_
        refine tz_get (ci := 7) (v := .ref h1) (C := RX10) (F := TX10) (N := 17) hx hb hU iX10 hown hK hT 0 rfl rfl 0 (by decide) w249 (fun _ h9 => h9) rfl dX10_point_24 ?_
        refine tz_get (ci := 4) (v := .int h1f0) (C := RX5) (F := TX5) (N := 4) hx hb hU iX5 hown hK hT 1 rfl rfl 0 (by decide) w93 (fun _ h9 => h9) rfl dX10_point_27 ?_
        refine lv_icmp_lt (tgt := 38) hx hb dX10_point_30 (by decide) (fun c_12 => ?_) (fun c_12 => ?_)
        · skip
          have c_12 := ni_lt c_12 rfl rfl
          refine lv_aload_n hx hb dX10_point_38 rfl (lv_at hl 0 rfl) ?_
          refine tz_get (ci := 7) (v := .ref h6) (C := RX10) (F := TX10) (N := 17) hx hb hU iX10 hown hK hT 0 rfl rfl 7 (by decide) w256 (fun _ h9 => h9) rfl dX10_point_39 ?_
          refine tz_get (ci := 3) (v := .ref h29) (C := RX4) (F := TX4) (N := 12) hx hb hU iX4 hown hK hT 3 rfl rfl 0 (by decide) w150 (fun _ h9 => h9) rfl dX10_point_42 ?_
          refine lv_aload_n hx hb dX10_point_45 rfl (lv_at hl 0 rfl) ?_
          refine tz_get (ci := 7) (v := .ref h6) (C := RX10) (F := TX10) (N := 17) hx hb hU iX10 hown hK hT 0 rfl rfl 7 (by decide) w256 (fun _ h9 => h9) rfl dX10_point_46 ?_
          refine lv_iload_n hx hb dX10_point_49 rfl (lv_at hl 1 rfl) ?_
          refine tcI (Tc := [(h6, ob 3 [.ref h29, .ref h30, .ref h31, .ref h32, .ref h33, .ref h34, .ref h35, .ref h36, .int h6f8, .int h6f9, .int h6f10, .int h6f11])]) (Tr := [(h0, ob 7 [.ref h1, .ref h2, .int h0f2, .ref h3, .ref h4, .ref h5, .int h0f6, .ref h6, .int h0f8, .null, .ref h7, .int h0f11, .ref h8, .ref h9, .ref h10, .ref h11, .ref h12]), (h1, ob 4 [.int h1f0, .int h1f1, .int h1f2, .ref h13]), (h29, aJ (k 1) 180 anJ)]) (as := [h6]) (zcV (q0 := 3) (ci := 3) (As := [.int x1]) (rest := [.ref h29]) (Tc := [(h6, ob 3 [.ref h29, .ref h30, .ref h31, .ref h32, .ref h33, .ref h34, .ref h35, .ref h36, .int h6f8, .int h6f9, .int h6f10, .int h6f11])]) hx hb hml hown hU hK hT rfl rfl [3] rfl (by decide) (cX4_start_cf782 l D k _ h6 h29 h30 h31 h32 h33 h34 h35 h36 x1 h6f8 h6f9 h6f10 h6f11 (by omega) (by omega) (by omega) (by omega) (by omega)) w505 w574 w503 w504 w66 hdX4_start ⟨rfl, rfl⟩ ⟨Nat.le_of_ble_eq_true rfl, Nat.le_of_ble_eq_true rfl⟩ rfl hl.1 (Nat.le_of_ble_eq_true rfl) dX10_point_50 ⟨Nat.le_of_ble_eq_true rfl, Nat.le_of_ble_eq_true rfl⟩) hT hS hA [3] [0, 1, 2] rfl rfl rfl (by decide) (by decide) (fun r13 H locs hB J hS => ?_)
          obtain ⟨b_r13, hT1⟩ := hB
          have hT := J _ hT1
          have hT : TP D A [(h0, ob 7 [.ref h1, .ref h2, .int h0f2, .ref h3, .ref h4, .ref h5, .int h0f6, .ref h6, .int h0f8, .null, .ref h7, .int h0f11, .ref h8, .ref h9, .ref h10, .ref h11, .ref h12]), (h1, ob 4 [.int h1f0, .int h1f1, .int h1f2, .ref h13]), (h29, aJ (k 1) 180 anJ), (h6, ob 3 [.ref h29, .ref h30, .ref h31, .ref h32, .ref h33, .ref h34, .ref h35, .ref h36, .int h6f8, .int h6f9, .int h6f10, .int h6f11])] H := hT
          refine lv_iload_n hx hb dX10_point_53 rfl (lv_at hl 2 rfl) ?_
          refine lv_iadd hx hb dX10_point_54 (lv_topi (fun v14 e_v14 => ?_))
          have e_v14 := ai_add e_v14 rfl rfl (by omega)
          refine tz_lald hx hb hK hT 2 rfl (by omega) dX10_point_55 (fun v15 e_v15 => ?_)
          clear e_v15
          exact tz_retL (B := B_cX10_point_2daab D k h0 h1 h6 h29 h2 h3 h4 h5 h7 h8 h9 h10 h11 h12 h13 h30 h31 h32 h33 h34 h35 h36 x1 x2 h0f2 h0f6 h0f8 h0f11 h1f0 h1f1 h1f2 h6f8 h6f9 h6f10 h6f11) (v := v15) hQ hx hb hr hlocks hS (Nat.le_of_ble_eq_true rfl) (Nat.le_of_ble_eq_true rfl) dX10_point_56 ((hT.sub [0, 1, 3, 2] (by decide) rfl))
        · skip
          have c_12 := ni_nlt c_12 rfl rfl
          refine lv_iconst (v := (-1)) hx hb dX10_point_33 (by decide) ?_
          have q_q17 := li_m1
          refine tcL (Tc := []) (Tr := [(h0, ob 7 [.ref h1, .ref h2, .int h0f2, .ref h3, .ref h4, .ref h5, .int h0f6, .ref h6, .int h0f8, .null, .ref h7, .int h0f11, .ref h8, .ref h9, .ref h10, .ref h11, .ref h12]), (h1, ob 4 [.int h1f0, .int h1f1, .int h1f2, .ref h13]), (h29, aJ (k 1) 180 anJ), (h6, ob 3 [.ref h29, .ref h30, .ref h31, .ref h32, .ref h33, .ref h34, .ref h35, .ref h36, .int h6f8, .int h6f9, .int h6f10, .int h6f11])]) (as := []) (zcS (As := [.int (-1)]) (rest := []) (Tc := []) hx hb hml hown hU hK hT [] rfl (by decide) (cX10_asLong_5cc16 l D k _ ((-1)) (by have := li_m1; omega)) w572 w570 w571 w63 hdX10_asLong ⟨rfl, rfl⟩ ⟨Nat.le_of_ble_eq_true rfl, Nat.le_of_ble_eq_true rfl⟩ rfl hl.1 (Nat.le_of_ble_eq_true rfl) dX10_point_34 ⟨Nat.le_of_ble_eq_true rfl, Nat.le_of_ble_eq_true rfl⟩) hT hS hA [] [0, 1, 2, 3] rfl rfl rfl (by decide) (by decide) (fun r16 H locs hB J hS => ?_)
          obtain ⟨b_r16, hT1⟩ := hB
          have hT := J _ hT1
          have hT : TP D A [(h0, ob 7 [.ref h1, .ref h2, .int h0f2, .ref h3, .ref h4, .ref h5, .int h0f6, .ref h6, .int h0f8, .null, .ref h7, .int h0f11, .ref h8, .ref h9, .ref h10, .ref h11, .ref h12]), (h1, ob 4 [.int h1f0, .int h1f1, .int h1f2, .ref h13]), (h29, aJ (k 1) 180 anJ), (h6, ob 3 [.ref h29, .ref h30, .ref h31, .ref h32, .ref h33, .ref h34, .ref h35, .ref h36, .int h6f8, .int h6f9, .int h6f10, .int h6f11])] H := hT
          exact tz_retL (B := B_cX10_point_2daab D k h0 h1 h6 h29 h2 h3 h4 h5 h7 h8 h9 h10 h11 h12 h13 h30 h31 h32 h33 h34 h35 h36 x1 x2 h0f2 h0f6 h0f8 h0f11 h1f0 h1f1 h1f2 h6f8 h6f9 h6f10 h6f11) (v := r16) hQ hx hb hr hlocks hS (Nat.le_of_ble_eq_true rfl) (Nat.le_of_ble_eq_true rfl) dX10_point_37 ((hT.sub [0, 1, 3, 2] (by decide) rfl))
abbrev Rm_cX10_point_c5f44 : Room := { frames := 1, cells := 0, slots := 0, locals := 21 }
abbrev B_cX10_point_c5f44 (D : va_G) (k : Nat → ClassId) (h0 h1 h6 h30 h2 h3 h4 h5 h7 h8 h9 h10 h11 h12 h13 h14 h31 h32 h33 h34 h35 h36 h37 : Nat) (x1 : Int32) (x2 : Int32) (h0f2 : Int32) (h0f6 : Int32) (h0f8 : Int32) (h0f11 : Int32) (h1f0 : Int32) (h1f1 : Int32) (h1f2 : Int32) (h6f8 : Int32) (h6f9 : Int32) (h6f10 : Int32) (h6f11 : Int32) (A : Nat → Prop) (r : Int64) (H : Heap) : Prop := TP D A [(h0, ob 7 [.ref h1, .ref h2, .int h0f2, .ref h3, .ref h4, .ref h5, .int h0f6, .ref h6, .int h0f8, .ref h7, .ref h8, .int h0f11, .ref h9, .ref h10, .ref h11, .ref h12, .ref h13]), (h1, ob 4 [.int h1f0, .int h1f1, .int h1f2, .ref h14]), (h6, ob 3 [.ref h30, .ref h31, .ref h32, .ref h33, .ref h34, .ref h35, .ref h36, .ref h37, .int h6f8, .int h6f9, .int h6f10, .int h6f11]), (h30, aJ (k 1) 180 anJ)] H
set_option maxHeartbeats 4000000 in
set_option maxRecDepth 100000 in
theorem cX10_point_c5f44 (l : Launch) (D : va_G) (k : Nat → ClassId) (sz : Nat) (h0 h1 h6 h30 h2 h3 h4 h5 h7 h8 h9 h10 h11 h12 h13 h14 h31 h32 h33 h34 h35 h36 h37 : Nat) (x1 : Int32) (x2 : Int32) (h0f2 : Int32) (h0f6 : Int32) (h0f8 : Int32) (h0f11 : Int32) (h1f0 : Int32) (h1f1 : Int32) (h1f2 : Int32) (h6f8 : Int32) (h6f9 : Int32) (h6f10 : Int32) (h6f11 : Int32) (b_h0f2 : 0 ≤ h0f2.toInt ∧ h0f2.toInt ≤ 1) (b_h0f6 : 0 ≤ h0f6.toInt ∧ h0f6.toInt ≤ 1) (b_h0f8 : 0 ≤ h0f8.toInt ∧ h0f8.toInt ≤ 1) (b_h0f11 : 0 ≤ h0f11.toInt ∧ h0f11.toInt ≤ 200) (b_h1f0 : 1 ≤ h1f0.toInt ∧ h1f0.toInt ≤ 3) (b_h1f1 : 0 ≤ h1f1.toInt ∧ h1f1.toInt ≤ 4) (b_h6f8 : 0 ≤ h6f8.toInt ∧ h6f8.toInt ≤ 3) (b_h6f9 : 0 ≤ h6f9.toInt ∧ h6f9.toInt ≤ 60) (b_h6f10 : 0 ≤ h6f10.toInt ∧ h6f10.toInt ≤ 60) (b_h6f11 : 0 ≤ h6f11.toInt ∧ h6f11.toInt ≤ 1) : Met l yX10_point (Cond.code yX10_point cX10_point 3 (some .long) :: uw) Rm_cX10_point_c5f44 (pT D k sz [.ref h0, .int x1, .int x2] [(h0, ob 7 [.ref h1, .ref h2, .int h0f2, .ref h3, .ref h4, .ref h5, .int h0f6, .ref h6, .int h0f8, .ref h7, .ref h8, .int h0f11, .ref h9, .ref h10, .ref h11, .ref h12, .ref h13]), (h1, ob 4 [.int h1f0, .int h1f1, .int h1f2, .ref h14]), (h6, ob 3 [.ref h30, .ref h31, .ref h32, .ref h33, .ref h34, .ref h35, .ref h36, .ref h37, .int h6f8, .int h6f9, .int h6f10, .int h6f11]), (h30, aJ (k 1) 180 anJ)]) (qL (B_cX10_point_c5f44 D k h0 h1 h6 h30 h2 h3 h4 h5 h7 h8 h9 h10 h11 h12 h13 h14 h31 h32 h33 h34 h35 h36 h37 x1 x2 h0f2 h0f6 h0f8 h0f11 h1f0 h1f1 h1f2 h6f8 h6f9 h6f10 h6f11 (zA [h0, h1, h6, h30] sz)) (zA [h0, h1, h6, h30] sz)) 0 0 (zA [h0, h1, h6, h30] sz) := by
  refine tz_begin (as := [h0, h1, h6, h30]) (Qc := fun A => qL (B_cX10_point_c5f44 D k h0 h1 h6 h30 h2 h3 h4 h5 h7 h8 h9 h10 h11 h12 h13 h14 h31 h32 h33 h34 h35 h36 h37 x1 x2 h0f2 h0f6 h0f8 h0f11 h1f0 h1f1 h1f2 h6f8 h6f9 h6f10 h6f11 A) A) (by decide +kernel) rfl (Nat.le_of_ble_eq_true rfl) ?_
  intro p e s m args below meth c ls A Q hx hb hr hml hown hlocks hin hU hK hT hS hA hl hQ
  have hl : lv_has ls 3 [(0, .ref h0), (1, .int x1), (2, .int x2)] := hl
  have hT : TP D A [(h0, ob 7 [.ref h1, .ref h2, .int h0f2, .ref h3, .ref h4, .ref h5, .int h0f6, .ref h6, .int h0f8, .ref h7, .ref h8, .int h0f11, .ref h9, .ref h10, .ref h11, .ref h12, .ref h13]), (h1, ob 4 [.int h1f0, .int h1f1, .int h1f2, .ref h14]), (h6, ob 3 [.ref h30, .ref h31, .ref h32, .ref h33, .ref h34, .ref h35, .ref h36, .ref h37, .int h6f8, .int h6f9, .int h6f10, .int h6f11]), (h30, aJ (k 1) 180 anJ)] s.heap := hT
  refine lv_aload_n hx hb dX10_point_0 rfl (lv_at hl 0 rfl) ?_
  refine tz_get (ci := 7) (v := .int h0f8) (C := RX10) (F := TX10) (N := 17) hx hb hU iX10 hown hK hT 0 rfl rfl 8 (by decide) w257 (fun _ h9 => h9) rfl dX10_point_1 ?_
  refine lv_if_eq (tgt := 33) hx hb dX10_point_4 (by decide) (fun c_1 => ?_) (fun c_1 => ?_)
  · skip
    have c_1 := ni_eq c_1 rfl li_0
    refine lv_iconst (v := (-1)) hx hb dX10_point_33 (by decide) ?_
    have q_q3 := li_m1
    refine tcL (Tc := []) (Tr := [(h0, ob 7 [.ref h1, .ref h2, .int h0f2, .ref h3, .ref h4, .ref h5, .int h0f6, .ref h6, .int h0f8, .ref h7, .ref h8, .int h0f11, .ref h9, .ref h10, .ref h11, .ref h12, .ref h13]), (h1, ob 4 [.int h1f0, .int h1f1, .int h1f2, .ref h14]), (h6, ob 3 [.ref h30, .ref h31, .ref h32, .ref h33, .ref h34, .ref h35, .ref h36, .ref h37, .int h6f8, .int h6f9, .int h6f10, .int h6f11]), (h30, aJ (k 1) 180 anJ)]) (as := []) (zcS (As := [.int (-1)]) (rest := []) (Tc := []) hx hb hml hown hU hK hT [] rfl (by decide) (cX10_asLong_5cc16 l D k _ ((-1)) (by have := li_m1; omega)) w572 w570 w571 w63 hdX10_asLong ⟨rfl, rfl⟩ ⟨Nat.le_of_ble_eq_true rfl, Nat.le_of_ble_eq_true rfl⟩ rfl hl.1 (Nat.le_of_ble_eq_true rfl) dX10_point_34 ⟨Nat.le_of_ble_eq_true rfl, Nat.le_of_ble_eq_true rfl⟩) hT hS hA [] [0, 1, 2, 3] rfl rfl rfl (by decide) (by decide) (fun r2 H locs hB J hS => ?_)
    obtain ⟨b_r2, hT1⟩ := hB
    have hT := J _ hT1
    have hT : TP D A [(h0, ob 7 [.ref h1, .ref h2, .int h0f2, .ref h3, .ref h4, .ref h5, .int h0f6, .ref h6, .int h0f8, .ref h7, .ref h8, .int h0f11, .ref h9, .ref h10, .ref h11, .ref h12, .ref h13]), (h1, ob 4 [.int h1f0, .int h1f1, .int h1f2, .ref h14]), (h6, ob 3 [.ref h30, .ref h31, .ref h32, .ref h33, .ref h34, .ref h35, .ref h36, .ref h37, .int h6f8, .int h6f9, .int h6f10, .int h6f11]), (h30, aJ (k 1) 180 anJ)] H := hT
    exact tz_retL (B := B_cX10_point_c5f44 D k h0 h1 h6 h30 h2 h3 h4 h5 h7 h8 h9 h10 h11 h12 h13 h14 h31 h32 h33 h34 h35 h36 h37 x1 x2 h0f2 h0f6 h0f8 h0f11 h1f0 h1f1 h1f2 h6f8 h6f9 h6f10 h6f11) (v := r2) hQ hx hb hr hlocks hS (Nat.le_of_ble_eq_true rfl) (Nat.le_of_ble_eq_true rfl) dX10_point_37 (hT)
  · skip
    have c_1 := ni_ne c_1 rfl li_0
    refine lv_aload_n hx hb dX10_point_7 rfl (lv_at hl 0 rfl) ?_
    refine tz_get (ci := 7) (v := .ref h6) (C := RX10) (F := TX10) (N := 17) hx hb hU iX10 hown hK hT 0 rfl rfl 7 (by decide) w256 (fun _ h9 => h9) rfl dX10_point_8 ?_
    refine lv_iload_n hx hb dX10_point_11 rfl (lv_at hl 1 rfl) ?_
    refine tcI (Tc := [(h6, ob 3 [.ref h30, .ref h31, .ref h32, .ref h33, .ref h34, .ref h35, .ref h36, .ref h37, .int h6f8, .int h6f9, .int h6f10, .int h6f11])]) (Tr := [(h0, ob 7 [.ref h1, .ref h2, .int h0f2, .ref h3, .ref h4, .ref h5, .int h0f6, .ref h6, .int h0f8, .ref h7, .ref h8, .int h0f11, .ref h9, .ref h10, .ref h11, .ref h12, .ref h13]), (h1, ob 4 [.int h1f0, .int h1f1, .int h1f2, .ref h14]), (h30, aJ (k 1) 180 anJ)]) (as := [h6]) (zcV (q0 := 2) (ci := 3) (As := [.int x1]) (rest := []) (Tc := [(h6, ob 3 [.ref h30, .ref h31, .ref h32, .ref h33, .ref h34, .ref h35, .ref h36, .ref h37, .int h6f8, .int h6f9, .int h6f10, .int h6f11])]) hx hb hml hown hU hK hT rfl rfl [2] rfl (by decide) (cX4_has_e732f l D k _ h6 h30 h31 h32 h33 h34 h35 h36 h37 x1 h6f8 h6f9 h6f10 h6f11 (by omega) (by omega) (by omega) (by omega)) w510 w569 w508 w509 w66 hdX4_has ⟨rfl, rfl⟩ ⟨Nat.le_of_ble_eq_true rfl, Nat.le_of_ble_eq_true rfl⟩ rfl hl.1 (Nat.le_of_ble_eq_true rfl) dX10_point_12 ⟨Nat.le_of_ble_eq_true rfl, Nat.le_of_ble_eq_true rfl⟩) hT hS hA [2] [0, 1, 3] rfl rfl rfl (by decide) (by decide) (fun r4 H locs hB J hS => ?_)
    rcases hB with ⟨rfl, hT1⟩ | ⟨c_5, c_6, rfl, hT1⟩
    · skip
      have hT := J _ hT1
      have hT : TP D A [(h0, ob 7 [.ref h1, .ref h2, .int h0f2, .ref h3, .ref h4, .ref h5, .int h0f6, .ref h6, .int h0f8, .ref h7, .ref h8, .int h0f11, .ref h9, .ref h10, .ref h11, .ref h12, .ref h13]), (h1, ob 4 [.int h1f0, .int h1f1, .int h1f2, .ref h14]), (h30, aJ (k 1) 180 anJ), (h6, ob 3 [.ref h30, .ref h31, .ref h32, .ref h33, .ref h34, .ref h35, .ref h36, .ref h37, .int h6f8, .int h6f9, .int h6f10, .int h6f11])] H := hT
      refine lv_if_eq (tgt := 33) hx hb dX10_point_15 (by decide) (fun _ => ?_) (fun cc => absurd (by decide +kernel) cc)
      refine lv_iconst (v := (-1)) hx hb dX10_point_33 (by decide) ?_
      have q_q8 := li_m1
      refine tcL (Tc := []) (Tr := [(h0, ob 7 [.ref h1, .ref h2, .int h0f2, .ref h3, .ref h4, .ref h5, .int h0f6, .ref h6, .int h0f8, .ref h7, .ref h8, .int h0f11, .ref h9, .ref h10, .ref h11, .ref h12, .ref h13]), (h1, ob 4 [.int h1f0, .int h1f1, .int h1f2, .ref h14]), (h30, aJ (k 1) 180 anJ), (h6, ob 3 [.ref h30, .ref h31, .ref h32, .ref h33, .ref h34, .ref h35, .ref h36, .ref h37, .int h6f8, .int h6f9, .int h6f10, .int h6f11])]) (as := []) (zcS (As := [.int (-1)]) (rest := []) (Tc := []) hx hb hml hown hU hK hT [] rfl (by decide) (cX10_asLong_5cc16 l D k _ ((-1)) (by have := li_m1; omega)) w572 w570 w571 w63 hdX10_asLong ⟨rfl, rfl⟩ ⟨Nat.le_of_ble_eq_true rfl, Nat.le_of_ble_eq_true rfl⟩ rfl hl.1 (Nat.le_of_ble_eq_true rfl) dX10_point_34 ⟨Nat.le_of_ble_eq_true rfl, Nat.le_of_ble_eq_true rfl⟩) hT hS hA [] [0, 1, 2, 3] rfl rfl rfl (by decide) (by decide) (fun r7 H locs hB J hS => ?_)
      obtain ⟨b_r7, hT1⟩ := hB
      have hT := J _ hT1
      have hT : TP D A [(h0, ob 7 [.ref h1, .ref h2, .int h0f2, .ref h3, .ref h4, .ref h5, .int h0f6, .ref h6, .int h0f8, .ref h7, .ref h8, .int h0f11, .ref h9, .ref h10, .ref h11, .ref h12, .ref h13]), (h1, ob 4 [.int h1f0, .int h1f1, .int h1f2, .ref h14]), (h30, aJ (k 1) 180 anJ), (h6, ob 3 [.ref h30, .ref h31, .ref h32, .ref h33, .ref h34, .ref h35, .ref h36, .ref h37, .int h6f8, .int h6f9, .int h6f10, .int h6f11])] H := hT
      exact tz_retL (B := B_cX10_point_c5f44 D k h0 h1 h6 h30 h2 h3 h4 h5 h7 h8 h9 h10 h11 h12 h13 h14 h31 h32 h33 h34 h35 h36 h37 x1 x2 h0f2 h0f6 h0f8 h0f11 h1f0 h1f1 h1f2 h6f8 h6f9 h6f10 h6f11) (v := r7) hQ hx hb hr hlocks hS (Nat.le_of_ble_eq_true rfl) (Nat.le_of_ble_eq_true rfl) dX10_point_37 ((hT.sub [0, 1, 3, 2] (by decide) rfl))
    · skip
      have hT := J _ hT1
      have hT : TP D A [(h0, ob 7 [.ref h1, .ref h2, .int h0f2, .ref h3, .ref h4, .ref h5, .int h0f6, .ref h6, .int h0f8, .ref h7, .ref h8, .int h0f11, .ref h9, .ref h10, .ref h11, .ref h12, .ref h13]), (h1, ob 4 [.int h1f0, .int h1f1, .int h1f2, .ref h14]), (h30, aJ (k 1) 180 anJ), (h6, ob 3 [.ref h30, .ref h31, .ref h32, .ref h33, .ref h34, .ref h35, .ref h36, .ref h37, .int h6f8, .int h6f9, .int h6f10, .int h6f11])] H := hT
      refine lv_if_eq (tgt := 33) hx hb dX10_point_15 (by decide) (fun cc => absurd cc (by decide +kernel)) (fun _ => ?_)
      refine lv_iload_n hx hb dX10_point_18 rfl (lv_at hl 2 rfl) ?_
      refine lv_if_lt (tgt := 33) hx hb dX10_point_19 (by decide) (fun c_9 => ?_) (fun c_9 => ?_)
      · skip
        have c_9 := ni_lt c_9 rfl li_0
        refine lv_iconst (v := (-1)) hx hb dX10_point_33 (by decide) ?_
        have q_q11 := li_m1
        refine tcL (Tc := []) (Tr := [(h0, ob 7 [.ref h1, .ref h2, .int h0f2, .ref h3, .ref h4, .ref h5, .int h0f6, .ref h6, .int h0f8, .ref h7, .ref h8, .int h0f11, .ref h9, .ref h10, .ref h11, .ref h12, .ref h13]), (h1, ob 4 [.int h1f0, .int h1f1, .int h1f2, .ref h14]), (h30, aJ (k 1) 180 anJ), (h6, ob 3 [.ref h30, .ref h31, .ref h32, .ref h33, .ref h34, .ref h35, .ref h36, .ref h37, .int h6f8, .int h6f9, .int h6f10, .int h6f11])]) (as := []) (zcS (As := [.int (-1)]) (rest := []) (Tc := []) hx hb hml hown hU hK hT [] rfl (by decide) (cX10_asLong_5cc16 l D k _ ((-1)) (by have := li_m1; omega)) w572 w570 w571 w63 hdX10_asLong ⟨rfl, rfl⟩ ⟨Nat.le_of_ble_eq_true rfl, Nat.le_of_ble_eq_true rfl⟩ rfl hl.1 (Nat.le_of_ble_eq_true rfl) dX10_point_34 ⟨Nat.le_of_ble_eq_true rfl, Nat.le_of_ble_eq_true rfl⟩) hT hS hA [] [0, 1, 2, 3] rfl rfl rfl (by decide) (by decide) (fun r10 H locs hB J hS => ?_)
        obtain ⟨b_r10, hT1⟩ := hB
        have hT := J _ hT1
        have hT : TP D A [(h0, ob 7 [.ref h1, .ref h2, .int h0f2, .ref h3, .ref h4, .ref h5, .int h0f6, .ref h6, .int h0f8, .ref h7, .ref h8, .int h0f11, .ref h9, .ref h10, .ref h11, .ref h12, .ref h13]), (h1, ob 4 [.int h1f0, .int h1f1, .int h1f2, .ref h14]), (h30, aJ (k 1) 180 anJ), (h6, ob 3 [.ref h30, .ref h31, .ref h32, .ref h33, .ref h34, .ref h35, .ref h36, .ref h37, .int h6f8, .int h6f9, .int h6f10, .int h6f11])] H := hT
        exact tz_retL (B := B_cX10_point_c5f44 D k h0 h1 h6 h30 h2 h3 h4 h5 h7 h8 h9 h10 h11 h12 h13 h14 h31 h32 h33 h34 h35 h36 h37 x1 x2 h0f2 h0f6 h0f8 h0f11 h1f0 h1f1 h1f2 h6f8 h6f9 h6f10 h6f11) (v := r10) hQ hx hb hr hlocks hS (Nat.le_of_ble_eq_true rfl) (Nat.le_of_ble_eq_true rfl) dX10_point_37 ((hT.sub [0, 1, 3, 2] (by decide) rfl))
      · skip
        have c_9 := ni_nlt c_9 rfl li_0
        refine lv_iload_n hx hb dX10_point_22 rfl (lv_at hl 2 rfl) ?_
        refine lv_aload_n hx hb dX10_point_23 rfl (lv_at hl 0 rfl) ?_
        refine tz_get (ci := 7) (v := .ref h1) (C := RX10) (F := TX10) (N := 17) hx hb hU iX10 hown hK hT 0 rfl rfl 0 (by decide) w249 (fun _ h9 => h9) rfl dX10_point_24 ?_
        refine tz_get (ci := 4) (v := .int h1f0) (C := RX5) (F := TX5) (N := 4) hx hb hU iX5 hown hK hT 1 rfl rfl 0 (by decide) w93 (fun _ h9 => h9) rfl dX10_point_27 ?_
        refine lv_icmp_lt (tgt := 38) hx hb dX10_point_30 (by decide) (fun c_12 => ?_) (fun c_12 => ?_)
        · skip
          have c_12 := ni_lt c_12 rfl rfl
          refine lv_aload_n hx hb dX10_point_38 rfl (lv_at hl 0 rfl) ?_
          refine tz_get (ci := 7) (v := .ref h6) (C := RX10) (F := TX10) (N := 17) hx hb hU iX10 hown hK hT 0 rfl rfl 7 (by decide) w256 (fun _ h9 => h9) rfl dX10_point_39 ?_
          refine tz_get (ci := 3) (v := .ref h30) (C := RX4) (F := TX4) (N := 12) hx hb hU iX4 hown hK hT 3 rfl rfl 0 (by decide) w150 (fun _ h9 => h9) rfl dX10_point_42 ?_
          refine lv_aload_n hx hb dX10_point_45 rfl (lv_at hl 0 rfl) ?_
          refine tz_get (ci := 7) (v := .ref h6) (C := RX10) (F := TX10) (N := 17) hx hb hU iX10 hown hK hT 0 rfl rfl 7 (by decide) w256 (fun _ h9 => h9) rfl dX10_point_46 ?_
          refine lv_iload_n hx hb dX10_point_49 rfl (lv_at hl 1 rfl) ?_
          refine tcI (Tc := [(h6, ob 3 [.ref h30, .ref h31, .ref h32, .ref h33, .ref h34, .ref h35, .ref h36, .ref h37, .int h6f8, .int h6f9, .int h6f10, .int h6f11])]) (Tr := [(h0, ob 7 [.ref h1, .ref h2, .int h0f2, .ref h3, .ref h4, .ref h5, .int h0f6, .ref h6, .int h0f8, .ref h7, .ref h8, .int h0f11, .ref h9, .ref h10, .ref h11, .ref h12, .ref h13]), (h1, ob 4 [.int h1f0, .int h1f1, .int h1f2, .ref h14]), (h30, aJ (k 1) 180 anJ)]) (as := [h6]) (zcV (q0 := 3) (ci := 3) (As := [.int x1]) (rest := [.ref h30]) (Tc := [(h6, ob 3 [.ref h30, .ref h31, .ref h32, .ref h33, .ref h34, .ref h35, .ref h36, .ref h37, .int h6f8, .int h6f9, .int h6f10, .int h6f11])]) hx hb hml hown hU hK hT rfl rfl [3] rfl (by decide) (cX4_start_cf782 l D k _ h6 h30 h31 h32 h33 h34 h35 h36 h37 x1 h6f8 h6f9 h6f10 h6f11 (by omega) (by omega) (by omega) (by omega) (by omega)) w505 w574 w503 w504 w66 hdX4_start ⟨rfl, rfl⟩ ⟨Nat.le_of_ble_eq_true rfl, Nat.le_of_ble_eq_true rfl⟩ rfl hl.1 (Nat.le_of_ble_eq_true rfl) dX10_point_50 ⟨Nat.le_of_ble_eq_true rfl, Nat.le_of_ble_eq_true rfl⟩) hT hS hA [3] [0, 1, 2] rfl rfl rfl (by decide) (by decide) (fun r13 H locs hB J hS => ?_)
          obtain ⟨b_r13, hT1⟩ := hB
          have hT := J _ hT1
          have hT : TP D A [(h0, ob 7 [.ref h1, .ref h2, .int h0f2, .ref h3, .ref h4, .ref h5, .int h0f6, .ref h6, .int h0f8, .ref h7, .ref h8, .int h0f11, .ref h9, .ref h10, .ref h11, .ref h12, .ref h13]), (h1, ob 4 [.int h1f0, .int h1f1, .int h1f2, .ref h14]), (h30, aJ (k 1) 180 anJ), (h6, ob 3 [.ref h30, .ref h31, .ref h32, .ref h33, .ref h34, .ref h35, .ref h36, .ref h37, .int h6f8, .int h6f9, .int h6f10, .int h6f11])] H := hT
          refine lv_iload_n hx hb dX10_point_53 rfl (lv_at hl 2 rfl) ?_
          refine lv_iadd hx hb dX10_point_54 (lv_topi (fun v14 e_v14 => ?_))
          have e_v14 := ai_add e_v14 rfl rfl (by omega)
          refine tz_lald hx hb hK hT 2 rfl (by omega) dX10_point_55 (fun v15 e_v15 => ?_)
          clear e_v15
          exact tz_retL (B := B_cX10_point_c5f44 D k h0 h1 h6 h30 h2 h3 h4 h5 h7 h8 h9 h10 h11 h12 h13 h14 h31 h32 h33 h34 h35 h36 h37 x1 x2 h0f2 h0f6 h0f8 h0f11 h1f0 h1f1 h1f2 h6f8 h6f9 h6f10 h6f11) (v := v15) hQ hx hb hr hlocks hS (Nat.le_of_ble_eq_true rfl) (Nat.le_of_ble_eq_true rfl) dX10_point_56 ((hT.sub [0, 1, 3, 2] (by decide) rfl))
        · skip
          have c_12 := ni_nlt c_12 rfl rfl
          refine lv_iconst (v := (-1)) hx hb dX10_point_33 (by decide) ?_
          have q_q17 := li_m1
          refine tcL (Tc := []) (Tr := [(h0, ob 7 [.ref h1, .ref h2, .int h0f2, .ref h3, .ref h4, .ref h5, .int h0f6, .ref h6, .int h0f8, .ref h7, .ref h8, .int h0f11, .ref h9, .ref h10, .ref h11, .ref h12, .ref h13]), (h1, ob 4 [.int h1f0, .int h1f1, .int h1f2, .ref h14]), (h30, aJ (k 1) 180 anJ), (h6, ob 3 [.ref h30, .ref h31, .ref h32, .ref h33, .ref h34, .ref h35, .ref h36, .ref h37, .int h6f8, .int h6f9, .int h6f10, .int h6f11])]) (as := []) (zcS (As := [.int (-1)]) (rest := []) (Tc := []) hx hb hml hown hU hK hT [] rfl (by decide) (cX10_asLong_5cc16 l D k _ ((-1)) (by have := li_m1; omega)) w572 w570 w571 w63 hdX10_asLong ⟨rfl, rfl⟩ ⟨Nat.le_of_ble_eq_true rfl, Nat.le_of_ble_eq_true rfl⟩ rfl hl.1 (Nat.le_of_ble_eq_true rfl) dX10_point_34 ⟨Nat.le_of_ble_eq_true rfl, Nat.le_of_ble_eq_true rfl⟩) hT hS hA [] [0, 1, 2, 3] rfl rfl rfl (by decide) (by decide) (fun r16 H locs hB J hS => ?_)
          obtain ⟨b_r16, hT1⟩ := hB
          have hT := J _ hT1
          have hT : TP D A [(h0, ob 7 [.ref h1, .ref h2, .int h0f2, .ref h3, .ref h4, .ref h5, .int h0f6, .ref h6, .int h0f8, .ref h7, .ref h8, .int h0f11, .ref h9, .ref h10, .ref h11, .ref h12, .ref h13]), (h1, ob 4 [.int h1f0, .int h1f1, .int h1f2, .ref h14]), (h30, aJ (k 1) 180 anJ), (h6, ob 3 [.ref h30, .ref h31, .ref h32, .ref h33, .ref h34, .ref h35, .ref h36, .ref h37, .int h6f8, .int h6f9, .int h6f10, .int h6f11])] H := hT
          exact tz_retL (B := B_cX10_point_c5f44 D k h0 h1 h6 h30 h2 h3 h4 h5 h7 h8 h9 h10 h11 h12 h13 h14 h31 h32 h33 h34 h35 h36 h37 x1 x2 h0f2 h0f6 h0f8 h0f11 h1f0 h1f1 h1f2 h6f8 h6f9 h6f10 h6f11) (v := r16) hQ hx hb hr hlocks hS (Nat.le_of_ble_eq_true rfl) (Nat.le_of_ble_eq_true rfl) dX10_point_37 ((hT.sub [0, 1, 3, 2] (by decide) rfl))
abbrev Rm_cX11_point_f1f42 : Room := { frames := 2, cells := 0, slots := 0, locals := 46 }
abbrev B_cX11_point_f1f42 (D : va_G) (k : Nat → ClassId) (h0 h15 h1 h2 h3 h4 h5 h6 h7 h8 h9 h10 h11 h12 h13 h14 h16 h17 h18 h19 h20 h21 : Nat) (x1 : Int32) (x2 : Int32) (h0f0 : Int32) (h0f1 : Int32) (h0f2 : Int32) (h0f3 : Int32) (h0f4 : Int32) (h0f5 : Int32) (h0f8 : Int32) (h0f9 : Int32) (h0f17 : Int32) (h0f18 : Int32) (h0f19 : Int32) (h0f24 : Int32) (h0f25 : Int32) (h0f30 : Int32) (h0f31 : Int32) (A : Nat → Prop) (r : Int64) (H : Heap) : Prop := TP D A [(h0, ob 8 [.int h0f0, .int h0f1, .int h0f2, .int h0f3, .int h0f4, .int h0f5, .ref h1, .ref h2, .int h0f8, .int h0f9, .ref h3, .ref h4, .ref h5, .ref h6, .ref h7, .ref h8, .ref h9, .int h0f17, .int h0f18, .int h0f19, .ref h10, .ref h11, .ref h12, .ref h13, .int h0f24, .int h0f25, .ref h14, .ref h15, .ref h16, .ref h17, .int h0f30, .int h0f31, .ref h18, .ref h19, .ref h20, .ref h21]), (h15, aJ (k 1) 180 anJ)] H
set_option maxHeartbeats 4000000 in
set_option maxRecDepth 100000 in
theorem cX11_point_f1f42 (l : Launch) (D : va_G) (k : Nat → ClassId) (sz : Nat) (h0 h15 h1 h2 h3 h4 h5 h6 h7 h8 h9 h10 h11 h12 h13 h14 h16 h17 h18 h19 h20 h21 : Nat) (x1 : Int32) (x2 : Int32) (h0f0 : Int32) (h0f1 : Int32) (h0f2 : Int32) (h0f3 : Int32) (h0f4 : Int32) (h0f5 : Int32) (h0f8 : Int32) (h0f9 : Int32) (h0f17 : Int32) (h0f18 : Int32) (h0f19 : Int32) (h0f24 : Int32) (h0f25 : Int32) (h0f30 : Int32) (h0f31 : Int32) (b_h0f0 : 1 ≤ h0f0.toInt ∧ h0f0.toInt ≤ 3) (b_h0f1 : 0 ≤ h0f1.toInt ∧ h0f1.toInt ≤ 4) (b_h0f3 : 0 ≤ h0f3.toInt ∧ h0f3.toInt ≤ 3) (b_h0f4 : 0 ≤ h0f4.toInt ∧ h0f4.toInt ≤ 4) (b_h0f8 : 0 ≤ h0f8.toInt ∧ h0f8.toInt ≤ 1) (b_h0f9 : 0 ≤ h0f9.toInt ∧ h0f9.toInt ≤ 1) (b_h0f17 : 0 ≤ h0f17.toInt ∧ h0f17.toInt ≤ 120) (b_h0f18 : 0 ≤ h0f18.toInt ∧ h0f18.toInt ≤ 120) (b_h0f19 : 0 ≤ h0f19.toInt ∧ h0f19.toInt ≤ 4) (b_h0f24 : 0 ≤ h0f24.toInt ∧ h0f24.toInt ≤ 100) (b_h0f25 : 0 ≤ h0f25.toInt ∧ h0f25.toInt ≤ 1) (b_h0f30 : 0 ≤ h0f30.toInt ∧ h0f30.toInt ≤ 60) (b_h0f31 : 0 ≤ h0f31.toInt ∧ h0f31.toInt ≤ 1) : Met l yX11_point (Cond.code yX11_point cX11_point 3 (some .long) :: uw) Rm_cX11_point_f1f42 (pT D k sz [.ref h0, .int x1, .int x2] [(h0, ob 8 [.int h0f0, .int h0f1, .int h0f2, .int h0f3, .int h0f4, .int h0f5, .ref h1, .ref h2, .int h0f8, .int h0f9, .ref h3, .ref h4, .ref h5, .ref h6, .ref h7, .ref h8, .ref h9, .int h0f17, .int h0f18, .int h0f19, .ref h10, .ref h11, .ref h12, .ref h13, .int h0f24, .int h0f25, .ref h14, .ref h15, .ref h16, .ref h17, .int h0f30, .int h0f31, .ref h18, .ref h19, .ref h20, .ref h21]), (h15, aJ (k 1) 180 anJ)]) (qL (B_cX11_point_f1f42 D k h0 h15 h1 h2 h3 h4 h5 h6 h7 h8 h9 h10 h11 h12 h13 h14 h16 h17 h18 h19 h20 h21 x1 x2 h0f0 h0f1 h0f2 h0f3 h0f4 h0f5 h0f8 h0f9 h0f17 h0f18 h0f19 h0f24 h0f25 h0f30 h0f31 (zA [h0, h15] sz)) (zA [h0, h15] sz)) 0 0 (zA [h0, h15] sz) := by
  refine tz_begin (as := [h0, h15]) (Qc := fun A => qL (B_cX11_point_f1f42 D k h0 h15 h1 h2 h3 h4 h5 h6 h7 h8 h9 h10 h11 h12 h13 h14 h16 h17 h18 h19 h20 h21 x1 x2 h0f0 h0f1 h0f2 h0f3 h0f4 h0f5 h0f8 h0f9 h0f17 h0f18 h0f19 h0f24 h0f25 h0f30 h0f31 A) A) (by decide +kernel) rfl (Nat.le_of_ble_eq_true rfl) ?_
  intro p e s m args below meth c ls A Q hx hb hr hml hown hlocks hin hU hK hT hS hA hl hQ
  have hl : lv_has ls 3 [(0, .ref h0), (1, .int x1), (2, .int x2)] := hl
  have hT : TP D A [(h0, ob 8 [.int h0f0, .int h0f1, .int h0f2, .int h0f3, .int h0f4, .int h0f5, .ref h1, .ref h2, .int h0f8, .int h0f9, .ref h3, .ref h4, .ref h5, .ref h6, .ref h7, .ref h8, .ref h9, .int h0f17, .int h0f18, .int h0f19, .ref h10, .ref h11, .ref h12, .ref h13, .int h0f24, .int h0f25, .ref h14, .ref h15, .ref h16, .ref h17, .int h0f30, .int h0f31, .ref h18, .ref h19, .ref h20, .ref h21]), (h15, aJ (k 1) 180 anJ)] s.heap := hT
  refine lv_iload_n hx hb dX11_point_0 rfl (lv_at hl 1 rfl) ?_
  obtain ⟨v1, e_v1⟩ : ∃ x : Int64, x1.toInt64 = x := ⟨_, rfl⟩
  refine lv_i2l (v := v1) hx hb dX11_point_1 e_v1 ?_
  have e_v1 := ai_i2l e_v1 rfl
  refine lv_lconst (v := 0) hx hb dX11_point_2 (by decide) ?_
  refine lv_aload_n hx hb dX11_point_3 rfl (lv_at hl 0 rfl) ?_
  refine tz_get (ci := 8) (v := .int h0f30) (C := RX11) (F := TX11) (N := 36) hx hb hU iX11 hown hK hT 0 rfl rfl 30 (by decide) w815 (fun _ h9 => h9) rfl dX11_point_4 ?_
  refine lv_iconst (v := 1) hx hb dX11_point_7 (by decide) ?_
  refine lv_isub hx hb dX11_point_8 (lv_topi (fun v2 e_v2 => ?_))
  have e_v2 := ai_sub e_v2 rfl li_1 (by omega)
  obtain ⟨v3, e_v3⟩ : ∃ x : Int64, v2.toInt64 = x := ⟨_, rfl⟩
  refine lv_i2l (v := v3) hx hb dX11_point_9 e_v3 ?_
  have e_v3 := ai_i2l e_v3 rfl
  have q_q5 := ll_0
  refine tcI (Tc := []) (Tr := [(h0, ob 8 [.int h0f0, .int h0f1, .int h0f2, .int h0f3, .int h0f4, .int h0f5, .ref h1, .ref h2, .int h0f8, .int h0f9, .ref h3, .ref h4, .ref h5, .ref h6, .ref h7, .ref h8, .ref h9, .int h0f17, .int h0f18, .int h0f19, .ref h10, .ref h11, .ref h12, .ref h13, .int h0f24, .int h0f25, .ref h14, .ref h15, .ref h16, .ref h17, .int h0f30, .int h0f31, .ref h18, .ref h19, .ref h20, .ref h21]), (h15, aJ (k 1) 180 anJ)]) (as := []) (zcS (As := [.long v1, .long 0, .long v3]) (rest := []) (Tc := []) hx hb hml hown hU hK hT [] rfl (by decide) (cX11_in_ca3b9 l D k _ v1 (0) v3 (by have := ll_0; omega) (by omega)) w901 w899 w900 w72 hdX11_in ⟨rfl, rfl⟩ ⟨Nat.le_of_ble_eq_true rfl, Nat.le_of_ble_eq_true rfl⟩ rfl hl.1 (Nat.le_of_ble_eq_true rfl) dX11_point_10 ⟨Nat.le_of_ble_eq_true rfl, Nat.le_of_ble_eq_true rfl⟩) hT hS hA [] [0, 1] rfl rfl rfl (by decide) (by decide) (fun r4 H locs hB J hS => ?_)
  rcases hB with ⟨rfl, hT1⟩ | ⟨c_6, c_7, rfl, hT1⟩
  · skip
    have hT := J _ hT1
    have hT : TP D A [(h0, ob 8 [.int h0f0, .int h0f1, .int h0f2, .int h0f3, .int h0f4, .int h0f5, .ref h1, .ref h2, .int h0f8, .int h0f9, .ref h3, .ref h4, .ref h5, .ref h6, .ref h7, .ref h8, .ref h9, .int h0f17, .int h0f18, .int h0f19, .ref h10, .ref h11, .ref h12, .ref h13, .int h0f24, .int h0f25, .ref h14, .ref h15, .ref h16, .ref h17, .int h0f30, .int h0f31, .ref h18, .ref h19, .ref h20, .ref h21]), (h15, aJ (k 1) 180 anJ)] H := hT
    refine lv_if_eq (tgt := 37) hx hb dX11_point_13 (by decide) (fun _ => ?_) (fun cc => absurd (by decide +kernel) cc)
    refine lv_iconst (v := (-1)) hx hb dX11_point_37 (by decide) ?_
    have q_q9 := li_m1
    refine tcL (Tc := []) (Tr := [(h0, ob 8 [.int h0f0, .int h0f1, .int h0f2, .int h0f3, .int h0f4, .int h0f5, .ref h1, .ref h2, .int h0f8, .int h0f9, .ref h3, .ref h4, .ref h5, .ref h6, .ref h7, .ref h8, .ref h9, .int h0f17, .int h0f18, .int h0f19, .ref h10, .ref h11, .ref h12, .ref h13, .int h0f24, .int h0f25, .ref h14, .ref h15, .ref h16, .ref h17, .int h0f30, .int h0f31, .ref h18, .ref h19, .ref h20, .ref h21]), (h15, aJ (k 1) 180 anJ)]) (as := []) (zcS (As := [.int (-1)]) (rest := []) (Tc := []) hx hb hml hown hU hK hT [] rfl (by decide) (cX11_far_7dbca l D k _ ((-1)) (by have := li_m1; omega)) w1062 w1060 w1061 w72 hdX11_far ⟨rfl, rfl⟩ ⟨Nat.le_of_ble_eq_true rfl, Nat.le_of_ble_eq_true rfl⟩ rfl hl.1 (Nat.le_of_ble_eq_true rfl) dX11_point_38 ⟨Nat.le_of_ble_eq_true rfl, Nat.le_of_ble_eq_true rfl⟩) hT hS hA [] [0, 1] rfl rfl rfl (by decide) (by decide) (fun r8 H locs hB J hS => ?_)
    obtain ⟨b_r8, hT1⟩ := hB
    have hT := J _ hT1
    have hT : TP D A [(h0, ob 8 [.int h0f0, .int h0f1, .int h0f2, .int h0f3, .int h0f4, .int h0f5, .ref h1, .ref h2, .int h0f8, .int h0f9, .ref h3, .ref h4, .ref h5, .ref h6, .ref h7, .ref h8, .ref h9, .int h0f17, .int h0f18, .int h0f19, .ref h10, .ref h11, .ref h12, .ref h13, .int h0f24, .int h0f25, .ref h14, .ref h15, .ref h16, .ref h17, .int h0f30, .int h0f31, .ref h18, .ref h19, .ref h20, .ref h21]), (h15, aJ (k 1) 180 anJ)] H := hT
    exact tz_retL (B := B_cX11_point_f1f42 D k h0 h15 h1 h2 h3 h4 h5 h6 h7 h8 h9 h10 h11 h12 h13 h14 h16 h17 h18 h19 h20 h21 x1 x2 h0f0 h0f1 h0f2 h0f3 h0f4 h0f5 h0f8 h0f9 h0f17 h0f18 h0f19 h0f24 h0f25 h0f30 h0f31) (v := r8) hQ hx hb hr hlocks hS (Nat.le_of_ble_eq_true rfl) (Nat.le_of_ble_eq_true rfl) dX11_point_41 (hT)
  · skip
    have hT := J _ hT1
    have hT : TP D A [(h0, ob 8 [.int h0f0, .int h0f1, .int h0f2, .int h0f3, .int h0f4, .int h0f5, .ref h1, .ref h2, .int h0f8, .int h0f9, .ref h3, .ref h4, .ref h5, .ref h6, .ref h7, .ref h8, .ref h9, .int h0f17, .int h0f18, .int h0f19, .ref h10, .ref h11, .ref h12, .ref h13, .int h0f24, .int h0f25, .ref h14, .ref h15, .ref h16, .ref h17, .int h0f30, .int h0f31, .ref h18, .ref h19, .ref h20, .ref h21]), (h15, aJ (k 1) 180 anJ)] H := hT
    refine lv_if_eq (tgt := 37) hx hb dX11_point_13 (by decide) (fun cc => absurd cc (by decide +kernel)) (fun _ => ?_)
    refine lv_aload_n hx hb dX11_point_16 rfl (lv_at hl 0 rfl) ?_
    refine lv_iload_n hx hb dX11_point_17 rfl (lv_at hl 2 rfl) ?_
    refine tcI (Tc := [(h0, ob 8 [.int h0f0, .int h0f1, .int h0f2, .int h0f3, .int h0f4, .int h0f5, .ref h1, .ref h2, .int h0f8, .int h0f9, .ref h3, .ref h4, .ref h5, .ref h6, .ref h7, .ref h8, .ref h9, .int h0f17, .int h0f18, .int h0f19, .ref h10, .ref h11, .ref h12, .ref h13, .int h0f24, .int h0f25, .ref h14, .ref h15, .ref h16, .ref h17, .int h0f30, .int h0f31, .ref h18, .ref h19, .ref h20, .ref h21])]) (Tr := [(h15, aJ (k 1) 180 anJ)]) (as := [h0]) (zcV (q0 := 0) (ci := 8) (As := [.int x2]) (rest := []) (Tc := [(h0, ob 8 [.int h0f0, .int h0f1, .int h0f2, .int h0f3, .int h0f4, .int h0f5, .ref h1, .ref h2, .int h0f8, .int h0f9, .ref h3, .ref h4, .ref h5, .ref h6, .ref h7, .ref h8, .ref h9, .int h0f17, .int h0f18, .int h0f19, .ref h10, .ref h11, .ref h12, .ref h13, .int h0f24, .int h0f25, .ref h14, .ref h15, .ref h16, .ref h17, .int h0f30, .int h0f31, .ref h18, .ref h19, .ref h20, .ref h21])]) hx hb hml hown hU hK hT rfl rfl [0] rfl (by decide) (cX11_isPlace_389a5 l D k _ h0 h1 h2 h3 h4 h5 h6 h7 h8 h9 h10 h11 h12 h13 h14 h15 h16 h17 h18 h19 h20 h21 x2 h0f0 h0f1 h0f2 h0f3 h0f4 h0f5 h0f8 h0f9 h0f17 h0f18 h0f19 h0f24 h0f25 h0f30 h0f31 (by omega) (by omega) (by omega) (by omega) (by omega) (by omega) (by omega) (by omega) (by omega) (by omega) (by omega) (by omega) (by omega)) w909 w906 w908 w26 w72 hdX11_isPlace ⟨rfl, rfl⟩ ⟨Nat.le_of_ble_eq_true rfl, Nat.le_of_ble_eq_true rfl⟩ rfl hl.1 (Nat.le_of_ble_eq_true rfl) dX11_point_18 ⟨Nat.le_of_ble_eq_true rfl, Nat.le_of_ble_eq_true rfl⟩) hT hS hA [0] [1] rfl rfl rfl (by decide) (by decide) (fun r10 H locs hB J hS => ?_)
    rcases hB with ⟨rfl, hT1⟩ | ⟨c_11, c_12, rfl, hT1⟩
    · skip
      have hT := J _ hT1
      have hT : TP D A [(h15, aJ (k 1) 180 anJ), (h0, ob 8 [.int h0f0, .int h0f1, .int h0f2, .int h0f3, .int h0f4, .int h0f5, .ref h1, .ref h2, .int h0f8, .int h0f9, .ref h3, .ref h4, .ref h5, .ref h6, .ref h7, .ref h8, .ref h9, .int h0f17, .int h0f18, .int h0f19, .ref h10, .ref h11, .ref h12, .ref h13, .int h0f24, .int h0f25, .ref h14, .ref h15, .ref h16, .ref h17, .int h0f30, .int h0f31, .ref h18, .ref h19, .ref h20, .ref h21])] H := hT
      refine lv_if_eq (tgt := 37) hx hb dX11_point_21 (by decide) (fun _ => ?_) (fun cc => absurd (by decide +kernel) cc)
      refine lv_iconst (v := (-1)) hx hb dX11_point_37 (by decide) ?_
      have q_q14 := li_m1
      refine tcL (Tc := []) (Tr := [(h15, aJ (k 1) 180 anJ), (h0, ob 8 [.int h0f0, .int h0f1, .int h0f2, .int h0f3, .int h0f4, .int h0f5, .ref h1, .ref h2, .int h0f8, .int h0f9, .ref h3, .ref h4, .ref h5, .ref h6, .ref h7, .ref h8, .ref h9, .int h0f17, .int h0f18, .int h0f19, .ref h10, .ref h11, .ref h12, .ref h13, .int h0f24, .int h0f25, .ref h14, .ref h15, .ref h16, .ref h17, .int h0f30, .int h0f31, .ref h18, .ref h19, .ref h20, .ref h21])]) (as := []) (zcS (As := [.int (-1)]) (rest := []) (Tc := []) hx hb hml hown hU hK hT [] rfl (by decide) (cX11_far_7dbca l D k _ ((-1)) (by have := li_m1; omega)) w1062 w1060 w1061 w72 hdX11_far ⟨rfl, rfl⟩ ⟨Nat.le_of_ble_eq_true rfl, Nat.le_of_ble_eq_true rfl⟩ rfl hl.1 (Nat.le_of_ble_eq_true rfl) dX11_point_38 ⟨Nat.le_of_ble_eq_true rfl, Nat.le_of_ble_eq_true rfl⟩) hT hS hA [] [0, 1] rfl rfl rfl (by decide) (by decide) (fun r13 H locs hB J hS => ?_)
      obtain ⟨b_r13, hT1⟩ := hB
      have hT := J _ hT1
      have hT : TP D A [(h15, aJ (k 1) 180 anJ), (h0, ob 8 [.int h0f0, .int h0f1, .int h0f2, .int h0f3, .int h0f4, .int h0f5, .ref h1, .ref h2, .int h0f8, .int h0f9, .ref h3, .ref h4, .ref h5, .ref h6, .ref h7, .ref h8, .ref h9, .int h0f17, .int h0f18, .int h0f19, .ref h10, .ref h11, .ref h12, .ref h13, .int h0f24, .int h0f25, .ref h14, .ref h15, .ref h16, .ref h17, .int h0f30, .int h0f31, .ref h18, .ref h19, .ref h20, .ref h21])] H := hT
      exact tz_retL (B := B_cX11_point_f1f42 D k h0 h15 h1 h2 h3 h4 h5 h6 h7 h8 h9 h10 h11 h12 h13 h14 h16 h17 h18 h19 h20 h21 x1 x2 h0f0 h0f1 h0f2 h0f3 h0f4 h0f5 h0f8 h0f9 h0f17 h0f18 h0f19 h0f24 h0f25 h0f30 h0f31) (v := r13) hQ hx hb hr hlocks hS (Nat.le_of_ble_eq_true rfl) (Nat.le_of_ble_eq_true rfl) dX11_point_41 ((hT.sub [1, 0] (by decide) rfl))
    · skip
      have hT := J _ hT1
      have hT : TP D A [(h15, aJ (k 1) 180 anJ), (h0, ob 8 [.int h0f0, .int h0f1, .int h0f2, .int h0f3, .int h0f4, .int h0f5, .ref h1, .ref h2, .int h0f8, .int h0f9, .ref h3, .ref h4, .ref h5, .ref h6, .ref h7, .ref h8, .ref h9, .int h0f17, .int h0f18, .int h0f19, .ref h10, .ref h11, .ref h12, .ref h13, .int h0f24, .int h0f25, .ref h14, .ref h15, .ref h16, .ref h17, .int h0f30, .int h0f31, .ref h18, .ref h19, .ref h20, .ref h21])] H := hT
      refine lv_if_eq (tgt := 37) hx hb dX11_point_21 (by decide) (fun cc => absurd cc (by decide +kernel)) (fun _ => ?_)
      refine lv_aload_n hx hb dX11_point_24 rfl (lv_at hl 0 rfl) ?_
      refine tz_get (ci := 8) (v := .ref h15) (C := RX11) (F := TX11) (N := 36) hx hb hU iX11 hown hK hT 1 rfl rfl 27 (by decide) w812 (fun _ h9 => h9) rfl dX11_point_25 ?_
      refine lv_iconst (v := 3) hx hb dX11_point_28 (by decide) ?_
      refine lv_iload_n hx hb dX11_point_29 rfl (lv_at hl 1 rfl) ?_
      refine lv_imul hx hb dX11_point_30 (lv_topi (fun v15 e_v15 => ?_))
      have e_v15 := ai_mul e_v15 li_3 rfl (by omega)
      refine lv_iload_n hx hb dX11_point_31 rfl (lv_at hl 2 rfl) ?_
      refine lv_iadd hx hb dX11_point_32 (lv_topi (fun v16 e_v16 => ?_))
      have e_v16 := ai_add e_v16 rfl rfl (by omega)
      refine tz_lald hx hb hK hT 0 rfl (by omega) dX11_point_33 (fun v17 e_v17 => ?_)
      clear e_v17
      refine lv_goto (tgt := 41) hx hb dX11_point_34 (by decide) ?_
      exact tz_retL (B := B_cX11_point_f1f42 D k h0 h15 h1 h2 h3 h4 h5 h6 h7 h8 h9 h10 h11 h12 h13 h14 h16 h17 h18 h19 h20 h21 x1 x2 h0f0 h0f1 h0f2 h0f3 h0f4 h0f5 h0f8 h0f9 h0f17 h0f18 h0f19 h0f24 h0f25 h0f30 h0f31) (v := v17) hQ hx hb hr hlocks hS (Nat.le_of_ble_eq_true rfl) (Nat.le_of_ble_eq_true rfl) dX11_point_41 ((hT.sub [1, 0] (by decide) rfl))
abbrev Rm_cX7_addUp_e71ca : Room := { frames := 0, cells := 0, slots := 0, locals := 0 }
abbrev B_cX7_addUp_e71ca (D : va_G) (k : Nat → ClassId) (h0 h1 : Nat) (x1 : Int32) (x4 : Int32) (x6 : Int32) (A : Nat → Prop) (r : Int64) (H : Heap) : Prop := TP D A [(h0, aJ (k 1) 900 anJ), (h1, aJ (k 1) 9 anJ)] H
set_option maxHeartbeats 4000000 in
set_option maxRecDepth 100000 in
theorem cX7_addUp_e71ca (l : Launch) (D : va_G) (k : Nat → ClassId) (sz : Nat) (h0 h1 : Nat) (x1 : Int32) (x4 : Int32) (x6 : Int32) (b_x1 : 0 ≤ x1.toInt ∧ x1.toInt ≤ 897) (b_x4 : 0 ≤ x4.toInt ∧ x4.toInt ≤ 0) (b_x6 : 1 ≤ x6.toInt ∧ x6.toInt ≤ 3) : Met l yX7_addUp (Cond.code yX7_addUp cX7_addUp 10 (some .long) :: uw) Rm_cX7_addUp_e71ca (pT D k sz [.ref h0, .int x1, .int 1, .ref h1, .int x4, .int 1, .int x6] [(h0, aJ (k 1) 900 anJ), (h1, aJ (k 1) 9 anJ)]) (qL (B_cX7_addUp_e71ca D k h0 h1 x1 x4 x6 (zA [h0, h1] sz)) (zA [h0, h1] sz)) 0 0 (zA [h0, h1] sz) := by
  refine tz_begin (as := [h0, h1]) (Qc := fun A => qL (B_cX7_addUp_e71ca D k h0 h1 x1 x4 x6 A) A) (by decide +kernel) rfl (Nat.le_of_ble_eq_true rfl) ?_
  intro p e s m args below meth c ls A Q hx hb hr hml hown hlocks hin hU hK hT hS hA hl hQ
  have hl : lv_has ls 10 [(0, .ref h0), (1, .int x1), (2, .int 1), (3, .ref h1), (4, .int x4), (5, .int 1), (6, .int x6)] := hl
  have hT : TP D A [(h0, aJ (k 1) 900 anJ), (h1, aJ (k 1) 9 anJ)] s.heap := hT
  refine lv_lconst (v := 0) hx hb dX7_addUp_0 (by decide) ?_
  refine lv_lstore (lv' := [(7, .long 0), (0, .ref h0), (1, .int x1), (2, .int 1), (3, .ref h1), (4, .int x4), (5, .int 1), (6, .int x6)]) hx hb dX7_addUp_1 hl (by decide) rfl (fun ls hl => ?_)
  refine lv_iconst (v := 0) hx hb dX7_addUp_3 (by decide) ?_
  refine lv_istore (lv' := [(9, .int 0), (7, .long 0), (0, .ref h0), (1, .int x1), (2, .int 1), (3, .ref h1), (4, .int x4), (5, .int 1), (6, .int x6)]) hx hb dX7_addUp_4 hl (by decide) rfl (fun ls hl => ?_)
  have lp6_7 : ∀ (n : Nat) (y5 : Int32) (y6 : Int64) (H : Heap) (locs : List Loc) (ls : Array Slot), (0 ≤ y5.toInt ∧ y5.toInt ≤ 3) → (x6.toInt + (-1) * y5.toInt + 1).toNat < n → TP D A [(h0, aJ (k 1) 900 anJ), (h1, aJ (k 1) 9 anJ)] H → va_S A s.heap H locs → lv_has ls 10 [(0, .ref h0), (1, .int x1), (2, .int 1), (3, .ref h1), (4, .int x4), (5, .int 1), (6, .int x6), (7, .long y6), (9, .int y5)] → W p l e Rm_cX7_addUp_e71ca s m args below meth c H locs 0 0 Q (F0 m 6 ls []) := by
    intro n
    induction n with
    | zero => intro y5 y6 H locs ls b_y5 hm hT hS hl; exact absurd hm (Nat.not_lt_zero _)
    | succ n ih =>
      intro y5 y6 H locs ls b_y5 hm hT hS hl
      have ih6_7 := ih
      clear ih
      refine lv_iload hx hb dX7_addUp_6 (lv_at hl 8 rfl) ?_
      refine lv_iload hx hb dX7_addUp_8 (lv_at hl 6 rfl) ?_
      refine lv_icmp_ge (tgt := 43) hx hb dX7_addUp_10 (by decide) (fun c_8 => ?_) (fun c_8 => ?_)
      · skip
        have c_8 := ni_le c_8 rfl rfl
        refine lv_lload hx hb dX7_addUp_43 (lv_at hl 7 rfl) ?_
        exact tz_retL (B := B_cX7_addUp_e71ca D k h0 h1 x1 x4 x6) (v := y6) hQ hx hb hr hlocks hS (Nat.le_of_ble_eq_true rfl) (Nat.le_of_ble_eq_true rfl) dX7_addUp_45 (hT)
      · skip
        have c_8 := ni_nle c_8 rfl rfl
        refine lv_lload hx hb dX7_addUp_13 (lv_at hl 7 rfl) ?_
        refine lv_aload_n hx hb dX7_addUp_15 rfl (lv_at hl 0 rfl) ?_
        refine lv_iload_n hx hb dX7_addUp_16 rfl (lv_at hl 1 rfl) ?_
        refine lv_iload hx hb dX7_addUp_17 (lv_at hl 8 rfl) ?_
        refine lv_iload_n hx hb dX7_addUp_19 rfl (lv_at hl 2 rfl) ?_
        refine lv_imul hx hb dX7_addUp_20 (lv_topi (fun v9 e_v9 => ?_))
        have e_v9 := ai_mul e_v9 rfl li_1 (by omega)
        refine lv_iadd hx hb dX7_addUp_21 (lv_topi (fun v10 e_v10 => ?_))
        have e_v10 := ai_add e_v10 rfl rfl (by omega)
        refine tz_lald hx hb hK hT 0 rfl (by omega) dX7_addUp_22 (fun v11 e_v11 => ?_)
        clear e_v11
        refine lv_aload_n hx hb dX7_addUp_23 rfl (lv_at hl 3 rfl) ?_
        refine lv_iload hx hb dX7_addUp_24 (lv_at hl 4 rfl) ?_
        refine lv_iload hx hb dX7_addUp_26 (lv_at hl 8 rfl) ?_
        refine lv_iload hx hb dX7_addUp_28 (lv_at hl 5 rfl) ?_
        refine lv_imul hx hb dX7_addUp_30 (lv_topi (fun v12 e_v12 => ?_))
        have e_v12 := ai_mul e_v12 rfl li_1 (by omega)
        have hq13 : x4.toInt = 0 := by omega
        refine lv_iadd hx hb dX7_addUp_31 (lv_topi (fun v14 e_v14 => ?_))
        have e_v14 := ai_add e_v14 hq13 rfl (by omega)
        refine tz_lald hx hb hK hT 1 rfl (by omega) dX7_addUp_32 (fun v15 e_v15 => ?_)
        clear e_v15
        refine lv_lmul hx hb dX7_addUp_33 (lv_topl (fun v16 e_v16 => ?_))
        refine lv_ladd hx hb dX7_addUp_34 (lv_topl (fun v17 e_v17 => ?_))
        refine lv_lstore (lv' := [(7, .long v17), (0, .ref h0), (1, .int x1), (2, .int 1), (3, .ref h1), (4, .int x4), (5, .int 1), (6, .int x6), (9, .int y5)]) hx hb dX7_addUp_35 hl (by decide) rfl (fun ls hl => ?_)
        obtain ⟨v18, e_v18⟩ : ∃ x : Int32, x = y5 + Int32.ofInt 1 := ⟨_, rfl⟩
        have f_v18 := e_v18.symm
        have e_v18 : v18.toInt = y5.toInt + 1 := ai_add e_v18 rfl (show (Int32.ofInt 1).toInt = 1 from (by decide +kernel)) (by omega)
        refine lv_iinc (v := v18) (lv' := [(9, .int v18), (7, .long v17), (0, .ref h0), (1, .int x1), (2, .int 1), (3, .ref h1), (4, .int x4), (5, .int 1), (6, .int x6)]) hx hb dX7_addUp_37 hl (k := 8) rfl f_v18 (by decide) rfl (fun ls hl => ?_)
        refine lv_goto (tgt := 6) hx hb dX7_addUp_40 (by decide) ?_
        exact ih6_7 v18 v17 _ _ _ (by omega)  (by omega) hT hS (lv_sub hl [2, 3, 4, 5, 6, 7, 8, 1, 0] rfl)
  exact lp6_7 ((x6.toInt + (-1) * (0 : Int32).toInt + 1).toNat + 1) (0) (0) _ _ _ (by have := li_0; have := ll_0; omega)  (Nat.lt_succ_self _) hT hS (lv_sub hl [2, 3, 4, 5, 6, 7, 8, 1, 0] rfl)
abbrev Rm_cX7_move_0bb0f : Room := { frames := 1, cells := 0, slots := 0, locals := 29 }
abbrev B_cX7_move_0bb0f (D : va_G) (k : Nat → ClassId) (h0 h1 h2 : Nat) (x1 : Int32) (x3 : Int32) (x5 : Int32) (A : Nat → Prop) (H : Heap) : Prop := TP D A [(h0, aJ (k 1) 900 anJ), (h1, aJ (k 1) 9 anJ), (h2, aJ (k 1) 9 anJ)] H
set_option maxHeartbeats 4000000 in
set_option maxRecDepth 100000 in
theorem cX7_move_0bb0f (l : Launch) (D : va_G) (k : Nat → ClassId) (sz : Nat) (h0 h1 h2 : Nat) (x1 : Int32) (x3 : Int32) (x5 : Int32) (b_x1 : 0 ≤ x1.toInt ∧ x1.toInt ≤ 891) (b_x3 : 0 ≤ x3.toInt ∧ x3.toInt ≤ 0) (b_x5 : 1 ≤ x5.toInt ∧ x5.toInt ≤ 3) : Met l yX7_move (Cond.code yX7_move cX7_move 7 none :: uw) Rm_cX7_move_0bb0f (pT D k sz [.ref h0, .int x1, .ref h1, .int x3, .ref h2, .int x5] [(h0, aJ (k 1) 900 anJ), (h1, aJ (k 1) 9 anJ), (h2, aJ (k 1) 9 anJ)]) (qV (B_cX7_move_0bb0f D k h0 h1 h2 x1 x3 x5 (zA [h0, h1, h2] sz)) (zA [h0, h1, h2] sz)) 0 0 (zA [h0, h1, h2] sz) := by
  refine tz_begin (as := [h0, h1, h2]) (Qc := fun A => qV (B_cX7_move_0bb0f D k h0 h1 h2 x1 x3 x5 A) A) (by decide +kernel) rfl (Nat.le_of_ble_eq_true rfl) ?_
  intro p e s m args below meth c ls A Q hx hb hr hml hown hlocks hin hU hK hT hS hA hl hQ
  have hl : lv_has ls 7 [(0, .ref h0), (1, .int x1), (2, .ref h1), (3, .int x3), (4, .ref h2), (5, .int x5)] := hl
  have hT : TP D A [(h0, aJ (k 1) 900 anJ), (h1, aJ (k 1) 9 anJ), (h2, aJ (k 1) 9 anJ)] s.heap := hT
  refine lv_iconst (v := 0) hx hb dX7_move_0 (by decide) ?_
  refine lv_istore (lv' := [(6, .int 0), (0, .ref h0), (1, .int x1), (2, .ref h1), (3, .int x3), (4, .ref h2), (5, .int x5)]) hx hb dX7_move_1 hl (by decide) rfl (fun ls hl => ?_)
  have lp3_4 : ∀ (n : Nat) (y3 : Int32) (H : Heap) (locs : List Loc) (ls : Array Slot), (0 ≤ y3.toInt ∧ y3.toInt ≤ 3) → (x5.toInt + (-1) * y3.toInt + 1).toNat < n → TP D A [(h0, aJ (k 1) 900 anJ), (h1, aJ (k 1) 9 anJ), (h2, aJ (k 1) 9 anJ)] H → va_S A s.heap H locs → lv_has ls 7 [(0, .ref h0), (1, .int x1), (2, .ref h1), (3, .int x3), (4, .ref h2), (5, .int x5), (6, .int y3)] → W p l e Rm_cX7_move_0bb0f s m args below meth c H locs 0 0 Q (F0 m 3 ls []) := by
    intro n
    induction n with
    | zero => intro y3 H locs ls b_y3 hm hT hS hl; exact absurd hm (Nat.not_lt_zero _)
    | succ n ih =>
      intro y3 H locs ls b_y3 hm hT hS hl
      have ih3_4 := ih
      clear ih
      refine lv_iload hx hb dX7_move_3 (lv_at hl 6 rfl) ?_
      refine lv_iload hx hb dX7_move_5 (lv_at hl 5 rfl) ?_
      refine lv_icmp_ge (tgt := 38) hx hb dX7_move_7 (by decide) (fun c_5 => ?_) (fun c_5 => ?_)
      · skip
        have c_5 := ni_le c_5 rfl rfl
        exact tz_retV (B := B_cX7_move_0bb0f D k h0 h1 h2 x1 x3 x5) hQ hx hb hr hlocks hS (Nat.le_of_ble_eq_true rfl) (Nat.le_of_ble_eq_true rfl) dX7_move_38 (hT)
      · skip
        have c_5 := ni_nle c_5 rfl rfl
        refine lv_aload hx hb dX7_move_10 (lv_at hl 4 rfl) ?_
        refine lv_iload hx hb dX7_move_12 (lv_at hl 6 rfl) ?_
        refine lv_aload_n hx hb dX7_move_14 rfl (lv_at hl 0 rfl) ?_
        refine lv_iload_n hx hb dX7_move_15 rfl (lv_at hl 1 rfl) ?_
        refine lv_iload hx hb dX7_move_16 (lv_at hl 6 rfl) ?_
        refine lv_iload hx hb dX7_move_18 (lv_at hl 5 rfl) ?_
        refine lv_imul hx hb dX7_move_20 (lv_topi (fun v6 e_v6 => ?_))
        have e_v6 := ai_mm (la := 0) (ua := 2) (lb := 1) (ub := 3) e_v6 rfl rfl (by omega) (by decide)
        refine lv_iadd hx hb dX7_move_21 (lv_topi (fun v7 e_v7 => ?_))
        have e_v7 := ai_add e_v7 rfl rfl (by omega)
        refine lv_iconst (v := 1) hx hb dX7_move_22 (by decide) ?_
        refine lv_aload_n hx hb dX7_move_23 rfl (lv_at hl 2 rfl) ?_
        refine lv_iload_n hx hb dX7_move_24 rfl (lv_at hl 3 rfl) ?_
        refine lv_iconst (v := 1) hx hb dX7_move_25 (by decide) ?_
        refine lv_iload hx hb dX7_move_26 (lv_at hl 5 rfl) ?_
        refine tcL (Tc := [(h0, aJ (k 1) 900 anJ), (h1, aJ (k 1) 9 anJ)]) (Tr := [(h2, aJ (k 1) 9 anJ)]) (as := [h0, h1]) (zcS (As := [.ref h0, .int v7, .int 1, .ref h1, .int x3, .int 1, .int x5]) (rest := [.int y3, .ref h2]) (Tc := [(h0, aJ (k 1) 900 anJ), (h1, aJ (k 1) 9 anJ)]) hx hb hml hown hU hK hT [0, 1] rfl (by decide) (cX7_addUp_e71ca l D k _ h0 h1 v7 x3 x5 (by omega) (by omega) (by omega)) w366 w364 w365 w74 hdX7_addUp ⟨rfl, rfl⟩ ⟨Nat.le_of_ble_eq_true rfl, Nat.le_of_ble_eq_true rfl⟩ rfl hl.1 (Nat.le_of_ble_eq_true rfl) dX7_move_28 ⟨Nat.le_of_ble_eq_true rfl, Nat.le_of_ble_eq_true rfl⟩) hT hS hA [0, 1] [2] rfl rfl rfl (by decide) (by decide) (fun r8 H locs hB J hS => ?_)
        have hT1 := hB
        have hT := J _ hT1
        have hT : TP D A [(h2, aJ (k 1) 9 anJ), (h0, aJ (k 1) 900 anJ), (h1, aJ (k 1) 9 anJ)] H := hT
        refine tz_last hx hb hK hT hS 0 rfl (by omega) (fun _ _ => trivial) dX7_move_31 (fun H locs hT hS => ?_)
        obtain ⟨v9, e_v9⟩ : ∃ x : Int32, x = y3 + Int32.ofInt 1 := ⟨_, rfl⟩
        have f_v9 := e_v9.symm
        have e_v9 : v9.toInt = y3.toInt + 1 := ai_add e_v9 rfl (show (Int32.ofInt 1).toInt = 1 from (by decide +kernel)) (by omega)
        refine lv_iinc (v := v9) (lv' := [(6, .int v9), (0, .ref h0), (1, .int x1), (2, .ref h1), (3, .int x3), (4, .ref h2), (5, .int x5)]) hx hb dX7_move_32 hl (k := 6) rfl f_v9 (by decide) rfl (fun ls hl => ?_)
        refine lv_goto (tgt := 3) hx hb dX7_move_35 (by decide) ?_
        exact ih3_4 v9 _ _ _ (by omega)  (by omega) (hT.sub [1, 2, 0] (by decide) rfl) hS (lv_sub hl [1, 2, 3, 4, 5, 6, 0] rfl)
  exact lp3_4 ((x5.toInt + (-1) * (0 : Int32).toInt + 1).toNat + 1) (0) _ _ _ (by have := li_0; omega)  (Nat.lt_succ_self _) hT hS (lv_sub hl [1, 2, 3, 4, 5, 6, 0] rfl)
abbrev Rm_cX10_still_9bd98 : Room := { frames := 6, cells := 0, slots := 0, locals := 149 }
abbrev B_cX10_still_9bd98 (D : va_G) (k : Nat → ClassId) (h0 h1 h5 h8 h11 h12 h13 h21 h22 h23 h24 h25 h26 h27 h28 h2 h3 h4 h6 h7 h9 h10 : Nat) (x1 : Int32) (x2 : Int32) (x3 : Int32) (h0f2 : Int32) (h0f6 : Int32) (h0f8 : Int32) (h0f11 : Int32) (h1f0 : Int32) (h1f1 : Int32) (h1f2 : Int32) (h5f8 : Int32) (h5f9 : Int32) (h5f10 : Int32) (h5f11 : Int32) (h8f1 : Int32) (A : Nat → Prop) (r : Int32) (H : Heap) : Prop := ∃ o0 : Int32, ∃ o1 : Int32, ∃ o2 : Int32, ∃ o3 : Int32, ∃ o4 : Int32, ∃ o5 : Int32, (0 ≤ o0.toInt ∧ o0.toInt ≤ 1) ∧ (0 ≤ o1.toInt ∧ o1.toInt ≤ 9) ∧ (0 ≤ o2.toInt ∧ o2.toInt ≤ 100) ∧ (0 ≤ o3.toInt ∧ o3.toInt ≤ 100) ∧ (0 ≤ o4.toInt ∧ o4.toInt ≤ 1) ∧ (0 ≤ o5.toInt ∧ o5.toInt ≤ 7) ∧ TP D A [(h0, ob 7 [.ref h1, .ref h2, .int h0f2, .ref h3, .ref h4, .ref h5, .int o0, .ref h6, .int h0f8, .null, .ref h7, .int h0f11, .ref h8, .ref h9, .ref h10, .ref h11, .ref h12]), (h1, ob 4 [.int h1f0, .int h1f1, .int h1f2, .ref h13]), (h5, ob 3 [.ref h21, .ref h22, .ref h23, .ref h24, .ref h25, .ref h26, .ref h27, .ref h28, .int o1, .int o2, .int o3, .int o4]), (h8, ob 2 [.ref h1, .int o5]), (h11, aJ (k 1) 9 anJ), (h12, aJ (k 1) 9 anJ), (h13, aJ (k 1) 36 anJ), (h21, aJ (k 1) 900 anJ), (h22, aI (k 0) 100 anI), (h23, aI (k 0) 100 anI), (h24, aI (k 0) 100 anI), (h25, aI (k 0) 400 anI), (h26, aI (k 0) 256 (rgI (-1) 99)), (h27, aI (k 0) 100 (rgI (-1) 99)), (h28, aJ (k 1) 60 anJ)] H
set_option maxHeartbeats 4000000 in
set_option maxRecDepth 100000 in
theorem cX10_still_9bd98 (l : Launch) (D : va_G) (k : Nat → ClassId) (sz : Nat) (h0 h1 h5 h8 h11 h12 h13 h21 h22 h23 h24 h25 h26 h27 h28 h2 h3 h4 h6 h7 h9 h10 : Nat) (x1 : Int32) (x2 : Int32) (x3 : Int32) (h0f2 : Int32) (h0f6 : Int32) (h0f8 : Int32) (h0f11 : Int32) (h1f0 : Int32) (h1f1 : Int32) (h1f2 : Int32) (h5f8 : Int32) (h5f9 : Int32) (h5f10 : Int32) (h5f11 : Int32) (h8f1 : Int32) (b_h0f2 : 0 ≤ h0f2.toInt ∧ h0f2.toInt ≤ 1) (b_h0f6 : 0 ≤ h0f6.toInt ∧ h0f6.toInt ≤ 1) (b_h0f8 : 0 ≤ h0f8.toInt ∧ h0f8.toInt ≤ 1) (b_h0f11 : 0 ≤ h0f11.toInt ∧ h0f11.toInt ≤ 200) (b_h1f0 : 1 ≤ h1f0.toInt ∧ h1f0.toInt ≤ 3) (b_h1f1 : 0 ≤ h1f1.toInt ∧ h1f1.toInt ≤ 4) (b_h5f8 : 0 ≤ h5f8.toInt ∧ h5f8.toInt ≤ 9) (b_h5f9 : 0 ≤ h5f9.toInt ∧ h5f9.toInt ≤ 100) (b_h5f10 : 0 ≤ h5f10.toInt ∧ h5f10.toInt ≤ 100) (b_h5f11 : 0 ≤ h5f11.toInt ∧ h5f11.toInt ≤ 1) (b_h8f1 : 0 ≤ h8f1.toInt ∧ h8f1.toInt ≤ 7) : Met l yX10_still (Cond.code yX10_still cX10_still 6 (some .int) :: uw) Rm_cX10_still_9bd98 (pT D k sz [.ref h0, .int x1, .int x2, .int x3] [(h0, ob 7 [.ref h1, .ref h2, .int h0f2, .ref h3, .ref h4, .ref h5, .int h0f6, .ref h6, .int h0f8, .null, .ref h7, .int h0f11, .ref h8, .ref h9, .ref h10, .ref h11, .ref h12]), (h1, ob 4 [.int h1f0, .int h1f1, .int h1f2, .ref h13]), (h5, ob 3 [.ref h21, .ref h22, .ref h23, .ref h24, .ref h25, .ref h26, .ref h27, .ref h28, .int h5f8, .int h5f9, .int h5f10, .int h5f11]), (h8, ob 2 [.ref h1, .int h8f1]), (h11, aJ (k 1) 9 anJ), (h12, aJ (k 1) 9 anJ), (h13, aJ (k 1) 36 anJ), (h21, aJ (k 1) 900 anJ), (h22, aI (k 0) 100 anI), (h23, aI (k 0) 100 anI), (h24, aI (k 0) 100 anI), (h25, aI (k 0) 400 anI), (h26, aI (k 0) 256 (rgI (-1) 99)), (h27, aI (k 0) 100 (rgI (-1) 99)), (h28, aJ (k 1) 60 anJ)]) (qI (B_cX10_still_9bd98 D k h0 h1 h5 h8 h11 h12 h13 h21 h22 h23 h24 h25 h26 h27 h28 h2 h3 h4 h6 h7 h9 h10 x1 x2 x3 h0f2 h0f6 h0f8 h0f11 h1f0 h1f1 h1f2 h5f8 h5f9 h5f10 h5f11 h8f1 (zA [h0, h1, h5, h8, h11, h12, h13, h21, h22, h23, h24, h25, h26, h27, h28] sz)) (zA [h0, h1, h5, h8, h11, h12, h13, h21, h22, h23, h24, h25, h26, h27, h28] sz)) 0 0 (zA [h0, h1, h5, h8, h11, h12, h13, h21, h22, h23, h24, h25, h26, h27, h28] sz) := by
  refine tz_begin (as := [h0, h1, h5, h8, h11, h12, h13, h21, h22, h23, h24, h25, h26, h27, h28]) (Qc := fun A => qI (B_cX10_still_9bd98 D k h0 h1 h5 h8 h11 h12 h13 h21 h22 h23 h24 h25 h26 h27 h28 h2 h3 h4 h6 h7 h9 h10 x1 x2 x3 h0f2 h0f6 h0f8 h0f11 h1f0 h1f1 h1f2 h5f8 h5f9 h5f10 h5f11 h8f1 A) A) (by decide +kernel) rfl (Nat.le_of_ble_eq_true rfl) ?_
  intro p e s m args below meth c ls A Q hx hb hr hml hown hlocks hin hU hK hT hS hA hl hQ
  have hl : lv_has ls 6 [(0, .ref h0), (1, .int x1), (2, .int x2), (3, .int x3)] := hl
  have hT : TP D A [(h0, ob 7 [.ref h1, .ref h2, .int h0f2, .ref h3, .ref h4, .ref h5, .int h0f6, .ref h6, .int h0f8, .null, .ref h7, .int h0f11, .ref h8, .ref h9, .ref h10, .ref h11, .ref h12]), (h1, ob 4 [.int h1f0, .int h1f1, .int h1f2, .ref h13]), (h5, ob 3 [.ref h21, .ref h22, .ref h23, .ref h24, .ref h25, .ref h26, .ref h27, .ref h28, .int h5f8, .int h5f9, .int h5f10, .int h5f11]), (h8, ob 2 [.ref h1, .int h8f1]), (h11, aJ (k 1) 9 anJ), (h12, aJ (k 1) 9 anJ), (h13, aJ (k 1) 36 anJ), (h21, aJ (k 1) 900 anJ), (h22, aI (k 0) 100 anI), (h23, aI (k 0) 100 anI), (h24, aI (k 0) 100 anI), (h25, aI (k 0) 400 anI), (h26, aI (k 0) 256 (rgI (-1) 99)), (h27, aI (k 0) 100 (rgI (-1) 99)), (h28, aJ (k 1) 60 anJ)] s.heap := hT
  refine lv_iload_n hx hb dX10_still_0 rfl (lv_at hl 1 rfl) ?_
  refine lv_iload_n hx hb dX10_still_1 rfl (lv_at hl 2 rfl) ?_
  refine lv_iload_n hx hb dX10_still_2 rfl (lv_at hl 3 rfl) ?_
  refine tcI (Tc := []) (Tr := [(h0, ob 7 [.ref h1, .ref h2, .int h0f2, .ref h3, .ref h4, .ref h5, .int h0f6, .ref h6, .int h0f8, .null, .ref h7, .int h0f11, .ref h8, .ref h9, .ref h10, .ref h11, .ref h12]), (h1, ob 4 [.int h1f0, .int h1f1, .int h1f2, .ref h13]), (h5, ob 3 [.ref h21, .ref h22, .ref h23, .ref h24, .ref h25, .ref h26, .ref h27, .ref h28, .int h5f8, .int h5f9, .int h5f10, .int h5f11]), (h8, ob 2 [.ref h1, .int h8f1]), (h11, aJ (k 1) 9 anJ), (h12, aJ (k 1) 9 anJ), (h13, aJ (k 1) 36 anJ), (h21, aJ (k 1) 900 anJ), (h22, aI (k 0) 100 anI), (h23, aI (k 0) 100 anI), (h24, aI (k 0) 100 anI), (h25, aI (k 0) 400 anI), (h26, aI (k 0) 256 (rgI (-1) 99)), (h27, aI (k 0) 100 (rgI (-1) 99)), (h28, aJ (k 1) 60 anJ)]) (as := []) (zcS (As := [.int x1, .int x2, .int x3]) (rest := []) (Tc := []) hx hb hml hown hU hK hT [] rfl (by decide) (cX10_isStart_c203d l D k _ x1 x2 x3) w688 w686 w687 w63 hdX10_isStart ⟨rfl, rfl⟩ ⟨Nat.le_of_ble_eq_true rfl, Nat.le_of_ble_eq_true rfl⟩ rfl hl.1 (Nat.le_of_ble_eq_true rfl) dX10_still_3 ⟨Nat.le_of_ble_eq_true rfl, Nat.le_of_ble_eq_true rfl⟩) hT hS hA [] [0, 1, 2, 3, 4, 5, 6, 7, 8, 9, 10, 11, 12, 13, 14] rfl rfl rfl (by decide) (by decide) (fun r1 H locs hB J hS => ?_)
  obtain ⟨b_r1, hT1⟩ := hB
  have hT := J _ hT1
  have hT : TP D A [(h0, ob 7 [.ref h1, .ref h2, .int h0f2, .ref h3, .ref h4, .ref h5, .int h0f6, .ref h6, .int h0f8, .null, .ref h7, .int h0f11, .ref h8, .ref h9, .ref h10, .ref h11, .ref h12]), (h1, ob 4 [.int h1f0, .int h1f1, .int h1f2, .ref h13]), (h5, ob 3 [.ref h21, .ref h22, .ref h23, .ref h24, .ref h25, .ref h26, .ref h27, .ref h28, .int h5f8, .int h5f9, .int h5f10, .int h5f11]), (h8, ob 2 [.ref h1, .int h8f1]), (h11, aJ (k 1) 9 anJ), (h12, aJ (k 1) 9 anJ), (h13, aJ (k 1) 36 anJ), (h21, aJ (k 1) 900 anJ), (h22, aI (k 0) 100 anI), (h23, aI (k 0) 100 anI), (h24, aI (k 0) 100 anI), (h25, aI (k 0) 400 anI), (h26, aI (k 0) 256 (rgI (-1) 99)), (h27, aI (k 0) 100 (rgI (-1) 99)), (h28, aJ (k 1) 60 anJ)] H := hT
  refine lv_if_ne (tgt := 11) hx hb dX10_still_6 (by decide) (fun c_2 => ?_) (fun c_2 => ?_)
  · skip
    have c_2 := ni_ne c_2 rfl li_0
    refine lv_aload_n hx hb dX10_still_11 rfl (lv_at hl 0 rfl) ?_
    refine tcV (Tc := [(h0, ob 7 [.ref h1, .ref h2, .int h0f2, .ref h3, .ref h4, .ref h5, .int h0f6, .ref h6, .int h0f8, .null, .ref h7, .int h0f11, .ref h8, .ref h9, .ref h10, .ref h11, .ref h12]), (h1, ob 4 [.int h1f0, .int h1f1, .int h1f2, .ref h13]), (h5, ob 3 [.ref h21, .ref h22, .ref h23, .ref h24, .ref h25, .ref h26, .ref h27, .ref h28, .int h5f8, .int h5f9, .int h5f10, .int h5f11]), (h8, ob 2 [.ref h1, .int h8f1]), (h11, aJ (k 1) 9 anJ), (h13, aJ (k 1) 36 anJ), (h21, aJ (k 1) 900 anJ), (h22, aI (k 0) 100 anI), (h23, aI (k 0) 100 anI), (h24, aI (k 0) 100 anI), (h25, aI (k 0) 400 anI), (h26, aI (k 0) 256 (rgI (-1) 99)), (h27, aI (k 0) 100 (rgI (-1) 99)), (h28, aJ (k 1) 60 anJ)]) (Tr := [(h12, aJ (k 1) 9 anJ)]) (as := [h0, h1, h5, h8, h11, h13, h21, h22, h23, h24, h25, h26, h27, h28]) (zcV (q0 := 0) (ci := 7) (As := []) (rest := []) (Tc := [(h0, ob 7 [.ref h1, .ref h2, .int h0f2, .ref h3, .ref h4, .ref h5, .int h0f6, .ref h6, .int h0f8, .null, .ref h7, .int h0f11, .ref h8, .ref h9, .ref h10, .ref h11, .ref h12]), (h1, ob 4 [.int h1f0, .int h1f1, .int h1f2, .ref h13]), (h5, ob 3 [.ref h21, .ref h22, .ref h23, .ref h24, .ref h25, .ref h26, .ref h27, .ref h28, .int h5f8, .int h5f9, .int h5f10, .int h5f11]), (h8, ob 2 [.ref h1, .int h8f1]), (h11, aJ (k 1) 9 anJ), (h13, aJ (k 1) 36 anJ), (h21, aJ (k 1) 900 anJ), (h22, aI (k 0) 100 anI), (h23, aI (k 0) 100 anI), (h24, aI (k 0) 100 anI), (h25, aI (k 0) 400 anI), (h26, aI (k 0) 256 (rgI (-1) 99)), (h27, aI (k 0) 100 (rgI (-1) 99)), (h28, aJ (k 1) 60 anJ)]) hx hb hml hown hU hK hT rfl rfl [0, 1, 2, 3, 4, 6, 7, 8, 9, 10, 11, 12, 13, 14] rfl (by decide) (cX10_listAll_fe300 l D k _ h0 h1 h5 h8 h11 h13 h21 h22 h23 h24 h25 h26 h27 h28 h2 h3 h4 h6 h7 h9 h10 h12 h0f2 h0f6 h0f8 h0f11 h1f0 h1f1 h1f2 h5f8 h5f9 h5f10 h5f11 h8f1 (by omega) (by omega) (by omega) (by omega) (by omega) (by omega) (by omega) (by omega) (by omega) (by omega) (by omega)) w492 w489 w491 w10 w63 hdX10_listAll ⟨rfl, rfl⟩ ⟨Nat.le_of_ble_eq_true rfl, Nat.le_of_ble_eq_true rfl⟩ rfl hl.1 (Nat.le_of_ble_eq_true rfl) dX10_still_12 ⟨Nat.le_of_ble_eq_true rfl, Nat.le_of_ble_eq_true rfl⟩) hT hS hA [0, 1, 2, 3, 4, 6, 7, 8, 9, 10, 11, 12, 13, 14] [5] rfl rfl rfl (by decide) (by decide) (fun H locs hB J hS => ?_)
    obtain ⟨v4, v5, v6, v7, v8, v9, b_v4, b_v5, b_v6, b_v7, b_v8, b_v9, hT1⟩ := hB
    have hT := J _ hT1
    have hT : TP D A [(h12, aJ (k 1) 9 anJ), (h0, ob 7 [.ref h1, .ref h2, .int h0f2, .ref h3, .ref h4, .ref h5, .int v4, .ref h6, .int h0f8, .null, .ref h7, .int h0f11, .ref h8, .ref h9, .ref h10, .ref h11, .ref h12]), (h1, ob 4 [.int h1f0, .int h1f1, .int h1f2, .ref h13]), (h5, ob 3 [.ref h21, .ref h22, .ref h23, .ref h24, .ref h25, .ref h26, .ref h27, .ref h28, .int v5, .int v6, .int v7, .int v8]), (h8, ob 2 [.ref h1, .int v9]), (h11, aJ (k 1) 9 anJ), (h13, aJ (k 1) 36 anJ), (h21, aJ (k 1) 900 anJ), (h22, aI (k 0) 100 anI), (h23, aI (k 0) 100 anI), (h24, aI (k 0) 100 anI), (h25, aI (k 0) 400 anI), (h26, aI (k 0) 256 (rgI (-1) 99)), (h27, aI (k 0) 100 (rgI (-1) 99)), (h28, aJ (k 1) 60 anJ)] H := hT
    refine lv_aload_n hx hb dX10_still_15 rfl (lv_at hl 0 rfl) ?_
    refine lv_iload_n hx hb dX10_still_16 rfl (lv_at hl 1 rfl) ?_
    refine lv_iload_n hx hb dX10_still_17 rfl (lv_at hl 2 rfl) ?_
    refine lv_iload_n hx hb dX10_still_18 rfl (lv_at hl 3 rfl) ?_
    refine tcV (Tc := [(h0, ob 7 [.ref h1, .ref h2, .int h0f2, .ref h3, .ref h4, .ref h5, .int v4, .ref h6, .int h0f8, .null, .ref h7, .int h0f11, .ref h8, .ref h9, .ref h10, .ref h11, .ref h12]), (h11, aJ (k 1) 9 anJ)]) (Tr := [(h12, aJ (k 1) 9 anJ), (h1, ob 4 [.int h1f0, .int h1f1, .int h1f2, .ref h13]), (h5, ob 3 [.ref h21, .ref h22, .ref h23, .ref h24, .ref h25, .ref h26, .ref h27, .ref h28, .int v5, .int v6, .int v7, .int v8]), (h8, ob 2 [.ref h1, .int v9]), (h13, aJ (k 1) 36 anJ), (h21, aJ (k 1) 900 anJ), (h22, aI (k 0) 100 anI), (h23, aI (k 0) 100 anI), (h24, aI (k 0) 100 anI), (h25, aI (k 0) 400 anI), (h26, aI (k 0) 256 (rgI (-1) 99)), (h27, aI (k 0) 100 (rgI (-1) 99)), (h28, aJ (k 1) 60 anJ)]) (as := [h0, h11]) (zcV (q0 := 1) (ci := 7) (As := [.int x1, .int x2, .int x3]) (rest := []) (Tc := [(h0, ob 7 [.ref h1, .ref h2, .int h0f2, .ref h3, .ref h4, .ref h5, .int v4, .ref h6, .int h0f8, .null, .ref h7, .int h0f11, .ref h8, .ref h9, .ref h10, .ref h11, .ref h12]), (h11, aJ (k 1) 9 anJ)]) hx hb hml hown hU hK hT rfl rfl [1, 5] rfl (by decide) (cX10_setPoint_928ca l D k _ h0 h11 h1 h2 h3 h4 h5 h6 h7 h8 h9 h10 h12 x1 x2 x3 h0f2 v4 h0f8 h0f11 (by omega) (by omega) (by omega) (by omega)) w695 w692 w694 w24 w63 hdX10_setPoint ⟨rfl, rfl⟩ ⟨Nat.le_of_ble_eq_true rfl, Nat.le_of_ble_eq_true rfl⟩ rfl hl.1 (Nat.le_of_ble_eq_true rfl) dX10_still_19 ⟨Nat.le_of_ble_eq_true rfl, Nat.le_of_ble_eq_true rfl⟩) hT hS hA [1, 5] [0, 2, 3, 4, 6, 7, 8, 9, 10, 11, 12, 13, 14] rfl rfl rfl (by decide) (by decide) (fun H locs hB J hS => ?_)
    have hT1 := hB
    have hT := J _ hT1
    have hT : TP D A [(h12, aJ (k 1) 9 anJ), (h1, ob 4 [.int h1f0, .int h1f1, .int h1f2, .ref h13]), (h5, ob 3 [.ref h21, .ref h22, .ref h23, .ref h24, .ref h25, .ref h26, .ref h27, .ref h28, .int v5, .int v6, .int v7, .int v8]), (h8, ob 2 [.ref h1, .int v9]), (h13, aJ (k 1) 36 anJ), (h21, aJ (k 1) 900 anJ), (h22, aI (k 0) 100 anI), (h23, aI (k 0) 100 anI), (h24, aI (k 0) 100 anI), (h25, aI (k 0) 400 anI), (h26, aI (k 0) 256 (rgI (-1) 99)), (h27, aI (k 0) 100 (rgI (-1) 99)), (h28, aJ (k 1) 60 anJ), (h0, ob 7 [.ref h1, .ref h2, .int h0f2, .ref h3, .ref h4, .ref h5, .int v4, .ref h6, .int h0f8, .null, .ref h7, .int h0f11, .ref h8, .ref h9, .ref h10, .ref h11, .ref h12]), (h11, aJ (k 1) 9 anJ)] H := hT
    refine lv_iconst (v := 0) hx hb dX10_still_22 (by decide) ?_
    refine lv_istore (lv' := [(4, .int 0), (0, .ref h0), (1, .int x1), (2, .int x2), (3, .int x3)]) hx hb dX10_still_23 hl (by decide) rfl (fun ls hl => ?_)
    refine lv_iconst (v := 0) hx hb dX10_still_25 (by decide) ?_
    refine lv_istore (lv' := [(5, .int 0), (4, .int 0), (0, .ref h0), (1, .int x1), (2, .int x2), (3, .int x3)]) hx hb dX10_still_26 hl (by decide) rfl (fun ls hl => ?_)
    have lp28_69 : ∀ (n : Nat) (y67 : Int32) (y68 : Int32) (H : Heap) (locs : List Loc) (ls : Array Slot), (0 ≤ y67.toInt ∧ y67.toInt ≤ 100) → (v7.toInt + (-1) * y67.toInt + 1).toNat < n → TP D A [(h12, aJ (k 1) 9 anJ), (h1, ob 4 [.int h1f0, .int h1f1, .int h1f2, .ref h13]), (h5, ob 3 [.ref h21, .ref h22, .ref h23, .ref h24, .ref h25, .ref h26, .ref h27, .ref h28, .int v5, .int v6, .int v7, .int v8]), (h8, ob 2 [.ref h1, .int v9]), (h13, aJ (k 1) 36 anJ), (h21, aJ (k 1) 900 anJ), (h22, aI (k 0) 100 anI), (h23, aI (k 0) 100 anI), (h24, aI (k 0) 100 anI), (h25, aI (k 0) 400 anI), (h26, aI (k 0) 256 (rgI (-1) 99)), (h27, aI (k 0) 100 (rgI (-1) 99)), (h28, aJ (k 1) 60 anJ), (h0, ob 7 [.ref h1, .ref h2, .int h0f2, .ref h3, .ref h4, .ref h5, .int v4, .ref h6, .int h0f8, .null, .ref h7, .int h0f11, .ref h8, .ref h9, .ref h10, .ref h11, .ref h12]), (h11, aJ (k 1) 9 anJ)] H → va_S A s.heap H locs → lv_has ls 6 [(0, .ref h0), (4, .int y68), (5, .int y67)] → W p l e Rm_cX10_still_9bd98 s m args below meth c H locs 0 0 Q (F0 m 28 ls []) := by
      intro n
      induction n with
      | zero => intro y67 y68 H locs ls b_y67 hm hT hS hl; exact absurd hm (Nat.not_lt_zero _)
      | succ n ih =>
        intro y67 y68 H locs ls b_y67 hm hT hS hl
        have ih28_69 := ih
        clear ih
        refine lv_iload hx hb dX10_still_28 (lv_at hl 2 rfl) ?_
        refine lv_aload_n hx hb dX10_still_30 rfl (lv_at hl 0 rfl) ?_
        refine tz_get (ci := 7) (v := .ref h5) (C := RX10) (F := TX10) (N := 17) hx hb hU iX10 hown hK hT 13 rfl rfl 5 (by decide) w254 (fun _ h9 => h9) rfl dX10_still_31 ?_
        refine tz_get (ci := 3) (v := .int v7) (C := RX4) (F := TX4) (N := 12) hx hb hU iX4 hown hK hT 2 rfl rfl 10 (by decide) w166 (fun _ h9 => h9) rfl dX10_still_34 ?_
        refine lv_icmp_ge (tgt := 105) hx hb dX10_still_37 (by decide) (fun c_70 => ?_) (fun c_70 => ?_)
        · skip
          have c_70 := ni_le c_70 rfl rfl
          refine lv_iload hx hb dX10_still_105 (lv_at hl 1 rfl) ?_
          exact tz_retI (B := B_cX10_still_9bd98 D k h0 h1 h5 h8 h11 h12 h13 h21 h22 h23 h24 h25 h26 h27 h28 h2 h3 h4 h6 h7 h9 h10 x1 x2 x3 h0f2 h0f6 h0f8 h0f11 h1f0 h1f1 h1f2 h5f8 h5f9 h5f10 h5f11 h8f1) (v := y68) hQ hx hb hr hlocks hS (Nat.le_of_ble_eq_true rfl) (Nat.le_of_ble_eq_true rfl) dX10_still_107 (⟨v4, v5, v6, v7, v8, v9, (by omega), (by omega), (by omega), (by omega), (by omega), (by omega), (hT.sub [13, 1, 2, 3, 14, 0, 4, 5, 6, 7, 8, 9, 10, 11, 12] (by decide) rfl)⟩)
        · skip
          have c_70 := ni_nle c_70 rfl rfl
          refine lv_aload_n hx hb dX10_still_40 rfl (lv_at hl 0 rfl) ?_
          refine tz_get (ci := 7) (v := .ref h5) (C := RX10) (F := TX10) (N := 17) hx hb hU iX10 hown hK hT 13 rfl rfl 5 (by decide) w254 (fun _ h9 => h9) rfl dX10_still_41 ?_
          refine tz_get (ci := 3) (v := .ref h21) (C := RX4) (F := TX4) (N := 12) hx hb hU iX4 hown hK hT 2 rfl rfl 0 (by decide) w150 (fun _ h9 => h9) rfl dX10_still_44 ?_
          refine lv_aload_n hx hb dX10_still_47 rfl (lv_at hl 0 rfl) ?_
          refine tz_get (ci := 7) (v := .ref h5) (C := RX10) (F := TX10) (N := 17) hx hb hU iX10 hown hK hT 13 rfl rfl 5 (by decide) w254 (fun _ h9 => h9) rfl dX10_still_48 ?_
          refine lv_iload hx hb dX10_still_51 (lv_at hl 2 rfl) ?_
          refine tcI (Tc := [(h5, ob 3 [.ref h21, .ref h22, .ref h23, .ref h24, .ref h25, .ref h26, .ref h27, .ref h28, .int v5, .int v6, .int v7, .int v8])]) (Tr := [(h12, aJ (k 1) 9 anJ), (h1, ob 4 [.int h1f0, .int h1f1, .int h1f2, .ref h13]), (h8, ob 2 [.ref h1, .int v9]), (h13, aJ (k 1) 36 anJ), (h21, aJ (k 1) 900 anJ), (h22, aI (k 0) 100 anI), (h23, aI (k 0) 100 anI), (h24, aI (k 0) 100 anI), (h25, aI (k 0) 400 anI), (h26, aI (k 0) 256 (rgI (-1) 99)), (h27, aI (k 0) 100 (rgI (-1) 99)), (h28, aJ (k 1) 60 anJ), (h0, ob 7 [.ref h1, .ref h2, .int h0f2, .ref h3, .ref h4, .ref h5, .int v4, .ref h6, .int h0f8, .null, .ref h7, .int h0f11, .ref h8, .ref h9, .ref h10, .ref h11, .ref h12]), (h11, aJ (k 1) 9 anJ)]) (as := [h5]) (zcV (q0 := 2) (ci := 3) (As := [.int y67]) (rest := [.ref h21]) (Tc := [(h5, ob 3 [.ref h21, .ref h22, .ref h23, .ref h24, .ref h25, .ref h26, .ref h27, .ref h28, .int v5, .int v6, .int v7, .int v8])]) hx hb hml hown hU hK hT rfl rfl [2] rfl (by decide) (cX4_start_d01b0 l D k _ h5 h21 h22 h23 h24 h25 h26 h27 h28 y67 v5 v6 v7 v8 (by omega) (by omega) (by omega) (by omega) (by omega)) w505 w574 w503 w504 w66 hdX4_start ⟨rfl, rfl⟩ ⟨Nat.le_of_ble_eq_true rfl, Nat.le_of_ble_eq_true rfl⟩ rfl hl.1 (Nat.le_of_ble_eq_true rfl) dX10_still_53 ⟨Nat.le_of_ble_eq_true rfl, Nat.le_of_ble_eq_true rfl⟩) hT hS hA [2] [0, 1, 3, 4, 5, 6, 7, 8, 9, 10, 11, 12, 13, 14] rfl rfl rfl (by decide) (by decide) (fun r71 H locs hB J hS => ?_)
          obtain ⟨b_r71, hT1⟩ := hB
          have hT := J _ hT1
          have hT : TP D A [(h12, aJ (k 1) 9 anJ), (h1, ob 4 [.int h1f0, .int h1f1, .int h1f2, .ref h13]), (h8, ob 2 [.ref h1, .int v9]), (h13, aJ (k 1) 36 anJ), (h21, aJ (k 1) 900 anJ), (h22, aI (k 0) 100 anI), (h23, aI (k 0) 100 anI), (h24, aI (k 0) 100 anI), (h25, aI (k 0) 400 anI), (h26, aI (k 0) 256 (rgI (-1) 99)), (h27, aI (k 0) 100 (rgI (-1) 99)), (h28, aJ (k 1) 60 anJ), (h0, ob 7 [.ref h1, .ref h2, .int h0f2, .ref h3, .ref h4, .ref h5, .int v4, .ref h6, .int h0f8, .null, .ref h7, .int h0f11, .ref h8, .ref h9, .ref h10, .ref h11, .ref h12]), (h11, aJ (k 1) 9 anJ), (h5, ob 3 [.ref h21, .ref h22, .ref h23, .ref h24, .ref h25, .ref h26, .ref h27, .ref h28, .int v5, .int v6, .int v7, .int v8])] H := hT
          refine lv_aload_n hx hb dX10_still_56 rfl (lv_at hl 0 rfl) ?_
          refine tz_get (ci := 7) (v := .ref h11) (C := RX10) (F := TX10) (N := 17) hx hb hU iX10 hown hK hT 12 rfl rfl 15 (by decide) w264 (fun _ h9 => h9) rfl dX10_still_57 ?_
          refine lv_iconst (v := 0) hx hb dX10_still_60 (by decide) ?_
          refine lv_aload_n hx hb dX10_still_61 rfl (lv_at hl 0 rfl) ?_
          refine tz_get (ci := 7) (v := .ref h12) (C := RX10) (F := TX10) (N := 17) hx hb hU iX10 hown hK hT 12 rfl rfl 16 (by decide) w265 (fun _ h9 => h9) rfl dX10_still_62 ?_
          refine lv_aload_n hx hb dX10_still_65 rfl (lv_at hl 0 rfl) ?_
          refine tz_get (ci := 7) (v := .ref h1) (C := RX10) (F := TX10) (N := 17) hx hb hU iX10 hown hK hT 12 rfl rfl 0 (by decide) w249 (fun _ h9 => h9) rfl dX10_still_66 ?_
          refine tz_get (ci := 4) (v := .int h1f0) (C := RX5) (F := TX5) (N := 4) hx hb hU iX5 hown hK hT 1 rfl rfl 0 (by decide) w93 (fun _ h9 => h9) rfl dX10_still_69 ?_
          have q_q73 := li_0
          refine tcV (Tc := [(h21, aJ (k 1) 900 anJ), (h11, aJ (k 1) 9 anJ), (h12, aJ (k 1) 9 anJ)]) (Tr := [(h1, ob 4 [.int h1f0, .int h1f1, .int h1f2, .ref h13]), (h8, ob 2 [.ref h1, .int v9]), (h13, aJ (k 1) 36 anJ), (h22, aI (k 0) 100 anI), (h23, aI (k 0) 100 anI), (h24, aI (k 0) 100 anI), (h25, aI (k 0) 400 anI), (h26, aI (k 0) 256 (rgI (-1) 99)), (h27, aI (k 0) 100 (rgI (-1) 99)), (h28, aJ (k 1) 60 anJ), (h0, ob 7 [.ref h1, .ref h2, .int h0f2, .ref h3, .ref h4, .ref h5, .int v4, .ref h6, .int h0f8, .null, .ref h7, .int h0f11, .ref h8, .ref h9, .ref h10, .ref h11, .ref h12]), (h5, ob 3 [.ref h21, .ref h22, .ref h23, .ref h24, .ref h25, .ref h26, .ref h27, .ref h28, .int v5, .int v6, .int v7, .int v8])]) (as := [h21, h11, h12]) (zcS (As := [.ref h21, .int r71, .ref h11, .int 0, .ref h12, .int h1f0]) (rest := []) (Tc := [(h21, aJ (k 1) 900 anJ), (h11, aJ (k 1) 9 anJ), (h12, aJ (k 1) 9 anJ)]) hx hb hml hown hU hK hT [4, 13, 0] rfl (by decide) (cX7_move_0bb0f l D k _ h21 h11 h12 r71 (0) h1f0 (by omega) (by have := li_0; omega) (by omega)) w536 w712 w535 w74 hdX7_move ⟨rfl, rfl⟩ ⟨Nat.le_of_ble_eq_true rfl, Nat.le_of_ble_eq_true rfl⟩ rfl hl.1 (Nat.le_of_ble_eq_true rfl) dX10_still_72 ⟨Nat.le_of_ble_eq_true rfl, Nat.le_of_ble_eq_true rfl⟩) hT hS hA [4, 13, 0] [1, 2, 3, 5, 6, 7, 8, 9, 10, 11, 12, 14] rfl rfl rfl (by decide) (by decide) (fun H locs hB J hS => ?_)
          have hT1 := hB
          have hT := J _ hT1
          have hT : TP D A [(h1, ob 4 [.int h1f0, .int h1f1, .int h1f2, .ref h13]), (h8, ob 2 [.ref h1, .int v9]), (h13, aJ (k 1) 36 anJ), (h22, aI (k 0) 100 anI), (h23, aI (k 0) 100 anI), (h24, aI (k 0) 100 anI), (h25, aI (k 0) 400 anI), (h26, aI (k 0) 256 (rgI (-1) 99)), (h27, aI (k 0) 100 (rgI (-1) 99)), (h28, aJ (k 1) 60 anJ), (h0, ob 7 [.ref h1, .ref h2, .int h0f2, .ref h3, .ref h4, .ref h5, .int v4, .ref h6, .int h0f8, .null, .ref h7, .int h0f11, .ref h8, .ref h9, .ref h10, .ref h11, .ref h12]), (h5, ob 3 [.ref h21, .ref h22, .ref h23, .ref h24, .ref h25, .ref h26, .ref h27, .ref h28, .int v5, .int v6, .int v7, .int v8]), (h21, aJ (k 1) 900 anJ), (h11, aJ (k 1) 9 anJ), (h12, aJ (k 1) 9 anJ)] H := hT
          refine lv_aload_n hx hb dX10_still_75 rfl (lv_at hl 0 rfl) ?_
          refine tz_get (ci := 7) (v := .ref h11) (C := RX10) (F := TX10) (N := 17) hx hb hU iX10 hown hK hT 10 rfl rfl 15 (by decide) w264 (fun _ h9 => h9) rfl dX10_still_76 ?_
          refine lv_aload_n hx hb dX10_still_79 rfl (lv_at hl 0 rfl) ?_
          refine tz_get (ci := 7) (v := .ref h12) (C := RX10) (F := TX10) (N := 17) hx hb hU iX10 hown hK hT 10 rfl rfl 16 (by decide) w265 (fun _ h9 => h9) rfl dX10_still_80 ?_
          refine lv_aload_n hx hb dX10_still_83 rfl (lv_at hl 0 rfl) ?_
          refine tz_get (ci := 7) (v := .ref h1) (C := RX10) (F := TX10) (N := 17) hx hb hU iX10 hown hK hT 10 rfl rfl 0 (by decide) w249 (fun _ h9 => h9) rfl dX10_still_84 ?_
          refine tz_get (ci := 4) (v := .int h1f0) (C := RX5) (F := TX5) (N := 4) hx hb hU iX5 hown hK hT 0 rfl rfl 0 (by decide) w93 (fun _ h9 => h9) rfl dX10_still_87 ?_
          refine tcI (Tc := [(h11, aJ (k 1) 9 anJ), (h12, aJ (k 1) 9 anJ)]) (Tr := [(h1, ob 4 [.int h1f0, .int h1f1, .int h1f2, .ref h13]), (h8, ob 2 [.ref h1, .int v9]), (h13, aJ (k 1) 36 anJ), (h22, aI (k 0) 100 anI), (h23, aI (k 0) 100 anI), (h24, aI (k 0) 100 anI), (h25, aI (k 0) 400 anI), (h26, aI (k 0) 256 (rgI (-1) 99)), (h27, aI (k 0) 100 (rgI (-1) 99)), (h28, aJ (k 1) 60 anJ), (h0, ob 7 [.ref h1, .ref h2, .int h0f2, .ref h3, .ref h4, .ref h5, .int v4, .ref h6, .int h0f8, .null, .ref h7, .int h0f11, .ref h8, .ref h9, .ref h10, .ref h11, .ref h12]), (h5, ob 3 [.ref h21, .ref h22, .ref h23, .ref h24, .ref h25, .ref h26, .ref h27, .ref h28, .int v5, .int v6, .int v7, .int v8]), (h21, aJ (k 1) 900 anJ)]) (as := [h11, h12]) (zcS (As := [.ref h11, .ref h12, .int h1f0]) (rest := []) (Tc := [(h11, aJ (k 1) 9 anJ), (h12, aJ (k 1) 9 anJ)]) hx hb hml hown hU hK hT [13, 14] rfl (by decide) (cX7_areAlike_339bc l D k _ h11 h12 h1f0 (by omega)) w608 w606 w607 w74 hdX7_areAlike ⟨rfl, rfl⟩ ⟨Nat.le_of_ble_eq_true rfl, Nat.le_of_ble_eq_true rfl⟩ rfl hl.1 (Nat.le_of_ble_eq_true rfl) dX10_still_90 ⟨Nat.le_of_ble_eq_true rfl, Nat.le_of_ble_eq_true rfl⟩) hT hS hA [13, 14] [0, 1, 2, 3, 4, 5, 6, 7, 8, 9, 10, 11, 12] rfl rfl rfl (by decide) (by decide) (fun r74 H locs hB J hS => ?_)
          obtain ⟨b_r74, hT1⟩ := hB
          have hT := J _ hT1
          have hT : TP D A [(h1, ob 4 [.int h1f0, .int h1f1, .int h1f2, .ref h13]), (h8, ob 2 [.ref h1, .int v9]), (h13, aJ (k 1) 36 anJ), (h22, aI (k 0) 100 anI), (h23, aI (k 0) 100 anI), (h24, aI (k 0) 100 anI), (h25, aI (k 0) 400 anI), (h26, aI (k 0) 256 (rgI (-1) 99)), (h27, aI (k 0) 100 (rgI (-1) 99)), (h28, aJ (k 1) 60 anJ), (h0, ob 7 [.ref h1, .ref h2, .int h0f2, .ref h3, .ref h4, .ref h5, .int v4, .ref h6, .int h0f8, .null, .ref h7, .int h0f11, .ref h8, .ref h9, .ref h10, .ref h11, .ref h12]), (h5, ob 3 [.ref h21, .ref h22, .ref h23, .ref h24, .ref h25, .ref h26, .ref h27, .ref h28, .int v5, .int v6, .int v7, .int v8]), (h21, aJ (k 1) 900 anJ), (h11, aJ (k 1) 9 anJ), (h12, aJ (k 1) 9 anJ)] H := hT
          refine lv_if_eq (tgt := 99) hx hb dX10_still_93 (by decide) (fun c_75 => ?_) (fun c_75 => ?_)
          · skip
            have c_75 := ni_eq c_75 rfl li_0
            obtain ⟨v76, e_v76⟩ : ∃ x : Int32, x = y67 + Int32.ofInt 1 := ⟨_, rfl⟩
            have f_v76 := e_v76.symm
            have e_v76 : v76.toInt = y67.toInt + 1 := ai_add e_v76 rfl (show (Int32.ofInt 1).toInt = 1 from (by decide +kernel)) (by omega)
            refine lv_iinc (v := v76) (lv' := [(5, .int v76), (0, .ref h0), (4, .int y68)]) hx hb dX10_still_99 hl (k := 2) rfl f_v76 (by decide) rfl (fun ls hl => ?_)
            refine lv_goto (tgt := 28) hx hb dX10_still_102 (by decide) ?_
            exact ih28_69 v76 y68 _ _ _ (by omega)  (by omega) (hT.sub [14, 0, 11, 1, 2, 12, 3, 4, 5, 6, 7, 8, 9, 10, 13] (by decide) rfl) hS (lv_sub hl [1, 2, 0] rfl)
          · skip
            have c_75 := ni_ne c_75 rfl li_0
            obtain ⟨v77, e_v77⟩ : ∃ x : Int32, x = y68 + Int32.ofInt 1 := ⟨_, rfl⟩
            have f_v77 := e_v77.symm
            refine lv_iinc (v := v77) (lv' := [(4, .int v77), (0, .ref h0), (5, .int y67)]) hx hb dX10_still_96 hl (k := 1) rfl f_v77 (by decide) rfl (fun ls hl => ?_)
            obtain ⟨v78, e_v78⟩ : ∃ x : Int32, x = y67 + Int32.ofInt 1 := ⟨_, rfl⟩
            have f_v78 := e_v78.symm
            have e_v78 : v78.toInt = y67.toInt + 1 := ai_add e_v78 rfl (show (Int32.ofInt 1).toInt = 1 from (by decide +kernel)) (by omega)
            refine lv_iinc (v := v78) (lv' := [(5, .int v78), (4, .int v77), (0, .ref h0)]) hx hb dX10_still_99 hl (k := 2) rfl f_v78 (by decide) rfl (fun ls hl => ?_)
            refine lv_goto (tgt := 28) hx hb dX10_still_102 (by decide) ?_
            exact ih28_69 v78 v77 _ _ _ (by omega)  (by omega) (hT.sub [14, 0, 11, 1, 2, 12, 3, 4, 5, 6, 7, 8, 9, 10, 13] (by decide) rfl) hS (lv_sub hl [2, 1, 0] rfl)
    exact lp28_69 ((v7.toInt + (-1) * (0 : Int32).toInt + 1).toNat + 1) (0) (0) _ _ _ (by have := li_0; omega)  (Nat.lt_succ_self _) hT hS (lv_sub hl [2, 1, 0] rfl)
  · skip
    have c_2 := ni_eq c_2 rfl li_0
    refine lv_iconst (v := (-1)) hx hb dX10_still_9 (by decide) ?_
    exact tz_retI (B := B_cX10_still_9bd98 D k h0 h1 h5 h8 h11 h12 h13 h21 h22 h23 h24 h25 h26 h27 h28 h2 h3 h4 h6 h7 h9 h10 x1 x2 x3 h0f2 h0f6 h0f8 h0f11 h1f0 h1f1 h1f2 h5f8 h5f9 h5f10 h5f11 h8f1) (v := (-1)) hQ hx hb hr hlocks hS (Nat.le_of_ble_eq_true rfl) (Nat.le_of_ble_eq_true rfl) dX10_still_10 (⟨h0f6, h5f8, h5f9, h5f10, h5f11, h8f1, (by have := li_m1; omega), (by have := li_m1; omega), (by have := li_m1; omega), (by have := li_m1; omega), (by have := li_m1; omega), (by have := li_m1; omega), hT⟩)
abbrev Rm_cX10_still_7a603 : Room := { frames := 6, cells := 0, slots := 0, locals := 149 }
abbrev B_cX10_still_7a603 (D : va_G) (k : Nat → ClassId) (h0 h1 h5 h9 h12 h13 h14 h22 h23 h24 h25 h26 h27 h28 h29 h2 h3 h4 h6 h7 h8 h10 h11 : Nat) (x1 : Int32) (x2 : Int32) (x3 : Int32) (h0f2 : Int32) (h0f6 : Int32) (h0f8 : Int32) (h0f11 : Int32) (h1f0 : Int32) (h1f1 : Int32) (h1f2 : Int32) (h5f8 : Int32) (h5f9 : Int32) (h5f10 : Int32) (h5f11 : Int32) (h9f1 : Int32) (A : Nat → Prop) (r : Int32) (H : Heap) : Prop := ∃ o0 : Int32, ∃ o1 : Int32, ∃ o2 : Int32, ∃ o3 : Int32, ∃ o4 : Int32, ∃ o5 : Int32, (0 ≤ o0.toInt ∧ o0.toInt ≤ 1) ∧ (0 ≤ o1.toInt ∧ o1.toInt ≤ 9) ∧ (0 ≤ o2.toInt ∧ o2.toInt ≤ 100) ∧ (0 ≤ o3.toInt ∧ o3.toInt ≤ 100) ∧ (0 ≤ o4.toInt ∧ o4.toInt ≤ 1) ∧ (0 ≤ o5.toInt ∧ o5.toInt ≤ 7) ∧ TP D A [(h0, ob 7 [.ref h1, .ref h2, .int h0f2, .ref h3, .ref h4, .ref h5, .int o0, .ref h6, .int h0f8, .ref h7, .ref h8, .int h0f11, .ref h9, .ref h10, .ref h11, .ref h12, .ref h13]), (h1, ob 4 [.int h1f0, .int h1f1, .int h1f2, .ref h14]), (h5, ob 3 [.ref h22, .ref h23, .ref h24, .ref h25, .ref h26, .ref h27, .ref h28, .ref h29, .int o1, .int o2, .int o3, .int o4]), (h9, ob 2 [.ref h1, .int o5]), (h12, aJ (k 1) 9 anJ), (h13, aJ (k 1) 9 anJ), (h14, aJ (k 1) 36 anJ), (h22, aJ (k 1) 900 anJ), (h23, aI (k 0) 100 anI), (h24, aI (k 0) 100 anI), (h25, aI (k 0) 100 anI), (h26, aI (k 0) 400 anI), (h27, aI (k 0) 256 (rgI (-1) 99)), (h28, aI (k 0) 100 (rgI (-1) 99)), (h29, aJ (k 1) 60 anJ)] H
set_option maxHeartbeats 4000000 in
set_option maxRecDepth 100000 in
theorem cX10_still_7a603 (l : Launch) (D : va_G) (k : Nat → ClassId) (sz : Nat) (h0 h1 h5 h9 h12 h13 h14 h22 h23 h24 h25 h26 h27 h28 h29 h2 h3 h4 h6 h7 h8 h10 h11 : Nat) (x1 : Int32) (x2 : Int32) (x3 : Int32) (h0f2 : Int32) (h0f6 : Int32) (h0f8 : Int32) (h0f11 : Int32) (h1f0 : Int32) (h1f1 : Int32) (h1f2 : Int32) (h5f8 : Int32) (h5f9 : Int32) (h5f10 : Int32) (h5f11 : Int32) (h9f1 : Int32) (b_h0f2 : 0 ≤ h0f2.toInt ∧ h0f2.toInt ≤ 1) (b_h0f6 : 0 ≤ h0f6.toInt ∧ h0f6.toInt ≤ 1) (b_h0f8 : 0 ≤ h0f8.toInt ∧ h0f8.toInt ≤ 1) (b_h0f11 : 0 ≤ h0f11.toInt ∧ h0f11.toInt ≤ 200) (b_h1f0 : 1 ≤ h1f0.toInt ∧ h1f0.toInt ≤ 3) (b_h1f1 : 0 ≤ h1f1.toInt ∧ h1f1.toInt ≤ 4) (b_h5f8 : 0 ≤ h5f8.toInt ∧ h5f8.toInt ≤ 9) (b_h5f9 : 0 ≤ h5f9.toInt ∧ h5f9.toInt ≤ 100) (b_h5f10 : 0 ≤ h5f10.toInt ∧ h5f10.toInt ≤ 100) (b_h5f11 : 0 ≤ h5f11.toInt ∧ h5f11.toInt ≤ 1) (b_h9f1 : 0 ≤ h9f1.toInt ∧ h9f1.toInt ≤ 7) : Met l yX10_still (Cond.code yX10_still cX10_still 6 (some .int) :: uw) Rm_cX10_still_7a603 (pT D k sz [.ref h0, .int x1, .int x2, .int x3] [(h0, ob 7 [.ref h1, .ref h2, .int h0f2, .ref h3, .ref h4, .ref h5, .int h0f6, .ref h6, .int h0f8, .ref h7, .ref h8, .int h0f11, .ref h9, .ref h10, .ref h11, .ref h12, .ref h13]), (h1, ob 4 [.int h1f0, .int h1f1, .int h1f2, .ref h14]), (h5, ob 3 [.ref h22, .ref h23, .ref h24, .ref h25, .ref h26, .ref h27, .ref h28, .ref h29, .int h5f8, .int h5f9, .int h5f10, .int h5f11]), (h9, ob 2 [.ref h1, .int h9f1]), (h12, aJ (k 1) 9 anJ), (h13, aJ (k 1) 9 anJ), (h14, aJ (k 1) 36 anJ), (h22, aJ (k 1) 900 anJ), (h23, aI (k 0) 100 anI), (h24, aI (k 0) 100 anI), (h25, aI (k 0) 100 anI), (h26, aI (k 0) 400 anI), (h27, aI (k 0) 256 (rgI (-1) 99)), (h28, aI (k 0) 100 (rgI (-1) 99)), (h29, aJ (k 1) 60 anJ)]) (qI (B_cX10_still_7a603 D k h0 h1 h5 h9 h12 h13 h14 h22 h23 h24 h25 h26 h27 h28 h29 h2 h3 h4 h6 h7 h8 h10 h11 x1 x2 x3 h0f2 h0f6 h0f8 h0f11 h1f0 h1f1 h1f2 h5f8 h5f9 h5f10 h5f11 h9f1 (zA [h0, h1, h5, h9, h12, h13, h14, h22, h23, h24, h25, h26, h27, h28, h29] sz)) (zA [h0, h1, h5, h9, h12, h13, h14, h22, h23, h24, h25, h26, h27, h28, h29] sz)) 0 0 (zA [h0, h1, h5, h9, h12, h13, h14, h22, h23, h24, h25, h26, h27, h28, h29] sz) := by
  refine tz_begin (as := [h0, h1, h5, h9, h12, h13, h14, h22, h23, h24, h25, h26, h27, h28, h29]) (Qc := fun A => qI (B_cX10_still_7a603 D k h0 h1 h5 h9 h12 h13 h14 h22 h23 h24 h25 h26 h27 h28 h29 h2 h3 h4 h6 h7 h8 h10 h11 x1 x2 x3 h0f2 h0f6 h0f8 h0f11 h1f0 h1f1 h1f2 h5f8 h5f9 h5f10 h5f11 h9f1 A) A) (by decide +kernel) rfl (Nat.le_of_ble_eq_true rfl) ?_
  intro p e s m args below meth c ls A Q hx hb hr hml hown hlocks hin hU hK hT hS hA hl hQ
  have hl : lv_has ls 6 [(0, .ref h0), (1, .int x1), (2, .int x2), (3, .int x3)] := hl
  have hT : TP D A [(h0, ob 7 [.ref h1, .ref h2, .int h0f2, .ref h3, .ref h4, .ref h5, .int h0f6, .ref h6, .int h0f8, .ref h7, .ref h8, .int h0f11, .ref h9, .ref h10, .ref h11, .ref h12, .ref h13]), (h1, ob 4 [.int h1f0, .int h1f1, .int h1f2, .ref h14]), (h5, ob 3 [.ref h22, .ref h23, .ref h24, .ref h25, .ref h26, .ref h27, .ref h28, .ref h29, .int h5f8, .int h5f9, .int h5f10, .int h5f11]), (h9, ob 2 [.ref h1, .int h9f1]), (h12, aJ (k 1) 9 anJ), (h13, aJ (k 1) 9 anJ), (h14, aJ (k 1) 36 anJ), (h22, aJ (k 1) 900 anJ), (h23, aI (k 0) 100 anI), (h24, aI (k 0) 100 anI), (h25, aI (k 0) 100 anI), (h26, aI (k 0) 400 anI), (h27, aI (k 0) 256 (rgI (-1) 99)), (h28, aI (k 0) 100 (rgI (-1) 99)), (h29, aJ (k 1) 60 anJ)] s.heap := hT
  refine lv_iload_n hx hb dX10_still_0 rfl (lv_at hl 1 rfl) ?_
  refine lv_iload_n hx hb dX10_still_1 rfl (lv_at hl 2 rfl) ?_
  refine lv_iload_n hx hb dX10_still_2 rfl (lv_at hl 3 rfl) ?_
  refine tcI (Tc := []) (Tr := [(h0, ob 7 [.ref h1, .ref h2, .int h0f2, .ref h3, .ref h4, .ref h5, .int h0f6, .ref h6, .int h0f8, .ref h7, .ref h8, .int h0f11, .ref h9, .ref h10, .ref h11, .ref h12, .ref h13]), (h1, ob 4 [.int h1f0, .int h1f1, .int h1f2, .ref h14]), (h5, ob 3 [.ref h22, .ref h23, .ref h24, .ref h25, .ref h26, .ref h27, .ref h28, .ref h29, .int h5f8, .int h5f9, .int h5f10, .int h5f11]), (h9, ob 2 [.ref h1, .int h9f1]), (h12, aJ (k 1) 9 anJ), (h13, aJ (k 1) 9 anJ), (h14, aJ (k 1) 36 anJ), (h22, aJ (k 1) 900 anJ), (h23, aI (k 0) 100 anI), (h24, aI (k 0) 100 anI), (h25, aI (k 0) 100 anI), (h26, aI (k 0) 400 anI), (h27, aI (k 0) 256 (rgI (-1) 99)), (h28, aI (k 0) 100 (rgI (-1) 99)), (h29, aJ (k 1) 60 anJ)]) (as := []) (zcS (As := [.int x1, .int x2, .int x3]) (rest := []) (Tc := []) hx hb hml hown hU hK hT [] rfl (by decide) (cX10_isStart_c203d l D k _ x1 x2 x3) w688 w686 w687 w63 hdX10_isStart ⟨rfl, rfl⟩ ⟨Nat.le_of_ble_eq_true rfl, Nat.le_of_ble_eq_true rfl⟩ rfl hl.1 (Nat.le_of_ble_eq_true rfl) dX10_still_3 ⟨Nat.le_of_ble_eq_true rfl, Nat.le_of_ble_eq_true rfl⟩) hT hS hA [] [0, 1, 2, 3, 4, 5, 6, 7, 8, 9, 10, 11, 12, 13, 14] rfl rfl rfl (by decide) (by decide) (fun r1 H locs hB J hS => ?_)
  obtain ⟨b_r1, hT1⟩ := hB
  have hT := J _ hT1
  have hT : TP D A [(h0, ob 7 [.ref h1, .ref h2, .int h0f2, .ref h3, .ref h4, .ref h5, .int h0f6, .ref h6, .int h0f8, .ref h7, .ref h8, .int h0f11, .ref h9, .ref h10, .ref h11, .ref h12, .ref h13]), (h1, ob 4 [.int h1f0, .int h1f1, .int h1f2, .ref h14]), (h5, ob 3 [.ref h22, .ref h23, .ref h24, .ref h25, .ref h26, .ref h27, .ref h28, .ref h29, .int h5f8, .int h5f9, .int h5f10, .int h5f11]), (h9, ob 2 [.ref h1, .int h9f1]), (h12, aJ (k 1) 9 anJ), (h13, aJ (k 1) 9 anJ), (h14, aJ (k 1) 36 anJ), (h22, aJ (k 1) 900 anJ), (h23, aI (k 0) 100 anI), (h24, aI (k 0) 100 anI), (h25, aI (k 0) 100 anI), (h26, aI (k 0) 400 anI), (h27, aI (k 0) 256 (rgI (-1) 99)), (h28, aI (k 0) 100 (rgI (-1) 99)), (h29, aJ (k 1) 60 anJ)] H := hT
  refine lv_if_ne (tgt := 11) hx hb dX10_still_6 (by decide) (fun c_2 => ?_) (fun c_2 => ?_)
  · skip
    have c_2 := ni_ne c_2 rfl li_0
    refine lv_aload_n hx hb dX10_still_11 rfl (lv_at hl 0 rfl) ?_
    refine tcV (Tc := [(h0, ob 7 [.ref h1, .ref h2, .int h0f2, .ref h3, .ref h4, .ref h5, .int h0f6, .ref h6, .int h0f8, .ref h7, .ref h8, .int h0f11, .ref h9, .ref h10, .ref h11, .ref h12, .ref h13]), (h1, ob 4 [.int h1f0, .int h1f1, .int h1f2, .ref h14]), (h5, ob 3 [.ref h22, .ref h23, .ref h24, .ref h25, .ref h26, .ref h27, .ref h28, .ref h29, .int h5f8, .int h5f9, .int h5f10, .int h5f11]), (h9, ob 2 [.ref h1, .int h9f1]), (h12, aJ (k 1) 9 anJ), (h14, aJ (k 1) 36 anJ), (h22, aJ (k 1) 900 anJ), (h23, aI (k 0) 100 anI), (h24, aI (k 0) 100 anI), (h25, aI (k 0) 100 anI), (h26, aI (k 0) 400 anI), (h27, aI (k 0) 256 (rgI (-1) 99)), (h28, aI (k 0) 100 (rgI (-1) 99)), (h29, aJ (k 1) 60 anJ)]) (Tr := [(h13, aJ (k 1) 9 anJ)]) (as := [h0, h1, h5, h9, h12, h14, h22, h23, h24, h25, h26, h27, h28, h29]) (zcV (q0 := 0) (ci := 7) (As := []) (rest := []) (Tc := [(h0, ob 7 [.ref h1, .ref h2, .int h0f2, .ref h3, .ref h4, .ref h5, .int h0f6, .ref h6, .int h0f8, .ref h7, .ref h8, .int h0f11, .ref h9, .ref h10, .ref h11, .ref h12, .ref h13]), (h1, ob 4 [.int h1f0, .int h1f1, .int h1f2, .ref h14]), (h5, ob 3 [.ref h22, .ref h23, .ref h24, .ref h25, .ref h26, .ref h27, .ref h28, .ref h29, .int h5f8, .int h5f9, .int h5f10, .int h5f11]), (h9, ob 2 [.ref h1, .int h9f1]), (h12, aJ (k 1) 9 anJ), (h14, aJ (k 1) 36 anJ), (h22, aJ (k 1) 900 anJ), (h23, aI (k 0) 100 anI), (h24, aI (k 0) 100 anI), (h25, aI (k 0) 100 anI), (h26, aI (k 0) 400 anI), (h27, aI (k 0) 256 (rgI (-1) 99)), (h28, aI (k 0) 100 (rgI (-1) 99)), (h29, aJ (k 1) 60 anJ)]) hx hb hml hown hU hK hT rfl rfl [0, 1, 2, 3, 4, 6, 7, 8, 9, 10, 11, 12, 13, 14] rfl (by decide) (cX10_listAll_1b493 l D k _ h0 h1 h5 h9 h12 h14 h22 h23 h24 h25 h26 h27 h28 h29 h2 h3 h4 h6 h7 h8 h10 h11 h13 h0f2 h0f6 h0f8 h0f11 h1f0 h1f1 h1f2 h5f8 h5f9 h5f10 h5f11 h9f1 (by omega) (by omega) (by omega) (by omega) (by omega) (by omega) (by omega) (by omega) (by omega) (by omega) (by omega)) w492 w489 w491 w10 w63 hdX10_listAll ⟨rfl, rfl⟩ ⟨Nat.le_of_ble_eq_true rfl, Nat.le_of_ble_eq_true rfl⟩ rfl hl.1 (Nat.le_of_ble_eq_true rfl) dX10_still_12 ⟨Nat.le_of_ble_eq_true rfl, Nat.le_of_ble_eq_true rfl⟩) hT hS hA [0, 1, 2, 3, 4, 6, 7, 8, 9, 10, 11, 12, 13, 14] [5] rfl rfl rfl (by decide) (by decide) (fun H locs hB J hS => ?_)
    obtain ⟨v4, v5, v6, v7, v8, v9, b_v4, b_v5, b_v6, b_v7, b_v8, b_v9, hT1⟩ := hB
    have hT := J _ hT1
    have hT : TP D A [(h13, aJ (k 1) 9 anJ), (h0, ob 7 [.ref h1, .ref h2, .int h0f2, .ref h3, .ref h4, .ref h5, .int v4, .ref h6, .int h0f8, .ref h7, .ref h8, .int h0f11, .ref h9, .ref h10, .ref h11, .ref h12, .ref h13]), (h1, ob 4 [.int h1f0, .int h1f1, .int h1f2, .ref h14]), (h5, ob 3 [.ref h22, .ref h23, .ref h24, .ref h25, .ref h26, .ref h27, .ref h28, .ref h29, .int v5, .int v6, .int v7, .int v8]), (h9, ob 2 [.ref h1, .int v9]), (h12, aJ (k 1) 9 anJ), (h14, aJ (k 1) 36 anJ), (h22, aJ (k 1) 900 anJ), (h23, aI (k 0) 100 anI), (h24, aI (k 0) 100 anI), (h25, aI (k 0) 100 anI), (h26, aI (k 0) 400 anI), (h27, aI (k 0) 256 (rgI (-1) 99)), (h28, aI (k 0) 100 (rgI (-1) 99)), (h29, aJ (k 1) 60 anJ)] H := hT
    refine lv_aload_n hx hb dX10_still_15 rfl (lv_at hl 0 rfl) ?_
    refine lv_iload_n hx hb dX10_still_16 rfl (lv_at hl 1 rfl) ?_
    refine lv_iload_n hx hb dX10_still_17 rfl (lv_at hl 2 rfl) ?_
    refine lv_iload_n hx hb dX10_still_18 rfl (lv_at hl 3 rfl) ?_
    refine tcV (Tc := [(h0, ob 7 [.ref h1, .ref h2, .int h0f2, .ref h3, .ref h4, .ref h5, .int v4, .ref h6, .int h0f8, .ref h7, .ref h8, .int h0f11, .ref h9, .ref h10, .ref h11, .ref h12, .ref h13]), (h12, aJ (k 1) 9 anJ)]) (Tr := [(h13, aJ (k 1) 9 anJ), (h1, ob 4 [.int h1f0, .int h1f1, .int h1f2, .ref h14]), (h5, ob 3 [.ref h22, .ref h23, .ref h24, .ref h25, .ref h26, .ref h27, .ref h28, .ref h29, .int v5, .int v6, .int v7, .int v8]), (h9, ob 2 [.ref h1, .int v9]), (h14, aJ (k 1) 36 anJ), (h22, aJ (k 1) 900 anJ), (h23, aI (k 0) 100 anI), (h24, aI (k 0) 100 anI), (h25, aI (k 0) 100 anI), (h26, aI (k 0) 400 anI), (h27, aI (k 0) 256 (rgI (-1) 99)), (h28, aI (k 0) 100 (rgI (-1) 99)), (h29, aJ (k 1) 60 anJ)]) (as := [h0, h12]) (zcV (q0 := 1) (ci := 7) (As := [.int x1, .int x2, .int x3]) (rest := []) (Tc := [(h0, ob 7 [.ref h1, .ref h2, .int h0f2, .ref h3, .ref h4, .ref h5, .int v4, .ref h6, .int h0f8, .ref h7, .ref h8, .int h0f11, .ref h9, .ref h10, .ref h11, .ref h12, .ref h13]), (h12, aJ (k 1) 9 anJ)]) hx hb hml hown hU hK hT rfl rfl [1, 5] rfl (by decide) (cX10_setPoint_d1eb2 l D k _ h0 h12 h1 h2 h3 h4 h5 h6 h7 h8 h9 h10 h11 h13 x1 x2 x3 h0f2 v4 h0f8 h0f11 (by omega) (by omega) (by omega) (by omega)) w695 w692 w694 w24 w63 hdX10_setPoint ⟨rfl, rfl⟩ ⟨Nat.le_of_ble_eq_true rfl, Nat.le_of_ble_eq_true rfl⟩ rfl hl.1 (Nat.le_of_ble_eq_true rfl) dX10_still_19 ⟨Nat.le_of_ble_eq_true rfl, Nat.le_of_ble_eq_true rfl⟩) hT hS hA [1, 5] [0, 2, 3, 4, 6, 7, 8, 9, 10, 11, 12, 13, 14] rfl rfl rfl (by decide) (by decide) (fun H locs hB J hS => ?_)
    have hT1 := hB
    have hT := J _ hT1
    have hT : TP D A [(h13, aJ (k 1) 9 anJ), (h1, ob 4 [.int h1f0, .int h1f1, .int h1f2, .ref h14]), (h5, ob 3 [.ref h22, .ref h23, .ref h24, .ref h25, .ref h26, .ref h27, .ref h28, .ref h29, .int v5, .int v6, .int v7, .int v8]), (h9, ob 2 [.ref h1, .int v9]), (h14, aJ (k 1) 36 anJ), (h22, aJ (k 1) 900 anJ), (h23, aI (k 0) 100 anI), (h24, aI (k 0) 100 anI), (h25, aI (k 0) 100 anI), (h26, aI (k 0) 400 anI), (h27, aI (k 0) 256 (rgI (-1) 99)), (h28, aI (k 0) 100 (rgI (-1) 99)), (h29, aJ (k 1) 60 anJ), (h0, ob 7 [.ref h1, .ref h2, .int h0f2, .ref h3, .ref h4, .ref h5, .int v4, .ref h6, .int h0f8, .ref h7, .ref h8, .int h0f11, .ref h9, .ref h10, .ref h11, .ref h12, .ref h13]), (h12, aJ (k 1) 9 anJ)] H := hT
    refine lv_iconst (v := 0) hx hb dX10_still_22 (by decide) ?_
    refine lv_istore (lv' := [(4, .int 0), (0, .ref h0), (1, .int x1), (2, .int x2), (3, .int x3)]) hx hb dX10_still_23 hl (by decide) rfl (fun ls hl => ?_)
    refine lv_iconst (v := 0) hx hb dX10_still_25 (by decide) ?_
    refine lv_istore (lv' := [(5, .int 0), (4, .int 0), (0, .ref h0), (1, .int x1), (2, .int x2), (3, .int x3)]) hx hb dX10_still_26 hl (by decide) rfl (fun ls hl => ?_)
    have lp28_69 : ∀ (n : Nat) (y67 : Int32) (y68 : Int32) (H : Heap) (locs : List Loc) (ls : Array Slot), (0 ≤ y67.toInt ∧ y67.toInt ≤ 100) → (v7.toInt + (-1) * y67.toInt + 1).toNat < n → TP D A [(h13, aJ (k 1) 9 anJ), (h1, ob 4 [.int h1f0, .int h1f1, .int h1f2, .ref h14]), (h5, ob 3 [.ref h22, .ref h23, .ref h24, .ref h25, .ref h26, .ref h27, .ref h28, .ref h29, .int v5, .int v6, .int v7, .int v8]), (h9, ob 2 [.ref h1, .int v9]), (h14, aJ (k 1) 36 anJ), (h22, aJ (k 1) 900 anJ), (h23, aI (k 0) 100 anI), (h24, aI (k 0) 100 anI), (h25, aI (k 0) 100 anI), (h26, aI (k 0) 400 anI), (h27, aI (k 0) 256 (rgI (-1) 99)), (h28, aI (k 0) 100 (rgI (-1) 99)), (h29, aJ (k 1) 60 anJ), (h0, ob 7 [.ref h1, .ref h2, .int h0f2, .ref h3, .ref h4, .ref h5, .int v4, .ref h6, .int h0f8, .ref h7, .ref h8, .int h0f11, .ref h9, .ref h10, .ref h11, .ref h12, .ref h13]), (h12, aJ (k 1) 9 anJ)] H → va_S A s.heap H locs → lv_has ls 6 [(0, .ref h0), (4, .int y68), (5, .int y67)] → W p l e Rm_cX10_still_7a603 s m args below meth c H locs 0 0 Q (F0 m 28 ls []) := by
      intro n
      induction n with
      | zero => intro y67 y68 H locs ls b_y67 hm hT hS hl; exact absurd hm (Nat.not_lt_zero _)
      | succ n ih =>
        intro y67 y68 H locs ls b_y67 hm hT hS hl
        have ih28_69 := ih
        clear ih
        refine lv_iload hx hb dX10_still_28 (lv_at hl 2 rfl) ?_
        refine lv_aload_n hx hb dX10_still_30 rfl (lv_at hl 0 rfl) ?_
        refine tz_get (ci := 7) (v := .ref h5) (C := RX10) (F := TX10) (N := 17) hx hb hU iX10 hown hK hT 13 rfl rfl 5 (by decide) w254 (fun _ h9 => h9) rfl dX10_still_31 ?_
        refine tz_get (ci := 3) (v := .int v7) (C := RX4) (F := TX4) (N := 12) hx hb hU iX4 hown hK hT 2 rfl rfl 10 (by decide) w166 (fun _ h9 => h9) rfl dX10_still_34 ?_
        refine lv_icmp_ge (tgt := 105) hx hb dX10_still_37 (by decide) (fun c_70 => ?_) (fun c_70 => ?_)
        · skip
          have c_70 := ni_le c_70 rfl rfl
          refine lv_iload hx hb dX10_still_105 (lv_at hl 1 rfl) ?_
          exact tz_retI (B := B_cX10_still_7a603 D k h0 h1 h5 h9 h12 h13 h14 h22 h23 h24 h25 h26 h27 h28 h29 h2 h3 h4 h6 h7 h8 h10 h11 x1 x2 x3 h0f2 h0f6 h0f8 h0f11 h1f0 h1f1 h1f2 h5f8 h5f9 h5f10 h5f11 h9f1) (v := y68) hQ hx hb hr hlocks hS (Nat.le_of_ble_eq_true rfl) (Nat.le_of_ble_eq_true rfl) dX10_still_107 (⟨v4, v5, v6, v7, v8, v9, (by omega), (by omega), (by omega), (by omega), (by omega), (by omega), (hT.sub [13, 1, 2, 3, 14, 0, 4, 5, 6, 7, 8, 9, 10, 11, 12] (by decide) rfl)⟩)
        · skip
          have c_70 := ni_nle c_70 rfl rfl
          refine lv_aload_n hx hb dX10_still_40 rfl (lv_at hl 0 rfl) ?_
          refine tz_get (ci := 7) (v := .ref h5) (C := RX10) (F := TX10) (N := 17) hx hb hU iX10 hown hK hT 13 rfl rfl 5 (by decide) w254 (fun _ h9 => h9) rfl dX10_still_41 ?_
          refine tz_get (ci := 3) (v := .ref h22) (C := RX4) (F := TX4) (N := 12) hx hb hU iX4 hown hK hT 2 rfl rfl 0 (by decide) w150 (fun _ h9 => h9) rfl dX10_still_44 ?_
          refine lv_aload_n hx hb dX10_still_47 rfl (lv_at hl 0 rfl) ?_
          refine tz_get (ci := 7) (v := .ref h5) (C := RX10) (F := TX10) (N := 17) hx hb hU iX10 hown hK hT 13 rfl rfl 5 (by decide) w254 (fun _ h9 => h9) rfl dX10_still_48 ?_
          refine lv_iload hx hb dX10_still_51 (lv_at hl 2 rfl) ?_
          refine tcI (Tc := [(h5, ob 3 [.ref h22, .ref h23, .ref h24, .ref h25, .ref h26, .ref h27, .ref h28, .ref h29, .int v5, .int v6, .int v7, .int v8])]) (Tr := [(h13, aJ (k 1) 9 anJ), (h1, ob 4 [.int h1f0, .int h1f1, .int h1f2, .ref h14]), (h9, ob 2 [.ref h1, .int v9]), (h14, aJ (k 1) 36 anJ), (h22, aJ (k 1) 900 anJ), (h23, aI (k 0) 100 anI), (h24, aI (k 0) 100 anI), (h25, aI (k 0) 100 anI), (h26, aI (k 0) 400 anI), (h27, aI (k 0) 256 (rgI (-1) 99)), (h28, aI (k 0) 100 (rgI (-1) 99)), (h29, aJ (k 1) 60 anJ), (h0, ob 7 [.ref h1, .ref h2, .int h0f2, .ref h3, .ref h4, .ref h5, .int v4, .ref h6, .int h0f8, .ref h7, .ref h8, .int h0f11, .ref h9, .ref h10, .ref h11, .ref h12, .ref h13]), (h12, aJ (k 1) 9 anJ)]) (as := [h5]) (zcV (q0 := 2) (ci := 3) (As := [.int y67]) (rest := [.ref h22]) (Tc := [(h5, ob 3 [.ref h22, .ref h23, .ref h24, .ref h25, .ref h26, .ref h27, .ref h28, .ref h29, .int v5, .int v6, .int v7, .int v8])]) hx hb hml hown hU hK hT rfl rfl [2] rfl (by decide) (cX4_start_d01b0 l D k _ h5 h22 h23 h24 h25 h26 h27 h28 h29 y67 v5 v6 v7 v8 (by omega) (by omega) (by omega) (by omega) (by omega)) w505 w574 w503 w504 w66 hdX4_start ⟨rfl, rfl⟩ ⟨Nat.le_of_ble_eq_true rfl, Nat.le_of_ble_eq_true rfl⟩ rfl hl.1 (Nat.le_of_ble_eq_true rfl) dX10_still_53 ⟨Nat.le_of_ble_eq_true rfl, Nat.le_of_ble_eq_true rfl⟩) hT hS hA [2] [0, 1, 3, 4, 5, 6, 7, 8, 9, 10, 11, 12, 13, 14] rfl rfl rfl (by decide) (by decide) (fun r71 H locs hB J hS => ?_)
          obtain ⟨b_r71, hT1⟩ := hB
          have hT := J _ hT1
          have hT : TP D A [(h13, aJ (k 1) 9 anJ), (h1, ob 4 [.int h1f0, .int h1f1, .int h1f2, .ref h14]), (h9, ob 2 [.ref h1, .int v9]), (h14, aJ (k 1) 36 anJ), (h22, aJ (k 1) 900 anJ), (h23, aI (k 0) 100 anI), (h24, aI (k 0) 100 anI), (h25, aI (k 0) 100 anI), (h26, aI (k 0) 400 anI), (h27, aI (k 0) 256 (rgI (-1) 99)), (h28, aI (k 0) 100 (rgI (-1) 99)), (h29, aJ (k 1) 60 anJ), (h0, ob 7 [.ref h1, .ref h2, .int h0f2, .ref h3, .ref h4, .ref h5, .int v4, .ref h6, .int h0f8, .ref h7, .ref h8, .int h0f11, .ref h9, .ref h10, .ref h11, .ref h12, .ref h13]), (h12, aJ (k 1) 9 anJ), (h5, ob 3 [.ref h22, .ref h23, .ref h24, .ref h25, .ref h26, .ref h27, .ref h28, .ref h29, .int v5, .int v6, .int v7, .int v8])] H := hT
          refine lv_aload_n hx hb dX10_still_56 rfl (lv_at hl 0 rfl) ?_
          refine tz_get (ci := 7) (v := .ref h12) (C := RX10) (F := TX10) (N := 17) hx hb hU iX10 hown hK hT 12 rfl rfl 15 (by decide) w264 (fun _ h9 => h9) rfl dX10_still_57 ?_
          refine lv_iconst (v := 0) hx hb dX10_still_60 (by decide) ?_
          refine lv_aload_n hx hb dX10_still_61 rfl (lv_at hl 0 rfl) ?_
          refine tz_get (ci := 7) (v := .ref h13) (C := RX10) (F := TX10) (N := 17) hx hb hU iX10 hown hK hT 12 rfl rfl 16 (by decide) w265 (fun _ h9 => h9) rfl dX10_still_62 ?_
          refine lv_aload_n hx hb dX10_still_65 rfl (lv_at hl 0 rfl) ?_
          refine tz_get (ci := 7) (v := .ref h1) (C := RX10) (F := TX10) (N := 17) hx hb hU iX10 hown hK hT 12 rfl rfl 0 (by decide) w249 (fun _ h9 => h9) rfl dX10_still_66 ?_
          refine tz_get (ci := 4) (v := .int h1f0) (C := RX5) (F := TX5) (N := 4) hx hb hU iX5 hown hK hT 1 rfl rfl 0 (by decide) w93 (fun _ h9 => h9) rfl dX10_still_69 ?_
          have q_q73 := li_0
          refine tcV (Tc := [(h22, aJ (k 1) 900 anJ), (h12, aJ (k 1) 9 anJ), (h13, aJ (k 1) 9 anJ)]) (Tr := [(h1, ob 4 [.int h1f0, .int h1f1, .int h1f2, .ref h14]), (h9, ob 2 [.ref h1, .int v9]), (h14, aJ (k 1) 36 anJ), (h23, aI (k 0) 100 anI), (h24, aI (k 0) 100 anI), (h25, aI (k 0) 100 anI), (h26, aI (k 0) 400 anI), (h27, aI (k 0) 256 (rgI (-1) 99)), (h28, aI (k 0) 100 (rgI (-1) 99)), (h29, aJ (k 1) 60 anJ), (h0, ob 7 [.ref h1, .ref h2, .int h0f2, .ref h3, .ref h4, .ref h5, .int v4, .ref h6, .int h0f8, .ref h7, .ref h8, .int h0f11, .ref h9, .ref h10, .ref h11, .ref h12, .ref h13]), (h5, ob 3 [.ref h22, .ref h23, .ref h24, .ref h25, .ref h26, .ref h27, .ref h28, .ref h29, .int v5, .int v6, .int v7, .int v8])]) (as := [h22, h12, h13]) (zcS (As := [.ref h22, .int r71, .ref h12, .int 0, .ref h13, .int h1f0]) (rest := []) (Tc := [(h22, aJ (k 1) 900 anJ), (h12, aJ (k 1) 9 anJ), (h13, aJ (k 1) 9 anJ)]) hx hb hml hown hU hK hT [4, 13, 0] rfl (by decide) (cX7_move_0bb0f l D k _ h22 h12 h13 r71 (0) h1f0 (by omega) (by have := li_0; omega) (by omega)) w536 w712 w535 w74 hdX7_move ⟨rfl, rfl⟩ ⟨Nat.le_of_ble_eq_true rfl, Nat.le_of_ble_eq_true rfl⟩ rfl hl.1 (Nat.le_of_ble_eq_true rfl) dX10_still_72 ⟨Nat.le_of_ble_eq_true rfl, Nat.le_of_ble_eq_true rfl⟩) hT hS hA [4, 13, 0] [1, 2, 3, 5, 6, 7, 8, 9, 10, 11, 12, 14] rfl rfl rfl (by decide) (by decide) (fun H locs hB J hS => ?_)
          have hT1 := hB
          have hT := J _ hT1
          have hT : TP D A [(h1, ob 4 [.int h1f0, .int h1f1, .int h1f2, .ref h14]), (h9, ob 2 [.ref h1, .int v9]), (h14, aJ (k 1) 36 anJ), (h23, aI (k 0) 100 anI), (h24, aI (k 0) 100 anI), (h25, aI (k 0) 100 anI), (h26, aI (k 0) 400 anI), (h27, aI (k 0) 256 (rgI (-1) 99)), (h28, aI (k 0) 100 (rgI (-1) 99)), (h29, aJ (k 1) 60 anJ), (h0, ob 7 [.ref h1, .ref h2, .int h0f2, .ref h3, .ref h4, .ref h5, .int v4, .ref h6, .int h0f8, .ref h7, .ref h8, .int h0f11, .ref h9, .ref h10, .ref h11, .ref h12, .ref h13]), (h5, ob 3 [.ref h22, .ref h23, .ref h24, .ref h25, .ref h26, .ref h27, .ref h28, .ref h29, .int v5, .int v6, .int v7, .int v8]), (h22, aJ (k 1) 900 anJ), (h12, aJ (k 1) 9 anJ), (h13, aJ (k 1) 9 anJ)] H := hT
          refine lv_aload_n hx hb dX10_still_75 rfl (lv_at hl 0 rfl) ?_
          refine tz_get (ci := 7) (v := .ref h12) (C := RX10) (F := TX10) (N := 17) hx hb hU iX10 hown hK hT 10 rfl rfl 15 (by decide) w264 (fun _ h9 => h9) rfl dX10_still_76 ?_
          refine lv_aload_n hx hb dX10_still_79 rfl (lv_at hl 0 rfl) ?_
          refine tz_get (ci := 7) (v := .ref h13) (C := RX10) (F := TX10) (N := 17) hx hb hU iX10 hown hK hT 10 rfl rfl 16 (by decide) w265 (fun _ h9 => h9) rfl dX10_still_80 ?_
          refine lv_aload_n hx hb dX10_still_83 rfl (lv_at hl 0 rfl) ?_
          refine tz_get (ci := 7) (v := .ref h1) (C := RX10) (F := TX10) (N := 17) hx hb hU iX10 hown hK hT 10 rfl rfl 0 (by decide) w249 (fun _ h9 => h9) rfl dX10_still_84 ?_
          refine tz_get (ci := 4) (v := .int h1f0) (C := RX5) (F := TX5) (N := 4) hx hb hU iX5 hown hK hT 0 rfl rfl 0 (by decide) w93 (fun _ h9 => h9) rfl dX10_still_87 ?_
          refine tcI (Tc := [(h12, aJ (k 1) 9 anJ), (h13, aJ (k 1) 9 anJ)]) (Tr := [(h1, ob 4 [.int h1f0, .int h1f1, .int h1f2, .ref h14]), (h9, ob 2 [.ref h1, .int v9]), (h14, aJ (k 1) 36 anJ), (h23, aI (k 0) 100 anI), (h24, aI (k 0) 100 anI), (h25, aI (k 0) 100 anI), (h26, aI (k 0) 400 anI), (h27, aI (k 0) 256 (rgI (-1) 99)), (h28, aI (k 0) 100 (rgI (-1) 99)), (h29, aJ (k 1) 60 anJ), (h0, ob 7 [.ref h1, .ref h2, .int h0f2, .ref h3, .ref h4, .ref h5, .int v4, .ref h6, .int h0f8, .ref h7, .ref h8, .int h0f11, .ref h9, .ref h10, .ref h11, .ref h12, .ref h13]), (h5, ob 3 [.ref h22, .ref h23, .ref h24, .ref h25, .ref h26, .ref h27, .ref h28, .ref h29, .int v5, .int v6, .int v7, .int v8]), (h22, aJ (k 1) 900 anJ)]) (as := [h12, h13]) (zcS (As := [.ref h12, .ref h13, .int h1f0]) (rest := []) (Tc := [(h12, aJ (k 1) 9 anJ), (h13, aJ (k 1) 9 anJ)]) hx hb hml hown hU hK hT [13, 14] rfl (by decide) (cX7_areAlike_339bc l D k _ h12 h13 h1f0 (by omega)) w608 w606 w607 w74 hdX7_areAlike ⟨rfl, rfl⟩ ⟨Nat.le_of_ble_eq_true rfl, Nat.le_of_ble_eq_true rfl⟩ rfl hl.1 (Nat.le_of_ble_eq_true rfl) dX10_still_90 ⟨Nat.le_of_ble_eq_true rfl, Nat.le_of_ble_eq_true rfl⟩) hT hS hA [13, 14] [0, 1, 2, 3, 4, 5, 6, 7, 8, 9, 10, 11, 12] rfl rfl rfl (by decide) (by decide) (fun r74 H locs hB J hS => ?_)
          obtain ⟨b_r74, hT1⟩ := hB
          have hT := J _ hT1
          have hT : TP D A [(h1, ob 4 [.int h1f0, .int h1f1, .int h1f2, .ref h14]), (h9, ob 2 [.ref h1, .int v9]), (h14, aJ (k 1) 36 anJ), (h23, aI (k 0) 100 anI), (h24, aI (k 0) 100 anI), (h25, aI (k 0) 100 anI), (h26, aI (k 0) 400 anI), (h27, aI (k 0) 256 (rgI (-1) 99)), (h28, aI (k 0) 100 (rgI (-1) 99)), (h29, aJ (k 1) 60 anJ), (h0, ob 7 [.ref h1, .ref h2, .int h0f2, .ref h3, .ref h4, .ref h5, .int v4, .ref h6, .int h0f8, .ref h7, .ref h8, .int h0f11, .ref h9, .ref h10, .ref h11, .ref h12, .ref h13]), (h5, ob 3 [.ref h22, .ref h23, .ref h24, .ref h25, .ref h26, .ref h27, .ref h28, .ref h29, .int v5, .int v6, .int v7, .int v8]), (h22, aJ (k 1) 900 anJ), (h12, aJ (k 1) 9 anJ), (h13, aJ (k 1) 9 anJ)] H := hT
          refine lv_if_eq (tgt := 99) hx hb dX10_still_93 (by decide) (fun c_75 => ?_) (fun c_75 => ?_)
          · skip
            have c_75 := ni_eq c_75 rfl li_0
            obtain ⟨v76, e_v76⟩ : ∃ x : Int32, x = y67 + Int32.ofInt 1 := ⟨_, rfl⟩
            have f_v76 := e_v76.symm
            have e_v76 : v76.toInt = y67.toInt + 1 := ai_add e_v76 rfl (show (Int32.ofInt 1).toInt = 1 from (by decide +kernel)) (by omega)
            refine lv_iinc (v := v76) (lv' := [(5, .int v76), (0, .ref h0), (4, .int y68)]) hx hb dX10_still_99 hl (k := 2) rfl f_v76 (by decide) rfl (fun ls hl => ?_)
            refine lv_goto (tgt := 28) hx hb dX10_still_102 (by decide) ?_
            exact ih28_69 v76 y68 _ _ _ (by omega)  (by omega) (hT.sub [14, 0, 11, 1, 2, 12, 3, 4, 5, 6, 7, 8, 9, 10, 13] (by decide) rfl) hS (lv_sub hl [1, 2, 0] rfl)
          · skip
            have c_75 := ni_ne c_75 rfl li_0
            obtain ⟨v77, e_v77⟩ : ∃ x : Int32, x = y68 + Int32.ofInt 1 := ⟨_, rfl⟩
            have f_v77 := e_v77.symm
            refine lv_iinc (v := v77) (lv' := [(4, .int v77), (0, .ref h0), (5, .int y67)]) hx hb dX10_still_96 hl (k := 1) rfl f_v77 (by decide) rfl (fun ls hl => ?_)
            obtain ⟨v78, e_v78⟩ : ∃ x : Int32, x = y67 + Int32.ofInt 1 := ⟨_, rfl⟩
            have f_v78 := e_v78.symm
            have e_v78 : v78.toInt = y67.toInt + 1 := ai_add e_v78 rfl (show (Int32.ofInt 1).toInt = 1 from (by decide +kernel)) (by omega)
            refine lv_iinc (v := v78) (lv' := [(5, .int v78), (4, .int v77), (0, .ref h0)]) hx hb dX10_still_99 hl (k := 2) rfl f_v78 (by decide) rfl (fun ls hl => ?_)
            refine lv_goto (tgt := 28) hx hb dX10_still_102 (by decide) ?_
            exact ih28_69 v78 v77 _ _ _ (by omega)  (by omega) (hT.sub [14, 0, 11, 1, 2, 12, 3, 4, 5, 6, 7, 8, 9, 10, 13] (by decide) rfl) hS (lv_sub hl [2, 1, 0] rfl)
    exact lp28_69 ((v7.toInt + (-1) * (0 : Int32).toInt + 1).toNat + 1) (0) (0) _ _ _ (by have := li_0; omega)  (Nat.lt_succ_self _) hT hS (lv_sub hl [2, 1, 0] rfl)
  · skip
    have c_2 := ni_eq c_2 rfl li_0
    refine lv_iconst (v := (-1)) hx hb dX10_still_9 (by decide) ?_
    exact tz_retI (B := B_cX10_still_7a603 D k h0 h1 h5 h9 h12 h13 h14 h22 h23 h24 h25 h26 h27 h28 h29 h2 h3 h4 h6 h7 h8 h10 h11 x1 x2 x3 h0f2 h0f6 h0f8 h0f11 h1f0 h1f1 h1f2 h5f8 h5f9 h5f10 h5f11 h9f1) (v := (-1)) hQ hx hb hr hlocks hS (Nat.le_of_ble_eq_true rfl) (Nat.le_of_ble_eq_true rfl) dX10_still_10 (⟨h0f6, h5f8, h5f9, h5f10, h5f11, h9f1, (by have := li_m1; omega), (by have := li_m1; omega), (by have := li_m1; omega), (by have := li_m1; omega), (by have := li_m1; omega), (by have := li_m1; omega), hT⟩)
abbrev Rm_cX11_still_4b742 : Room := { frames := 3, cells := 0, slots := 0, locals := 70 }
abbrev B_cX11_still_4b742 (D : va_G) (k : Nat → ClassId) (h0 h1 h4 h5 h6 h10 h11 h12 h13 h2 h3 h7 h8 h9 h14 h15 h16 h17 h18 h19 h20 h21 : Nat) (x1 : Int32) (x2 : Int32) (x3 : Int32) (h0f0 : Int32) (h0f1 : Int32) (h0f2 : Int32) (h0f3 : Int32) (h0f4 : Int32) (h0f5 : Int32) (h0f8 : Int32) (h0f9 : Int32) (h0f17 : Int32) (h0f18 : Int32) (h0f19 : Int32) (h0f24 : Int32) (h0f25 : Int32) (h0f30 : Int32) (h0f31 : Int32) (A : Nat → Prop) (r : Int32) (H : Heap) : Prop := ∃ o0 : Int32, ∃ o1 : Int32, ∃ o2 : Int32, (0 ≤ o0.toInt ∧ o0.toInt ≤ 1) ∧ (0 ≤ o1.toInt ∧ o1.toInt ≤ 100) ∧ (0 ≤ o2.toInt ∧ o2.toInt ≤ 1) ∧ TP D A [(h0, ob 8 [.int h0f0, .int h0f1, .int h0f2, .int h0f3, .int h0f4, .int h0f5, .ref h1, .ref h2, .int h0f8, .int o0, .ref h3, .ref h4, .ref h5, .ref h6, .ref h7, .ref h8, .ref h9, .int h0f17, .int h0f18, .int h0f19, .ref h10, .ref h11, .ref h12, .ref h13, .int o1, .int o2, .ref h14, .ref h15, .ref h16, .ref h17, .int h0f30, .int h0f31, .ref h18, .ref h19, .ref h20, .ref h21]), (h1, aI (k 0) 36 anI), (h4, aJ (k 1) 9 anJ), (h5, aJ (k 1) 9 anJ), (h6, aJ (k 1) 9 anJ), (h10, aJ (k 1) 900 anJ), (h11, aI (k 0) 100 anI), (h12, aI (k 0) 100 anI), (h13, aI (k 0) 100 anI)] H
set_option maxHeartbeats 4000000 in
set_option maxRecDepth 100000 in
theorem cX11_still_4b742 (l : Launch) (D : va_G) (k : Nat → ClassId) (sz : Nat) (h0 h1 h4 h5 h6 h10 h11 h12 h13 h2 h3 h7 h8 h9 h14 h15 h16 h17 h18 h19 h20 h21 : Nat) (x1 : Int32) (x2 : Int32) (x3 : Int32) (h0f0 : Int32) (h0f1 : Int32) (h0f2 : Int32) (h0f3 : Int32) (h0f4 : Int32) (h0f5 : Int32) (h0f8 : Int32) (h0f9 : Int32) (h0f17 : Int32) (h0f18 : Int32) (h0f19 : Int32) (h0f24 : Int32) (h0f25 : Int32) (h0f30 : Int32) (h0f31 : Int32) (b_h0f0 : 1 ≤ h0f0.toInt ∧ h0f0.toInt ≤ 3) (b_h0f1 : 0 ≤ h0f1.toInt ∧ h0f1.toInt ≤ 4) (b_h0f3 : 0 ≤ h0f3.toInt ∧ h0f3.toInt ≤ 3) (b_h0f4 : 0 ≤ h0f4.toInt ∧ h0f4.toInt ≤ 4) (b_h0f8 : 0 ≤ h0f8.toInt ∧ h0f8.toInt ≤ 1) (b_h0f9 : 0 ≤ h0f9.toInt ∧ h0f9.toInt ≤ 1) (b_h0f17 : 0 ≤ h0f17.toInt ∧ h0f17.toInt ≤ 120) (b_h0f18 : 0 ≤ h0f18.toInt ∧ h0f18.toInt ≤ 120) (b_h0f19 : 0 ≤ h0f19.toInt ∧ h0f19.toInt ≤ 4) (b_h0f24 : 0 ≤ h0f24.toInt ∧ h0f24.toInt ≤ 100) (b_h0f25 : 0 ≤ h0f25.toInt ∧ h0f25.toInt ≤ 1) (b_h0f30 : 0 ≤ h0f30.toInt ∧ h0f30.toInt ≤ 60) (b_h0f31 : 0 ≤ h0f31.toInt ∧ h0f31.toInt ≤ 1) : Met l yX11_still (Cond.code yX11_still cX11_still 11 (some .int) :: uw) Rm_cX11_still_4b742 (pT D k sz [.ref h0, .int x1, .int x2, .int x3] [(h0, ob 8 [.int h0f0, .int h0f1, .int h0f2, .int h0f3, .int h0f4, .int h0f5, .ref h1, .ref h2, .int h0f8, .int h0f9, .ref h3, .ref h4, .ref h5, .ref h6, .ref h7, .ref h8, .ref h9, .int h0f17, .int h0f18, .int h0f19, .ref h10, .ref h11, .ref h12, .ref h13, .int h0f24, .int h0f25, .ref h14, .ref h15, .ref h16, .ref h17, .int h0f30, .int h0f31, .ref h18, .ref h19, .ref h20, .ref h21]), (h1, aI (k 0) 36 anI), (h4, aJ (k 1) 9 anJ), (h5, aJ (k 1) 9 anJ), (h6, aJ (k 1) 9 anJ), (h10, aJ (k 1) 900 anJ), (h11, aI (k 0) 100 anI), (h12, aI (k 0) 100 anI), (h13, aI (k 0) 100 anI)]) (qI (B_cX11_still_4b742 D k h0 h1 h4 h5 h6 h10 h11 h12 h13 h2 h3 h7 h8 h9 h14 h15 h16 h17 h18 h19 h20 h21 x1 x2 x3 h0f0 h0f1 h0f2 h0f3 h0f4 h0f5 h0f8 h0f9 h0f17 h0f18 h0f19 h0f24 h0f25 h0f30 h0f31 (zA [h0, h1, h4, h5, h6, h10, h11, h12, h13] sz)) (zA [h0, h1, h4, h5, h6, h10, h11, h12, h13] sz)) 0 0 (zA [h0, h1, h4, h5, h6, h10, h11, h12, h13] sz) := by
  refine tz_begin (as := [h0, h1, h4, h5, h6, h10, h11, h12, h13]) (Qc := fun A => qI (B_cX11_still_4b742 D k h0 h1 h4 h5 h6 h10 h11 h12 h13 h2 h3 h7 h8 h9 h14 h15 h16 h17 h18 h19 h20 h21 x1 x2 x3 h0f0 h0f1 h0f2 h0f3 h0f4 h0f5 h0f8 h0f9 h0f17 h0f18 h0f19 h0f24 h0f25 h0f30 h0f31 A) A) (by decide +kernel) rfl (Nat.le_of_ble_eq_true rfl) ?_
  intro p e s m args below meth c ls A Q hx hb hr hml hown hlocks hin hU hK hT hS hA hl hQ
  have hl : lv_has ls 11 [(0, .ref h0), (1, .int x1), (2, .int x2), (3, .int x3)] := hl
  have hT : TP D A [(h0, ob 8 [.int h0f0, .int h0f1, .int h0f2, .int h0f3, .int h0f4, .int h0f5, .ref h1, .ref h2, .int h0f8, .int h0f9, .ref h3, .ref h4, .ref h5, .ref h6, .ref h7, .ref h8, .ref h9, .int h0f17, .int h0f18, .int h0f19, .ref h10, .ref h11, .ref h12, .ref h13, .int h0f24, .int h0f25, .ref h14, .ref h15, .ref h16, .ref h17, .int h0f30, .int h0f31, .ref h18, .ref h19, .ref h20, .ref h21]), (h1, aI (k 0) 36 anI), (h4, aJ (k 1) 9 anJ), (h5, aJ (k 1) 9 anJ), (h6, aJ (k 1) 9 anJ), (h10, aJ (k 1) 900 anJ), (h11, aI (k 0) 100 anI), (h12, aI (k 0) 100 anI), (h13, aI (k 0) 100 anI)] s.heap := hT
  have lp53_223 : ∀ (n : Nat) (y216 : Int32) (y217 : Int32) (y218 : Int64) (y219 : Int64) (y220 : Int32) (y221 : Int32) (y222 : Int32) (H : Heap) (locs : List Loc) (ls : Array Slot), (0 ≤ y216.toInt ∧ y216.toInt ≤ 100) → ((-2147483648) ≤ y218.toInt ∧ y218.toInt ≤ 2147483647) → ((-2147483648) ≤ y219.toInt ∧ y219.toInt ≤ 2147483647) → (1 ≤ y220.toInt ∧ y220.toInt ≤ 1) → (0 ≤ y221.toInt ∧ y221.toInt ≤ 100) → (0 ≤ y222.toInt ∧ y222.toInt ≤ 1) → (y221.toInt + (-1) * y216.toInt + 1).toNat < n → TP D A [(h0, ob 8 [.int h0f0, .int h0f1, .int h0f2, .int h0f3, .int h0f4, .int h0f5, .ref h1, .ref h2, .int h0f8, .int y220, .ref h3, .ref h4, .ref h5, .ref h6, .ref h7, .ref h8, .ref h9, .int h0f17, .int h0f18, .int h0f19, .ref h10, .ref h11, .ref h12, .ref h13, .int y221, .int y222, .ref h14, .ref h15, .ref h16, .ref h17, .int h0f30, .int h0f31, .ref h18, .ref h19, .ref h20, .ref h21]), (h1, aI (k 0) 36 anI), (h4, aJ (k 1) 9 anJ), (h5, aJ (k 1) 9 anJ), (h6, aJ (k 1) 9 anJ), (h10, aJ (k 1) 900 anJ), (h11, aI (k 0) 100 anI), (h12, aI (k 0) 100 anI), (h13, aI (k 0) 100 anI)] H → va_S A s.heap H locs → lv_has ls 11 [(0, .ref h0), (1, .int x1), (4, .long y219), (6, .long y218), (8, .int y217), (9, .int y216)] → W p l e Rm_cX11_still_4b742 s m args below meth c H locs 0 0 Q (F0 m 53 ls []) := by
    intro n
    induction n with
    | zero => intro y216 y217 y218 y219 y220 y221 y222 H locs ls b_y216 b_y218 b_y219 b_y220 b_y221 b_y222 hm hT hS hl; exact absurd hm (Nat.not_lt_zero _)
    | succ n ih =>
      intro y216 y217 y218 y219 y220 y221 y222 H locs ls b_y216 b_y218 b_y219 b_y220 b_y221 b_y222 hm hT hS hl
      have ih53_223 := ih
      clear ih
      refine lv_iload hx hb dX11_still_53 (lv_at hl 5 rfl) ?_
      refine lv_aload_n hx hb dX11_still_55 rfl (lv_at hl 0 rfl) ?_
      refine tz_get (ci := 8) (v := .int y221) (C := RX11) (F := TX11) (N := 36) hx hb hU iX11 hown hK hT 0 rfl rfl 24 (by decide) w809 (fun _ h9 => h9) rfl dX11_still_56 ?_
      refine lv_icmp_ge (tgt := 232) hx hb dX11_still_59 (by decide) (fun c_224 => ?_) (fun c_224 => ?_)
      · skip
        have c_224 := ni_le c_224 rfl rfl
        refine lv_iload hx hb dX11_still_232 (lv_at hl 4 rfl) ?_
        exact tz_retI (B := B_cX11_still_4b742 D k h0 h1 h4 h5 h6 h10 h11 h12 h13 h2 h3 h7 h8 h9 h14 h15 h16 h17 h18 h19 h20 h21 x1 x2 x3 h0f0 h0f1 h0f2 h0f3 h0f4 h0f5 h0f8 h0f9 h0f17 h0f18 h0f19 h0f24 h0f25 h0f30 h0f31) (v := y217) hQ hx hb hr hlocks hS (Nat.le_of_ble_eq_true rfl) (Nat.le_of_ble_eq_true rfl) dX11_still_234 (⟨y220, y221, y222, (by omega), (by omega), (by omega), hT⟩)
      · skip
        have c_224 := ni_nle c_224 rfl rfl
        refine lv_aload_n hx hb dX11_still_62 rfl (lv_at hl 0 rfl) ?_
        refine lv_iload hx hb dX11_still_63 (lv_at hl 5 rfl) ?_
        refine lv_aload_n hx hb dX11_still_65 rfl (lv_at hl 0 rfl) ?_
        refine tz_get (ci := 8) (v := .ref h4) (C := RX11) (F := TX11) (N := 36) hx hb hU iX11 hown hK hT 0 rfl rfl 11 (by decide) w796 (fun _ h9 => h9) rfl dX11_still_66 ?_
        refine tcV (Tc := [(h0, ob 8 [.int h0f0, .int h0f1, .int h0f2, .int h0f3, .int h0f4, .int h0f5, .ref h1, .ref h2, .int h0f8, .int y220, .ref h3, .ref h4, .ref h5, .ref h6, .ref h7, .ref h8, .ref h9, .int h0f17, .int h0f18, .int h0f19, .ref h10, .ref h11, .ref h12, .ref h13, .int y221, .int y222, .ref h14, .ref h15, .ref h16, .ref h17, .int h0f30, .int h0f31, .ref h18, .ref h19, .ref h20, .ref h21]), (h4, aJ (k 1) 9 anJ), (h10, aJ (k 1) 900 anJ)]) (Tr := [(h1, aI (k 0) 36 anI), (h5, aJ (k 1) 9 anJ), (h6, aJ (k 1) 9 anJ), (h11, aI (k 0) 100 anI), (h12, aI (k 0) 100 anI), (h13, aI (k 0) 100 anI)]) (as := [h0, h4, h10]) (zcV (q0 := 0) (ci := 8) (As := [.int y216, .ref h4]) (rest := []) (Tc := [(h0, ob 8 [.int h0f0, .int h0f1, .int h0f2, .int h0f3, .int h0f4, .int h0f5, .ref h1, .ref h2, .int h0f8, .int y220, .ref h3, .ref h4, .ref h5, .ref h6, .ref h7, .ref h8, .ref h9, .int h0f17, .int h0f18, .int h0f19, .ref h10, .ref h11, .ref h12, .ref h13, .int y221, .int y222, .ref h14, .ref h15, .ref h16, .ref h17, .int h0f30, .int h0f31, .ref h18, .ref h19, .ref h20, .ref h21]), (h4, aJ (k 1) 9 anJ), (h10, aJ (k 1) 900 anJ)]) hx hb hml hown hU hK hT rfl rfl [0, 2, 5] rfl (by decide) (cX11_takesElement_537ef l D k _ h0 h4 h10 h1 h2 h3 h5 h6 h7 h8 h9 h11 h12 h13 h14 h15 h16 h17 h18 h19 h20 h21 y216 h0f0 h0f1 h0f2 h0f3 h0f4 h0f5 h0f8 y220 h0f17 h0f18 h0f19 y221 y222 h0f30 h0f31 (by omega) (by omega) (by omega) (by omega) (by omega) (by omega) (by omega) (by omega) (by omega) (by omega) (by omega) (by omega) (by omega) (by omega)) w1047 w1044 w1046 w49 w72 hdX11_takesElement ⟨rfl, rfl⟩ ⟨Nat.le_of_ble_eq_true rfl, Nat.le_of_ble_eq_true rfl⟩ rfl hl.1 (Nat.le_of_ble_eq_true rfl) dX11_still_69 ⟨Nat.le_of_ble_eq_true rfl, Nat.le_of_ble_eq_true rfl⟩) hT hS hA [0, 2, 5] [1, 3, 4, 6, 7, 8] rfl rfl rfl (by decide) (by decide) (fun H locs hB J hS => ?_)
        have hT1 := hB
        have hT := J _ hT1
        have hT : TP D A [(h1, aI (k 0) 36 anI), (h5, aJ (k 1) 9 anJ), (h6, aJ (k 1) 9 anJ), (h11, aI (k 0) 100 anI), (h12, aI (k 0) 100 anI), (h13, aI (k 0) 100 anI), (h0, ob 8 [.int h0f0, .int h0f1, .int h0f2, .int h0f3, .int h0f4, .int h0f5, .ref h1, .ref h2, .int h0f8, .int y220, .ref h3, .ref h4, .ref h5, .ref h6, .ref h7, .ref h8, .ref h9, .int h0f17, .int h0f18, .int h0f19, .ref h10, .ref h11, .ref h12, .ref h13, .int y221, .int y222, .ref h14, .ref h15, .ref h16, .ref h17, .int h0f30, .int h0f31, .ref h18, .ref h19, .ref h20, .ref h21]), (h4, aJ (k 1) 9 anJ), (h10, aJ (k 1) 900 anJ)] H := hT
        refine lv_aload_n hx hb dX11_still_72 rfl (lv_at hl 0 rfl) ?_
        refine tz_get (ci := 8) (v := .ref h4) (C := RX11) (F := TX11) (N := 36) hx hb hU iX11 hown hK hT 6 rfl rfl 11 (by decide) w796 (fun _ h9 => h9) rfl dX11_still_73 ?_
        refine lv_iconst (v := 0) hx hb dX11_still_76 (by decide) ?_
        refine tz_lald hx hb hK hT 7 rfl (by have := li_0; omega) dX11_still_77 (fun v226 e_v226 => ?_)
        clear e_v226
        refine lv_iload_n hx hb dX11_still_78 rfl (lv_at hl 1 rfl) ?_
        obtain ⟨v227, e_v227⟩ : ∃ x : Int64, x1.toInt64 = x := ⟨_, rfl⟩
        refine lv_i2l (v := v227) hx hb dX11_still_79 e_v227 ?_
        have e_v227 := ai_i2l e_v227 rfl
        refine lv_lmul hx hb dX11_still_80 (lv_topl (fun v228 e_v228 => ?_))
        refine lv_aload_n hx hb dX11_still_81 rfl (lv_at hl 0 rfl) ?_
        refine tz_get (ci := 8) (v := .ref h4) (C := RX11) (F := TX11) (N := 36) hx hb hU iX11 hown hK hT 6 rfl rfl 11 (by decide) w796 (fun _ h9 => h9) rfl dX11_still_82 ?_
        refine lv_iconst (v := 1) hx hb dX11_still_85 (by decide) ?_
        refine tz_lald hx hb hK hT 7 rfl (by have := li_1; omega) dX11_still_86 (fun v229 e_v229 => ?_)
        clear e_v229
        refine lv_lload hx hb dX11_still_87 (lv_at hl 2 rfl) ?_
        refine lv_lmul hx hb dX11_still_89 (lv_topl (fun v230 e_v230 => ?_))
        refine lv_ladd hx hb dX11_still_90 (lv_topl (fun v231 e_v231 => ?_))
        refine lv_aload_n hx hb dX11_still_91 rfl (lv_at hl 0 rfl) ?_
        refine tz_get (ci := 8) (v := .ref h4) (C := RX11) (F := TX11) (N := 36) hx hb hU iX11 hown hK hT 6 rfl rfl 11 (by decide) w796 (fun _ h9 => h9) rfl dX11_still_92 ?_
        refine lv_iconst (v := 2) hx hb dX11_still_95 (by decide) ?_
        refine tz_lald hx hb hK hT 7 rfl (by have := li_2; omega) dX11_still_96 (fun v232 e_v232 => ?_)
        clear e_v232
        refine lv_lload hx hb dX11_still_97 (lv_at hl 3 rfl) ?_
        refine lv_lmul hx hb dX11_still_99 (lv_topl (fun v233 e_v233 => ?_))
        refine lv_ladd hx hb dX11_still_100 (lv_topl (fun v234 e_v234 => ?_))
        refine lv_iload_n hx hb dX11_still_101 rfl (lv_at hl 1 rfl) ?_
        obtain ⟨v235, e_v235⟩ : ∃ x : Int64, x1.toInt64 = x := ⟨_, rfl⟩
        refine lv_i2l (v := v235) hx hb dX11_still_102 e_v235 ?_
        have e_v235 := ai_i2l e_v235 rfl
        refine W.lcmp hx hb dX11_still_103 ?_
        refine lv_if_ne (tgt := 111) hx hb dX11_still_104 (by decide) (fun c_236 => ?_) (fun c_236 => ?_)
        · skip
          have c_236 := nl_ne c_236 rfl rfl
          refine lv_iconst (v := 0) hx hb dX11_still_111 (by decide) ?_
          refine lv_istore (lv' := [(10, .int 0), (0, .ref h0), (1, .int x1), (4, .long y219), (6, .long y218), (8, .int y217), (9, .int y216)]) hx hb dX11_still_112 hl (by decide) rfl (fun ls hl => ?_)
          refine lv_iload hx hb dX11_still_114 (lv_at hl 0 rfl) ?_
          refine lv_if_eq (tgt := 158) hx hb dX11_still_116 (by decide) (fun _ => ?_) (fun cc => absurd (by decide +kernel) cc)
          refine lv_iconst (v := 0) hx hb dX11_still_158 (by decide) ?_
          refine lv_istore (lv' := [(10, .int 0), (0, .ref h0), (1, .int x1), (4, .long y219), (6, .long y218), (8, .int y217), (9, .int y216)]) hx hb dX11_still_159 hl (by decide) rfl (fun ls hl => ?_)
          refine lv_iload hx hb dX11_still_161 (lv_at hl 0 rfl) ?_
          refine lv_if_eq (tgt := 208) hx hb dX11_still_163 (by decide) (fun _ => ?_) (fun cc => absurd (by decide +kernel) cc)
          refine lv_iconst (v := 0) hx hb dX11_still_208 (by decide) ?_
          refine lv_istore (lv' := [(10, .int 0), (0, .ref h0), (1, .int x1), (4, .long y219), (6, .long y218), (8, .int y217), (9, .int y216)]) hx hb dX11_still_209 hl (by decide) rfl (fun ls hl => ?_)
          refine lv_iload hx hb dX11_still_211 (lv_at hl 5 rfl) ?_
          refine lv_iload hx hb dX11_still_213 (lv_at hl 0 rfl) ?_
          refine lv_if_eq (tgt := 222) hx hb dX11_still_215 (by decide) (fun _ => ?_) (fun cc => absurd (by decide +kernel) cc)
          refine lv_iconst (v := 0) hx hb dX11_still_222 (by decide) ?_
          refine lv_iadd hx hb dX11_still_223 (lv_topi (fun v237 e_v237 => ?_))
          refine lv_istore (lv' := [(8, .int v237), (10, .int 0), (0, .ref h0), (1, .int x1), (4, .long y219), (6, .long y218), (9, .int y216)]) hx hb dX11_still_224 hl (by decide) rfl (fun ls hl => ?_)
          obtain ⟨v238, e_v238⟩ : ∃ x : Int32, x = y216 + Int32.ofInt 1 := ⟨_, rfl⟩
          have f_v238 := e_v238.symm
          have e_v238 : v238.toInt = y216.toInt + 1 := ai_add e_v238 rfl (show (Int32.ofInt 1).toInt = 1 from (by decide +kernel)) (by omega)
          refine lv_iinc (v := v238) (lv' := [(9, .int v238), (8, .int v237), (10, .int 0), (0, .ref h0), (1, .int x1), (4, .long y219), (6, .long y218)]) hx hb dX11_still_226 hl (k := 6) rfl f_v238 (by decide) rfl (fun ls hl => ?_)
          refine lv_goto (tgt := 53) hx hb dX11_still_229 (by decide) ?_
          exact ih53_223 v238 v237 y218 y219 y220 y221 y222 _ _ _ (by omega) (by omega) (by omega) (by omega) (by omega) (by omega)  (by omega) (hT.sub [6, 0, 7, 1, 2, 8, 3, 4, 5] (by decide) rfl) hS (lv_sub hl [3, 4, 5, 6, 1, 0] rfl)
        · skip
          have c_236 := nl_eq c_236 rfl rfl
          refine lv_iconst (v := 1) hx hb dX11_still_107 (by decide) ?_
          refine lv_goto (tgt := 112) hx hb dX11_still_108 (by decide) ?_
          refine lv_istore (lv' := [(10, .int 1), (0, .ref h0), (1, .int x1), (4, .long y219), (6, .long y218), (8, .int y217), (9, .int y216)]) hx hb dX11_still_112 hl (by decide) rfl (fun ls hl => ?_)
          refine lv_iload hx hb dX11_still_114 (lv_at hl 0 rfl) ?_
          refine lv_if_eq (tgt := 158) hx hb dX11_still_116 (by decide) (fun cc => absurd cc (by decide +kernel)) (fun _ => ?_)
          refine lv_aload_n hx hb dX11_still_119 rfl (lv_at hl 1 rfl) ?_
          refine tz_get (ci := 8) (v := .ref h4) (C := RX11) (F := TX11) (N := 36) hx hb hU iX11 hown hK hT 6 rfl rfl 11 (by decide) w796 (fun _ h9 => h9) rfl dX11_still_120 ?_
          refine lv_iconst (v := 3) hx hb dX11_still_123 (by decide) ?_
          refine tz_lald hx hb hK hT 7 rfl (by have := li_3; omega) dX11_still_124 (fun v239 e_v239 => ?_)
          clear e_v239
          refine lv_iload_n hx hb dX11_still_125 rfl (lv_at hl 2 rfl) ?_
          obtain ⟨v240, e_v240⟩ : ∃ x : Int64, x1.toInt64 = x := ⟨_, rfl⟩
          refine lv_i2l (v := v240) hx hb dX11_still_126 e_v240 ?_
          have e_v240 := ai_i2l e_v240 rfl
          refine lv_lmul hx hb dX11_still_127 (lv_topl (fun v241 e_v241 => ?_))
          refine lv_aload_n hx hb dX11_still_128 rfl (lv_at hl 1 rfl) ?_
          refine tz_get (ci := 8) (v := .ref h4) (C := RX11) (F := TX11) (N := 36) hx hb hU iX11 hown hK hT 6 rfl rfl 11 (by decide) w796 (fun _ h9 => h9) rfl dX11_still_129 ?_
          refine lv_iconst (v := 4) hx hb dX11_still_132 (by decide) ?_
          refine tz_lald hx hb hK hT 7 rfl (by have := li_4; omega) dX11_still_133 (fun v242 e_v242 => ?_)
          clear e_v242
          refine lv_lload hx hb dX11_still_134 (lv_at hl 3 rfl) ?_
          refine lv_lmul hx hb dX11_still_136 (lv_topl (fun v243 e_v243 => ?_))
          refine lv_ladd hx hb dX11_still_137 (lv_topl (fun v244 e_v244 => ?_))
          refine lv_aload_n hx hb dX11_still_138 rfl (lv_at hl 1 rfl) ?_
          refine tz_get (ci := 8) (v := .ref h4) (C := RX11) (F := TX11) (N := 36) hx hb hU iX11 hown hK hT 6 rfl rfl 11 (by decide) w796 (fun _ h9 => h9) rfl dX11_still_139 ?_
          refine lv_iconst (v := 5) hx hb dX11_still_142 (by decide) ?_
          refine tz_lald hx hb hK hT 7 rfl (by have := li_5; omega) dX11_still_143 (fun v245 e_v245 => ?_)
          clear e_v245
          refine lv_lload hx hb dX11_still_144 (lv_at hl 4 rfl) ?_
          refine lv_lmul hx hb dX11_still_146 (lv_topl (fun v246 e_v246 => ?_))
          refine lv_ladd hx hb dX11_still_147 (lv_topl (fun v247 e_v247 => ?_))
          refine lv_lload hx hb dX11_still_148 (lv_at hl 3 rfl) ?_
          refine W.lcmp hx hb dX11_still_150 ?_
          refine lv_if_ne (tgt := 158) hx hb dX11_still_151 (by decide) (fun c_248 => ?_) (fun c_248 => ?_)
          · skip
            have c_248 := nl_ne c_248 rfl rfl
            refine lv_iconst (v := 0) hx hb dX11_still_158 (by decide) ?_
            refine lv_istore (lv' := [(10, .int 0), (0, .ref h0), (1, .int x1), (4, .long y219), (6, .long y218), (8, .int y217), (9, .int y216)]) hx hb dX11_still_159 hl (by decide) rfl (fun ls hl => ?_)
            refine lv_iload hx hb dX11_still_161 (lv_at hl 0 rfl) ?_
            refine lv_if_eq (tgt := 208) hx hb dX11_still_163 (by decide) (fun _ => ?_) (fun cc => absurd (by decide +kernel) cc)
            refine lv_iconst (v := 0) hx hb dX11_still_208 (by decide) ?_
            refine lv_istore (lv' := [(10, .int 0), (0, .ref h0), (1, .int x1), (4, .long y219), (6, .long y218), (8, .int y217), (9, .int y216)]) hx hb dX11_still_209 hl (by decide) rfl (fun ls hl => ?_)
            refine lv_iload hx hb dX11_still_211 (lv_at hl 5 rfl) ?_
            refine lv_iload hx hb dX11_still_213 (lv_at hl 0 rfl) ?_
            refine lv_if_eq (tgt := 222) hx hb dX11_still_215 (by decide) (fun _ => ?_) (fun cc => absurd (by decide +kernel) cc)
            refine lv_iconst (v := 0) hx hb dX11_still_222 (by decide) ?_
            refine lv_iadd hx hb dX11_still_223 (lv_topi (fun v249 e_v249 => ?_))
            refine lv_istore (lv' := [(8, .int v249), (10, .int 0), (0, .ref h0), (1, .int x1), (4, .long y219), (6, .long y218), (9, .int y216)]) hx hb dX11_still_224 hl (by decide) rfl (fun ls hl => ?_)
            obtain ⟨v250, e_v250⟩ : ∃ x : Int32, x = y216 + Int32.ofInt 1 := ⟨_, rfl⟩
            have f_v250 := e_v250.symm
            have e_v250 : v250.toInt = y216.toInt + 1 := ai_add e_v250 rfl (show (Int32.ofInt 1).toInt = 1 from (by decide +kernel)) (by omega)
            refine lv_iinc (v := v250) (lv' := [(9, .int v250), (8, .int v249), (10, .int 0), (0, .ref h0), (1, .int x1), (4, .long y219), (6, .long y218)]) hx hb dX11_still_226 hl (k := 6) rfl f_v250 (by decide) rfl (fun ls hl => ?_)
            refine lv_goto (tgt := 53) hx hb dX11_still_229 (by decide) ?_
            exact ih53_223 v250 v249 y218 y219 y220 y221 y222 _ _ _ (by omega) (by omega) (by omega) (by omega) (by omega) (by omega)  (by omega) (hT.sub [6, 0, 7, 1, 2, 8, 3, 4, 5] (by decide) rfl) hS (lv_sub hl [3, 4, 5, 6, 1, 0] rfl)
          · skip
            have c_248 := nl_eq c_248 rfl rfl
            refine lv_iconst (v := 1) hx hb dX11_still_154 (by decide) ?_
            refine lv_goto (tgt := 159) hx hb dX11_still_155 (by decide) ?_
            refine lv_istore (lv' := [(10, .int 1), (0, .ref h0), (1, .int x1), (4, .long y219), (6, .long y218), (8, .int y217), (9, .int y216)]) hx hb dX11_still_159 hl (by decide) rfl (fun ls hl => ?_)
            refine lv_iload hx hb dX11_still_161 (lv_at hl 0 rfl) ?_
            refine lv_if_eq (tgt := 208) hx hb dX11_still_163 (by decide) (fun cc => absurd cc (by decide +kernel)) (fun _ => ?_)
            refine lv_aload_n hx hb dX11_still_166 rfl (lv_at hl 1 rfl) ?_
            refine tz_get (ci := 8) (v := .ref h4) (C := RX11) (F := TX11) (N := 36) hx hb hU iX11 hown hK hT 6 rfl rfl 11 (by decide) w796 (fun _ h9 => h9) rfl dX11_still_167 ?_
            refine lv_bipush (v := 6) hx hb dX11_still_170 (by decide) ?_
            refine tz_lald hx hb hK hT 7 rfl (by have := li_6; omega) dX11_still_172 (fun v251 e_v251 => ?_)
            clear e_v251
            refine lv_iload_n hx hb dX11_still_173 rfl (lv_at hl 2 rfl) ?_
            obtain ⟨v252, e_v252⟩ : ∃ x : Int64, x1.toInt64 = x := ⟨_, rfl⟩
            refine lv_i2l (v := v252) hx hb dX11_still_174 e_v252 ?_
            have e_v252 := ai_i2l e_v252 rfl
            refine lv_lmul hx hb dX11_still_175 (lv_topl (fun v253 e_v253 => ?_))
            refine lv_aload_n hx hb dX11_still_176 rfl (lv_at hl 1 rfl) ?_
            refine tz_get (ci := 8) (v := .ref h4) (C := RX11) (F := TX11) (N := 36) hx hb hU iX11 hown hK hT 6 rfl rfl 11 (by decide) w796 (fun _ h9 => h9) rfl dX11_still_177 ?_
            refine lv_bipush (v := 7) hx hb dX11_still_180 (by decide) ?_
            refine tz_lald hx hb hK hT 7 rfl (by have := li_7; omega) dX11_still_182 (fun v254 e_v254 => ?_)
            clear e_v254
            refine lv_lload hx hb dX11_still_183 (lv_at hl 3 rfl) ?_
            refine lv_lmul hx hb dX11_still_185 (lv_topl (fun v255 e_v255 => ?_))
            refine lv_ladd hx hb dX11_still_186 (lv_topl (fun v256 e_v256 => ?_))
            refine lv_aload_n hx hb dX11_still_187 rfl (lv_at hl 1 rfl) ?_
            refine tz_get (ci := 8) (v := .ref h4) (C := RX11) (F := TX11) (N := 36) hx hb hU iX11 hown hK hT 6 rfl rfl 11 (by decide) w796 (fun _ h9 => h9) rfl dX11_still_188 ?_
            refine lv_bipush (v := 8) hx hb dX11_still_191 (by decide) ?_
            refine tz_lald hx hb hK hT 7 rfl (by have := li_8; omega) dX11_still_193 (fun v257 e_v257 => ?_)
            clear e_v257
            refine lv_lload hx hb dX11_still_194 (lv_at hl 4 rfl) ?_
            refine lv_lmul hx hb dX11_still_196 (lv_topl (fun v258 e_v258 => ?_))
            refine lv_ladd hx hb dX11_still_197 (lv_topl (fun v259 e_v259 => ?_))
            refine lv_lload hx hb dX11_still_198 (lv_at hl 4 rfl) ?_
            refine W.lcmp hx hb dX11_still_200 ?_
            refine lv_if_ne (tgt := 208) hx hb dX11_still_201 (by decide) (fun c_260 => ?_) (fun c_260 => ?_)
            · skip
              have c_260 := nl_ne c_260 rfl rfl
              refine lv_iconst (v := 0) hx hb dX11_still_208 (by decide) ?_
              refine lv_istore (lv' := [(10, .int 0), (0, .ref h0), (1, .int x1), (4, .long y219), (6, .long y218), (8, .int y217), (9, .int y216)]) hx hb dX11_still_209 hl (by decide) rfl (fun ls hl => ?_)
              refine lv_iload hx hb dX11_still_211 (lv_at hl 5 rfl) ?_
              refine lv_iload hx hb dX11_still_213 (lv_at hl 0 rfl) ?_
              refine lv_if_eq (tgt := 222) hx hb dX11_still_215 (by decide) (fun _ => ?_) (fun cc => absurd (by decide +kernel) cc)
              refine lv_iconst (v := 0) hx hb dX11_still_222 (by decide) ?_
              refine lv_iadd hx hb dX11_still_223 (lv_topi (fun v261 e_v261 => ?_))
              refine lv_istore (lv' := [(8, .int v261), (10, .int 0), (0, .ref h0), (1, .int x1), (4, .long y219), (6, .long y218), (9, .int y216)]) hx hb dX11_still_224 hl (by decide) rfl (fun ls hl => ?_)
              obtain ⟨v262, e_v262⟩ : ∃ x : Int32, x = y216 + Int32.ofInt 1 := ⟨_, rfl⟩
              have f_v262 := e_v262.symm
              have e_v262 : v262.toInt = y216.toInt + 1 := ai_add e_v262 rfl (show (Int32.ofInt 1).toInt = 1 from (by decide +kernel)) (by omega)
              refine lv_iinc (v := v262) (lv' := [(9, .int v262), (8, .int v261), (10, .int 0), (0, .ref h0), (1, .int x1), (4, .long y219), (6, .long y218)]) hx hb dX11_still_226 hl (k := 6) rfl f_v262 (by decide) rfl (fun ls hl => ?_)
              refine lv_goto (tgt := 53) hx hb dX11_still_229 (by decide) ?_
              exact ih53_223 v262 v261 y218 y219 y220 y221 y222 _ _ _ (by omega) (by omega) (by omega) (by omega) (by omega) (by omega)  (by omega) (hT.sub [6, 0, 7, 1, 2, 8, 3, 4, 5] (by decide) rfl) hS (lv_sub hl [3, 4, 5, 6, 1, 0] rfl)
            · skip
              have c_260 := nl_eq c_260 rfl rfl
              refine lv_iconst (v := 1) hx hb dX11_still_204 (by decide) ?_
              refine lv_goto (tgt := 209) hx hb dX11_still_205 (by decide) ?_
              refine lv_istore (lv' := [(10, .int 1), (0, .ref h0), (1, .int x1), (4, .long y219), (6, .long y218), (8, .int y217), (9, .int y216)]) hx hb dX11_still_209 hl (by decide) rfl (fun ls hl => ?_)
              refine lv_iload hx hb dX11_still_211 (lv_at hl 5 rfl) ?_
              refine lv_iload hx hb dX11_still_213 (lv_at hl 0 rfl) ?_
              refine lv_if_eq (tgt := 222) hx hb dX11_still_215 (by decide) (fun cc => absurd cc (by decide +kernel)) (fun _ => ?_)
              refine lv_iconst (v := 1) hx hb dX11_still_218 (by decide) ?_
              refine lv_goto (tgt := 223) hx hb dX11_still_219 (by decide) ?_
              refine lv_iadd hx hb dX11_still_223 (lv_topi (fun v263 e_v263 => ?_))
              refine lv_istore (lv' := [(8, .int v263), (10, .int 1), (0, .ref h0), (1, .int x1), (4, .long y219), (6, .long y218), (9, .int y216)]) hx hb dX11_still_224 hl (by decide) rfl (fun ls hl => ?_)
              obtain ⟨v264, e_v264⟩ : ∃ x : Int32, x = y216 + Int32.ofInt 1 := ⟨_, rfl⟩
              have f_v264 := e_v264.symm
              have e_v264 : v264.toInt = y216.toInt + 1 := ai_add e_v264 rfl (show (Int32.ofInt 1).toInt = 1 from (by decide +kernel)) (by omega)
              refine lv_iinc (v := v264) (lv' := [(9, .int v264), (8, .int v263), (10, .int 1), (0, .ref h0), (1, .int x1), (4, .long y219), (6, .long y218)]) hx hb dX11_still_226 hl (k := 6) rfl f_v264 (by decide) rfl (fun ls hl => ?_)
              refine lv_goto (tgt := 53) hx hb dX11_still_229 (by decide) ?_
              exact ih53_223 v264 v263 y218 y219 y220 y221 y222 _ _ _ (by omega) (by omega) (by omega) (by omega) (by omega) (by omega)  (by omega) (hT.sub [6, 0, 7, 1, 2, 8, 3, 4, 5] (by decide) rfl) hS (lv_sub hl [3, 4, 5, 6, 1, 0] rfl)
  refine lv_iload_n hx hb dX11_still_0 rfl (lv_at hl 1 rfl) ?_
  refine lv_iload_n hx hb dX11_still_1 rfl (lv_at hl 2 rfl) ?_
  refine lv_iload_n hx hb dX11_still_2 rfl (lv_at hl 3 rfl) ?_
  refine tcI (Tc := []) (Tr := [(h0, ob 8 [.int h0f0, .int h0f1, .int h0f2, .int h0f3, .int h0f4, .int h0f5, .ref h1, .ref h2, .int h0f8, .int h0f9, .ref h3, .ref h4, .ref h5, .ref h6, .ref h7, .ref h8, .ref h9, .int h0f17, .int h0f18, .int h0f19, .ref h10, .ref h11, .ref h12, .ref h13, .int h0f24, .int h0f25, .ref h14, .ref h15, .ref h16, .ref h17, .int h0f30, .int h0f31, .ref h18, .ref h19, .ref h20, .ref h21]), (h1, aI (k 0) 36 anI), (h4, aJ (k 1) 9 anJ), (h5, aJ (k 1) 9 anJ), (h6, aJ (k 1) 9 anJ), (h10, aJ (k 1) 900 anJ), (h11, aI (k 0) 100 anI), (h12, aI (k 0) 100 anI), (h13, aI (k 0) 100 anI)]) (as := []) (zcS (As := [.int x1, .int x2, .int x3]) (rest := []) (Tc := []) hx hb hml hown hU hK hT [] rfl (by decide) (cX11_isAsked_874da l D k _ x1 x2 x3) w1137 w1135 w1136 w72 hdX11_isAsked ⟨rfl, rfl⟩ ⟨Nat.le_of_ble_eq_true rfl, Nat.le_of_ble_eq_true rfl⟩ rfl hl.1 (Nat.le_of_ble_eq_true rfl) dX11_still_3 ⟨Nat.le_of_ble_eq_true rfl, Nat.le_of_ble_eq_true rfl⟩) hT hS hA [] [0, 1, 2, 3, 4, 5, 6, 7, 8] rfl rfl rfl (by decide) (by decide) (fun r265 H locs hB J hS => ?_)
  obtain ⟨b_r265, hT1⟩ := hB
  have hT := J _ hT1
  have hT : TP D A [(h0, ob 8 [.int h0f0, .int h0f1, .int h0f2, .int h0f3, .int h0f4, .int h0f5, .ref h1, .ref h2, .int h0f8, .int h0f9, .ref h3, .ref h4, .ref h5, .ref h6, .ref h7, .ref h8, .ref h9, .int h0f17, .int h0f18, .int h0f19, .ref h10, .ref h11, .ref h12, .ref h13, .int h0f24, .int h0f25, .ref h14, .ref h15, .ref h16, .ref h17, .int h0f30, .int h0f31, .ref h18, .ref h19, .ref h20, .ref h21]), (h1, aI (k 0) 36 anI), (h4, aJ (k 1) 9 anJ), (h5, aJ (k 1) 9 anJ), (h6, aJ (k 1) 9 anJ), (h10, aJ (k 1) 900 anJ), (h11, aI (k 0) 100 anI), (h12, aI (k 0) 100 anI), (h13, aI (k 0) 100 anI)] H := hT
  refine lv_if_ne (tgt := 11) hx hb dX11_still_6 (by decide) (fun c_266 => ?_) (fun c_266 => ?_)
  · skip
    have c_266 := ni_ne c_266 rfl li_0
    refine lv_aload_n hx hb dX11_still_11 rfl (lv_at hl 0 rfl) ?_
    refine tcV (Tc := [(h0, ob 8 [.int h0f0, .int h0f1, .int h0f2, .int h0f3, .int h0f4, .int h0f5, .ref h1, .ref h2, .int h0f8, .int h0f9, .ref h3, .ref h4, .ref h5, .ref h6, .ref h7, .ref h8, .ref h9, .int h0f17, .int h0f18, .int h0f19, .ref h10, .ref h11, .ref h12, .ref h13, .int h0f24, .int h0f25, .ref h14, .ref h15, .ref h16, .ref h17, .int h0f30, .int h0f31, .ref h18, .ref h19, .ref h20, .ref h21]), (h1, aI (k 0) 36 anI), (h4, aJ (k 1) 9 anJ), (h5, aJ (k 1) 9 anJ), (h6, aJ (k 1) 9 anJ), (h10, aJ (k 1) 900 anJ), (h11, aI (k 0) 100 anI), (h12, aI (k 0) 100 anI), (h13, aI (k 0) 100 anI)]) (Tr := []) (as := [h0, h1, h4, h5, h6, h10, h11, h12, h13]) (zcV (q0 := 0) (ci := 8) (As := []) (rest := []) (Tc := [(h0, ob 8 [.int h0f0, .int h0f1, .int h0f2, .int h0f3, .int h0f4, .int h0f5, .ref h1, .ref h2, .int h0f8, .int h0f9, .ref h3, .ref h4, .ref h5, .ref h6, .ref h7, .ref h8, .ref h9, .int h0f17, .int h0f18, .int h0f19, .ref h10, .ref h11, .ref h12, .ref h13, .int h0f24, .int h0f25, .ref h14, .ref h15, .ref h16, .ref h17, .int h0f30, .int h0f31, .ref h18, .ref h19, .ref h20, .ref h21]), (h1, aI (k 0) 36 anI), (h4, aJ (k 1) 9 anJ), (h5, aJ (k 1) 9 anJ), (h6, aJ (k 1) 9 anJ), (h10, aJ (k 1) 900 anJ), (h11, aI (k 0) 100 anI), (h12, aI (k 0) 100 anI), (h13, aI (k 0) 100 anI)]) hx hb hml hown hU hK hT rfl rfl [0, 1, 2, 3, 4, 5, 6, 7, 8] rfl (by decide) (cX11_findList_726e6 l D k _ h0 h1 h4 h5 h6 h10 h11 h12 h13 h2 h3 h7 h8 h9 h14 h15 h16 h17 h18 h19 h20 h21 h0f0 h0f1 h0f2 h0f3 h0f4 h0f5 h0f8 h0f9 h0f17 h0f18 h0f19 h0f24 h0f25 h0f30 h0f31 (by omega) (by omega) (by omega) (by omega) (by omega) (by omega) (by omega) (by omega) (by omega) (by omega) (by omega) (by omega) (by omega)) w1039 w1036 w1038 w47 w72 hdX11_findList ⟨rfl, rfl⟩ ⟨Nat.le_of_ble_eq_true rfl, Nat.le_of_ble_eq_true rfl⟩ rfl hl.1 (Nat.le_of_ble_eq_true rfl) dX11_still_12 ⟨Nat.le_of_ble_eq_true rfl, Nat.le_of_ble_eq_true rfl⟩) hT hS hA [0, 1, 2, 3, 4, 5, 6, 7, 8] [] rfl rfl rfl (by decide) (by decide) (fun H locs hB J hS => ?_)
    obtain ⟨v268, v269, v270, b_v268, b_v269, b_v270, hT1⟩ := hB
    have hT := J _ hT1
    have hT : TP D A [(h0, ob 8 [.int h0f0, .int h0f1, .int h0f2, .int h0f3, .int h0f4, .int h0f5, .ref h1, .ref h2, .int h0f8, .int v268, .ref h3, .ref h4, .ref h5, .ref h6, .ref h7, .ref h8, .ref h9, .int h0f17, .int h0f18, .int h0f19, .ref h10, .ref h11, .ref h12, .ref h13, .int v269, .int v270, .ref h14, .ref h15, .ref h16, .ref h17, .int h0f30, .int h0f31, .ref h18, .ref h19, .ref h20, .ref h21]), (h1, aI (k 0) 36 anI), (h4, aJ (k 1) 9 anJ), (h5, aJ (k 1) 9 anJ), (h6, aJ (k 1) 9 anJ), (h10, aJ (k 1) 900 anJ), (h11, aI (k 0) 100 anI), (h12, aI (k 0) 100 anI), (h13, aI (k 0) 100 anI)] H := hT
    refine lv_aload_n hx hb dX11_still_15 rfl (lv_at hl 0 rfl) ?_
    refine tz_get (ci := 8) (v := .int h0f0) (C := RX11) (F := TX11) (N := 36) hx hb hU iX11 hown hK hT 0 rfl rfl 0 (by decide) w785 (fun _ h9 => h9) rfl dX11_still_16 ?_
    refine lv_iconst (v := 1) hx hb dX11_still_19 (by decide) ?_
    refine lv_icmp_le (tgt := 28) hx hb dX11_still_20 (by decide) (fun c_271 => ?_) (fun c_271 => ?_)
    · skip
      have c_271 := ni_le c_271 rfl li_1
      refine lv_lconst (v := 0) hx hb dX11_still_28 (by decide) ?_
      refine lv_lstore (lv' := [(4, .long 0), (0, .ref h0), (1, .int x1), (2, .int x2), (3, .int x3)]) hx hb dX11_still_29 hl (by decide) rfl (fun ls hl => ?_)
      refine lv_aload_n hx hb dX11_still_31 rfl (lv_at hl 1 rfl) ?_
      refine tz_get (ci := 8) (v := .int h0f0) (C := RX11) (F := TX11) (N := 36) hx hb hU iX11 hown hK hT 0 rfl rfl 0 (by decide) w785 (fun _ h9 => h9) rfl dX11_still_32 ?_
      refine lv_iconst (v := 2) hx hb dX11_still_35 (by decide) ?_
      refine lv_icmp_le (tgt := 44) hx hb dX11_still_36 (by decide) (fun c_272 => ?_) (fun c_272 => ?_)
      · skip
        have c_272 := ni_le c_272 rfl li_2
        refine lv_lconst (v := 0) hx hb dX11_still_44 (by decide) ?_
        refine lv_lstore (lv' := [(6, .long 0), (4, .long 0), (0, .ref h0), (1, .int x1), (2, .int x2), (3, .int x3)]) hx hb dX11_still_45 hl (by decide) rfl (fun ls hl => ?_)
        refine lv_iconst (v := 0) hx hb dX11_still_47 (by decide) ?_
        refine lv_istore (lv' := [(8, .int 0), (6, .long 0), (4, .long 0), (0, .ref h0), (1, .int x1), (2, .int x2), (3, .int x3)]) hx hb dX11_still_48 hl (by decide) rfl (fun ls hl => ?_)
        refine lv_iconst (v := 0) hx hb dX11_still_50 (by decide) ?_
        refine lv_istore (lv' := [(9, .int 0), (8, .int 0), (6, .long 0), (4, .long 0), (0, .ref h0), (1, .int x1), (2, .int x2), (3, .int x3)]) hx hb dX11_still_51 hl (by decide) rfl (fun ls hl => ?_)
        exact lp53_223 ((v269.toInt + (-1) * (0 : Int32).toInt + 1).toNat + 1) (0) (0) (0) (0) v268 v269 v270 _ _ _ (by have := li_0; have := ll_0; omega) (by have := li_0; have := ll_0; omega) (by have := li_0; have := ll_0; omega) (by have := li_0; have := ll_0; omega) (by have := li_0; have := ll_0; omega) (by have := li_0; have := ll_0; omega)  (Nat.lt_succ_self _) hT hS (lv_sub hl [4, 5, 3, 2, 1, 0] rfl)
      · skip
        have c_272 := ni_nle c_272 rfl li_2
        exfalso; omega
    · skip
      have c_271 := ni_nle c_271 rfl li_1
      refine lv_iload_n hx hb dX11_still_23 rfl (lv_at hl 2 rfl) ?_
      obtain ⟨v273, e_v273⟩ : ∃ x : Int64, x2.toInt64 = x := ⟨_, rfl⟩
      refine lv_i2l (v := v273) hx hb dX11_still_24 e_v273 ?_
      have e_v273 := ai_i2l e_v273 rfl
      refine lv_goto (tgt := 29) hx hb dX11_still_25 (by decide) ?_
      refine lv_lstore (lv' := [(4, .long v273), (0, .ref h0), (1, .int x1), (2, .int x2), (3, .int x3)]) hx hb dX11_still_29 hl (by decide) rfl (fun ls hl => ?_)
      refine lv_aload_n hx hb dX11_still_31 rfl (lv_at hl 1 rfl) ?_
      refine tz_get (ci := 8) (v := .int h0f0) (C := RX11) (F := TX11) (N := 36) hx hb hU iX11 hown hK hT 0 rfl rfl 0 (by decide) w785 (fun _ h9 => h9) rfl dX11_still_32 ?_
      refine lv_iconst (v := 2) hx hb dX11_still_35 (by decide) ?_
      refine lv_icmp_le (tgt := 44) hx hb dX11_still_36 (by decide) (fun c_274 => ?_) (fun c_274 => ?_)
      · skip
        have c_274 := ni_le c_274 rfl li_2
        refine lv_lconst (v := 0) hx hb dX11_still_44 (by decide) ?_
        refine lv_lstore (lv' := [(6, .long 0), (4, .long v273), (0, .ref h0), (1, .int x1), (2, .int x2), (3, .int x3)]) hx hb dX11_still_45 hl (by decide) rfl (fun ls hl => ?_)
        refine lv_iconst (v := 0) hx hb dX11_still_47 (by decide) ?_
        refine lv_istore (lv' := [(8, .int 0), (6, .long 0), (4, .long v273), (0, .ref h0), (1, .int x1), (2, .int x2), (3, .int x3)]) hx hb dX11_still_48 hl (by decide) rfl (fun ls hl => ?_)
        refine lv_iconst (v := 0) hx hb dX11_still_50 (by decide) ?_
        refine lv_istore (lv' := [(9, .int 0), (8, .int 0), (6, .long 0), (4, .long v273), (0, .ref h0), (1, .int x1), (2, .int x2), (3, .int x3)]) hx hb dX11_still_51 hl (by decide) rfl (fun ls hl => ?_)
        exact lp53_223 ((v269.toInt + (-1) * (0 : Int32).toInt + 1).toNat + 1) (0) (0) (0) v273 v268 v269 v270 _ _ _ (by have := li_0; have := ll_0; omega) (by have := li_0; have := ll_0; omega) (by have := li_0; have := ll_0; omega) (by have := li_0; have := ll_0; omega) (by have := li_0; have := ll_0; omega) (by have := li_0; have := ll_0; omega)  (Nat.lt_succ_self _) hT hS (lv_sub hl [4, 5, 3, 2, 1, 0] rfl)
      · skip
        have c_274 := ni_nle c_274 rfl li_2
        refine lv_iload_n hx hb dX11_still_39 rfl (lv_at hl 4 rfl) ?_
        obtain ⟨v275, e_v275⟩ : ∃ x : Int64, x3.toInt64 = x := ⟨_, rfl⟩
        refine lv_i2l (v := v275) hx hb dX11_still_40 e_v275 ?_
        have e_v275 := ai_i2l e_v275 rfl
        refine lv_goto (tgt := 45) hx hb dX11_still_41 (by decide) ?_
        refine lv_lstore (lv' := [(6, .long v275), (4, .long v273), (0, .ref h0), (1, .int x1), (2, .int x2), (3, .int x3)]) hx hb dX11_still_45 hl (by decide) rfl (fun ls hl => ?_)
        refine lv_iconst (v := 0) hx hb dX11_still_47 (by decide) ?_
        refine lv_istore (lv' := [(8, .int 0), (6, .long v275), (4, .long v273), (0, .ref h0), (1, .int x1), (2, .int x2), (3, .int x3)]) hx hb dX11_still_48 hl (by decide) rfl (fun ls hl => ?_)
        refine lv_iconst (v := 0) hx hb dX11_still_50 (by decide) ?_
        refine lv_istore (lv' := [(9, .int 0), (8, .int 0), (6, .long v275), (4, .long v273), (0, .ref h0), (1, .int x1), (2, .int x2), (3, .int x3)]) hx hb dX11_still_51 hl (by decide) rfl (fun ls hl => ?_)
        exact lp53_223 ((v269.toInt + (-1) * (0 : Int32).toInt + 1).toNat + 1) (0) (0) v275 v273 v268 v269 v270 _ _ _ (by have := li_0; omega) (by have := li_0; omega) (by have := li_0; omega) (by have := li_0; omega) (by have := li_0; omega) (by have := li_0; omega)  (Nat.lt_succ_self _) hT hS (lv_sub hl [4, 5, 3, 2, 1, 0] rfl)
  · skip
    have c_266 := ni_eq c_266 rfl li_0
    refine lv_iconst (v := (-1)) hx hb dX11_still_9 (by decide) ?_
    exact tz_retI (B := B_cX11_still_4b742 D k h0 h1 h4 h5 h6 h10 h11 h12 h13 h2 h3 h7 h8 h9 h14 h15 h16 h17 h18 h19 h20 h21 x1 x2 x3 h0f0 h0f1 h0f2 h0f3 h0f4 h0f5 h0f8 h0f9 h0f17 h0f18 h0f19 h0f24 h0f25 h0f30 h0f31) (v := (-1)) hQ hx hb hr hlocks hS (Nat.le_of_ble_eq_true rfl) (Nat.le_of_ble_eq_true rfl) dX11_still_10 (⟨h0f9, h0f24, h0f25, (by have := li_m1; omega), (by have := li_m1; omega), (by have := li_m1; omega), hT⟩)
abbrev Rm_cX10_seed_0d89b : Room := { frames := 0, cells := 0, slots := 0, locals := 0 }
abbrev B_cX10_seed_0d89b (D : va_G) (k : Nat → ClassId) (h0 h1 h2 h3 h4 h5 h6 h7 h8 h9 h10 h11 h12 h13 : Nat) (x1 : Int32) (h0f2 : Int32) (h0f6 : Int32) (h0f8 : Int32) (h0f11 : Int32) (h1f0 : Int32) (h1f1 : Int32) (h1f2 : Int32) (A : Nat → Prop) (r : Int32) (H : Heap) : Prop := h1f2 = r ∧ TP D A [(h0, ob 7 [.ref h1, .ref h2, .int h0f2, .ref h3, .ref h4, .ref h5, .int h0f6, .ref h6, .int h0f8, .null, .ref h7, .int h0f11, .ref h8, .ref h9, .ref h10, .ref h11, .ref h12]), (h1, ob 4 [.int h1f0, .int h1f1, .int x1, .ref h13])] H
set_option maxHeartbeats 4000000 in
set_option maxRecDepth 100000 in
theorem cX10_seed_0d89b (l : Launch) (D : va_G) (k : Nat → ClassId) (sz : Nat) (h0 h1 h2 h3 h4 h5 h6 h7 h8 h9 h10 h11 h12 h13 : Nat) (x1 : Int32) (h0f2 : Int32) (h0f6 : Int32) (h0f8 : Int32) (h0f11 : Int32) (h1f0 : Int32) (h1f1 : Int32) (h1f2 : Int32) (b_h0f2 : 0 ≤ h0f2.toInt ∧ h0f2.toInt ≤ 1) (b_h0f6 : 0 ≤ h0f6.toInt ∧ h0f6.toInt ≤ 1) (b_h0f8 : 0 ≤ h0f8.toInt ∧ h0f8.toInt ≤ 1) (b_h0f11 : 0 ≤ h0f11.toInt ∧ h0f11.toInt ≤ 200) (b_h1f0 : 1 ≤ h1f0.toInt ∧ h1f0.toInt ≤ 3) (b_h1f1 : 0 ≤ h1f1.toInt ∧ h1f1.toInt ≤ 4) : Met l yX10_seed (Cond.code yX10_seed cX10_seed 3 (some .int) :: uw) Rm_cX10_seed_0d89b (pT D k sz [.ref h0, .int x1] [(h0, ob 7 [.ref h1, .ref h2, .int h0f2, .ref h3, .ref h4, .ref h5, .int h0f6, .ref h6, .int h0f8, .null, .ref h7, .int h0f11, .ref h8, .ref h9, .ref h10, .ref h11, .ref h12]), (h1, ob 4 [.int h1f0, .int h1f1, .int h1f2, .ref h13])]) (qI (B_cX10_seed_0d89b D k h0 h1 h2 h3 h4 h5 h6 h7 h8 h9 h10 h11 h12 h13 x1 h0f2 h0f6 h0f8 h0f11 h1f0 h1f1 h1f2 (zA [h0, h1] sz)) (zA [h0, h1] sz)) 0 0 (zA [h0, h1] sz) := by
  refine tz_begin (as := [h0, h1]) (Qc := fun A => qI (B_cX10_seed_0d89b D k h0 h1 h2 h3 h4 h5 h6 h7 h8 h9 h10 h11 h12 h13 x1 h0f2 h0f6 h0f8 h0f11 h1f0 h1f1 h1f2 A) A) (by decide +kernel) rfl (Nat.le_of_ble_eq_true rfl) ?_
  intro p e s m args below meth c ls A Q hx hb hr hml hown hlocks hin hU hK hT hS hA hl hQ
  have hl : lv_has ls 3 [(0, .ref h0), (1, .int x1)] := hl
  have hT : TP D A [(h0, ob 7 [.ref h1, .ref h2, .int h0f2, .ref h3, .ref h4, .ref h5, .int h0f6, .ref h6, .int h0f8, .null, .ref h7, .int h0f11, .ref h8, .ref h9, .ref h10, .ref h11, .ref h12]), (h1, ob 4 [.int h1f0, .int h1f1, .int h1f2, .ref h13])] s.heap := hT
  refine lv_aload_n hx hb dX10_seed_0 rfl (lv_at hl 0 rfl) ?_
  refine tz_get (ci := 7) (v := .ref h1) (C := RX10) (F := TX10) (N := 17) hx hb hU iX10 hown hK hT 0 rfl rfl 0 (by decide) w249 (fun _ h9 => h9) rfl dX10_seed_1 ?_
  refine tz_get (ci := 4) (v := .int h1f2) (C := RX5) (F := TX5) (N := 4) hx hb hU iX5 hown hK hT 1 rfl rfl 2 (by decide) w99 (fun _ h9 => h9) rfl dX10_seed_4 ?_
  refine lv_istore_n (lv' := [(2, .int h1f2), (0, .ref h0), (1, .int x1)]) hx hb dX10_seed_7 rfl hl (by decide) rfl (fun ls hl => ?_)
  refine lv_aload_n hx hb dX10_seed_8 rfl (lv_at hl 1 rfl) ?_
  refine tz_get (ci := 7) (v := .ref h1) (C := RX10) (F := TX10) (N := 17) hx hb hU iX10 hown hK hT 0 rfl rfl 0 (by decide) w249 (fun _ h9 => h9) rfl dX10_seed_9 ?_
  refine lv_iload_n hx hb dX10_seed_12 rfl (lv_at hl 2 rfl) ?_
  refine tz_put (ci := 4) (v := .int x1) (ty := .int) (C := RX5) (F := TX5) (N := 4) hx hb hU iX5 tyX5 tyX5_ok nmX5 hown hK hT hS 1 rfl rfl 2 (by decide) w99 (fun _ h9 => h9) rfl (by decide +kernel) rfl rfl (Nat.le_of_ble_eq_true rfl) dX10_seed_13 (fun H locs hT hS => ?_)
  have hT : TP D A [(h0, ob 7 [.ref h1, .ref h2, .int h0f2, .ref h3, .ref h4, .ref h5, .int h0f6, .ref h6, .int h0f8, .null, .ref h7, .int h0f11, .ref h8, .ref h9, .ref h10, .ref h11, .ref h12]), (h1, ob 4 [.int h1f0, .int h1f1, .int x1, .ref h13])] H := hT
  refine lv_iload_n hx hb dX10_seed_16 rfl (lv_at hl 0 rfl) ?_
  exact tz_retI (B := B_cX10_seed_0d89b D k h0 h1 h2 h3 h4 h5 h6 h7 h8 h9 h10 h11 h12 h13 x1 h0f2 h0f6 h0f8 h0f11 h1f0 h1f1 h1f2) (v := h1f2) hQ hx hb hr hlocks hS (Nat.le_of_ble_eq_true rfl) (Nat.le_of_ble_eq_true rfl) dX10_seed_17 (⟨rfl, hT⟩)
abbrev Rm_cX10_seed_156b9 : Room := { frames := 0, cells := 0, slots := 0, locals := 0 }
abbrev B_cX10_seed_156b9 (D : va_G) (k : Nat → ClassId) (h0 h1 h2 h3 h4 h5 h6 h7 h8 h9 h10 h11 h12 h13 h14 : Nat) (x1 : Int32) (h0f2 : Int32) (h0f6 : Int32) (h0f8 : Int32) (h0f11 : Int32) (h1f0 : Int32) (h1f1 : Int32) (h1f2 : Int32) (A : Nat → Prop) (r : Int32) (H : Heap) : Prop := h1f2 = r ∧ TP D A [(h0, ob 7 [.ref h1, .ref h2, .int h0f2, .ref h3, .ref h4, .ref h5, .int h0f6, .ref h6, .int h0f8, .ref h7, .ref h8, .int h0f11, .ref h9, .ref h10, .ref h11, .ref h12, .ref h13]), (h1, ob 4 [.int h1f0, .int h1f1, .int x1, .ref h14])] H
set_option maxHeartbeats 4000000 in
set_option maxRecDepth 100000 in
theorem cX10_seed_156b9 (l : Launch) (D : va_G) (k : Nat → ClassId) (sz : Nat) (h0 h1 h2 h3 h4 h5 h6 h7 h8 h9 h10 h11 h12 h13 h14 : Nat) (x1 : Int32) (h0f2 : Int32) (h0f6 : Int32) (h0f8 : Int32) (h0f11 : Int32) (h1f0 : Int32) (h1f1 : Int32) (h1f2 : Int32) (b_h0f2 : 0 ≤ h0f2.toInt ∧ h0f2.toInt ≤ 1) (b_h0f6 : 0 ≤ h0f6.toInt ∧ h0f6.toInt ≤ 1) (b_h0f8 : 0 ≤ h0f8.toInt ∧ h0f8.toInt ≤ 1) (b_h0f11 : 0 ≤ h0f11.toInt ∧ h0f11.toInt ≤ 200) (b_h1f0 : 1 ≤ h1f0.toInt ∧ h1f0.toInt ≤ 3) (b_h1f1 : 0 ≤ h1f1.toInt ∧ h1f1.toInt ≤ 4) : Met l yX10_seed (Cond.code yX10_seed cX10_seed 3 (some .int) :: uw) Rm_cX10_seed_156b9 (pT D k sz [.ref h0, .int x1] [(h0, ob 7 [.ref h1, .ref h2, .int h0f2, .ref h3, .ref h4, .ref h5, .int h0f6, .ref h6, .int h0f8, .ref h7, .ref h8, .int h0f11, .ref h9, .ref h10, .ref h11, .ref h12, .ref h13]), (h1, ob 4 [.int h1f0, .int h1f1, .int h1f2, .ref h14])]) (qI (B_cX10_seed_156b9 D k h0 h1 h2 h3 h4 h5 h6 h7 h8 h9 h10 h11 h12 h13 h14 x1 h0f2 h0f6 h0f8 h0f11 h1f0 h1f1 h1f2 (zA [h0, h1] sz)) (zA [h0, h1] sz)) 0 0 (zA [h0, h1] sz) := by
  refine tz_begin (as := [h0, h1]) (Qc := fun A => qI (B_cX10_seed_156b9 D k h0 h1 h2 h3 h4 h5 h6 h7 h8 h9 h10 h11 h12 h13 h14 x1 h0f2 h0f6 h0f8 h0f11 h1f0 h1f1 h1f2 A) A) (by decide +kernel) rfl (Nat.le_of_ble_eq_true rfl) ?_
  intro p e s m args below meth c ls A Q hx hb hr hml hown hlocks hin hU hK hT hS hA hl hQ
  have hl : lv_has ls 3 [(0, .ref h0), (1, .int x1)] := hl
  have hT : TP D A [(h0, ob 7 [.ref h1, .ref h2, .int h0f2, .ref h3, .ref h4, .ref h5, .int h0f6, .ref h6, .int h0f8, .ref h7, .ref h8, .int h0f11, .ref h9, .ref h10, .ref h11, .ref h12, .ref h13]), (h1, ob 4 [.int h1f0, .int h1f1, .int h1f2, .ref h14])] s.heap := hT
  refine lv_aload_n hx hb dX10_seed_0 rfl (lv_at hl 0 rfl) ?_
  refine tz_get (ci := 7) (v := .ref h1) (C := RX10) (F := TX10) (N := 17) hx hb hU iX10 hown hK hT 0 rfl rfl 0 (by decide) w249 (fun _ h9 => h9) rfl dX10_seed_1 ?_
  refine tz_get (ci := 4) (v := .int h1f2) (C := RX5) (F := TX5) (N := 4) hx hb hU iX5 hown hK hT 1 rfl rfl 2 (by decide) w99 (fun _ h9 => h9) rfl dX10_seed_4 ?_
  refine lv_istore_n (lv' := [(2, .int h1f2), (0, .ref h0), (1, .int x1)]) hx hb dX10_seed_7 rfl hl (by decide) rfl (fun ls hl => ?_)
  refine lv_aload_n hx hb dX10_seed_8 rfl (lv_at hl 1 rfl) ?_
  refine tz_get (ci := 7) (v := .ref h1) (C := RX10) (F := TX10) (N := 17) hx hb hU iX10 hown hK hT 0 rfl rfl 0 (by decide) w249 (fun _ h9 => h9) rfl dX10_seed_9 ?_
  refine lv_iload_n hx hb dX10_seed_12 rfl (lv_at hl 2 rfl) ?_
  refine tz_put (ci := 4) (v := .int x1) (ty := .int) (C := RX5) (F := TX5) (N := 4) hx hb hU iX5 tyX5 tyX5_ok nmX5 hown hK hT hS 1 rfl rfl 2 (by decide) w99 (fun _ h9 => h9) rfl (by decide +kernel) rfl rfl (Nat.le_of_ble_eq_true rfl) dX10_seed_13 (fun H locs hT hS => ?_)
  have hT : TP D A [(h0, ob 7 [.ref h1, .ref h2, .int h0f2, .ref h3, .ref h4, .ref h5, .int h0f6, .ref h6, .int h0f8, .ref h7, .ref h8, .int h0f11, .ref h9, .ref h10, .ref h11, .ref h12, .ref h13]), (h1, ob 4 [.int h1f0, .int h1f1, .int x1, .ref h14])] H := hT
  refine lv_iload_n hx hb dX10_seed_16 rfl (lv_at hl 0 rfl) ?_
  exact tz_retI (B := B_cX10_seed_156b9 D k h0 h1 h2 h3 h4 h5 h6 h7 h8 h9 h10 h11 h12 h13 h14 x1 h0f2 h0f6 h0f8 h0f11 h1f0 h1f1 h1f2) (v := h1f2) hQ hx hb hr hlocks hS (Nat.le_of_ble_eq_true rfl) (Nat.le_of_ble_eq_true rfl) dX10_seed_17 (⟨rfl, hT⟩)
abbrev Rm_cX11_seed_032f3 : Room := { frames := 0, cells := 0, slots := 0, locals := 0 }
abbrev B_cX11_seed_032f3 (D : va_G) (k : Nat → ClassId) (h0 h1 h2 h3 h4 h5 h6 h7 h8 h9 h10 h11 h12 h13 h14 h15 h16 h17 h18 h19 h20 h21 : Nat) (x1 : Int32) (h0f0 : Int32) (h0f1 : Int32) (h0f2 : Int32) (h0f3 : Int32) (h0f4 : Int32) (h0f5 : Int32) (h0f8 : Int32) (h0f9 : Int32) (h0f17 : Int32) (h0f18 : Int32) (h0f19 : Int32) (h0f24 : Int32) (h0f25 : Int32) (h0f30 : Int32) (h0f31 : Int32) (A : Nat → Prop) (r : Int32) (H : Heap) : Prop := h0f2 = r ∧ TP D A [(h0, ob 8 [.int h0f0, .int h0f1, .int x1, .int h0f3, .int h0f4, .int h0f5, .ref h1, .ref h2, .int h0f8, .int h0f9, .ref h3, .ref h4, .ref h5, .ref h6, .ref h7, .ref h8, .ref h9, .int h0f17, .int h0f18, .int h0f19, .ref h10, .ref h11, .ref h12, .ref h13, .int h0f24, .int h0f25, .ref h14, .ref h15, .ref h16, .ref h17, .int h0f30, .int h0f31, .ref h18, .ref h19, .ref h20, .ref h21])] H
set_option maxHeartbeats 4000000 in
set_option maxRecDepth 100000 in
theorem cX11_seed_032f3 (l : Launch) (D : va_G) (k : Nat → ClassId) (sz : Nat) (h0 h1 h2 h3 h4 h5 h6 h7 h8 h9 h10 h11 h12 h13 h14 h15 h16 h17 h18 h19 h20 h21 : Nat) (x1 : Int32) (h0f0 : Int32) (h0f1 : Int32) (h0f2 : Int32) (h0f3 : Int32) (h0f4 : Int32) (h0f5 : Int32) (h0f8 : Int32) (h0f9 : Int32) (h0f17 : Int32) (h0f18 : Int32) (h0f19 : Int32) (h0f24 : Int32) (h0f25 : Int32) (h0f30 : Int32) (h0f31 : Int32) (b_h0f0 : 1 ≤ h0f0.toInt ∧ h0f0.toInt ≤ 3) (b_h0f1 : 0 ≤ h0f1.toInt ∧ h0f1.toInt ≤ 4) (b_h0f3 : 0 ≤ h0f3.toInt ∧ h0f3.toInt ≤ 3) (b_h0f4 : 0 ≤ h0f4.toInt ∧ h0f4.toInt ≤ 4) (b_h0f8 : 0 ≤ h0f8.toInt ∧ h0f8.toInt ≤ 1) (b_h0f9 : 0 ≤ h0f9.toInt ∧ h0f9.toInt ≤ 1) (b_h0f17 : 0 ≤ h0f17.toInt ∧ h0f17.toInt ≤ 120) (b_h0f18 : 0 ≤ h0f18.toInt ∧ h0f18.toInt ≤ 120) (b_h0f19 : 0 ≤ h0f19.toInt ∧ h0f19.toInt ≤ 4) (b_h0f24 : 0 ≤ h0f24.toInt ∧ h0f24.toInt ≤ 100) (b_h0f25 : 0 ≤ h0f25.toInt ∧ h0f25.toInt ≤ 1) (b_h0f30 : 0 ≤ h0f30.toInt ∧ h0f30.toInt ≤ 60) (b_h0f31 : 0 ≤ h0f31.toInt ∧ h0f31.toInt ≤ 1) : Met l yX11_seed (Cond.code yX11_seed cX11_seed 3 (some .int) :: uw) Rm_cX11_seed_032f3 (pT D k sz [.ref h0, .int x1] [(h0, ob 8 [.int h0f0, .int h0f1, .int h0f2, .int h0f3, .int h0f4, .int h0f5, .ref h1, .ref h2, .int h0f8, .int h0f9, .ref h3, .ref h4, .ref h5, .ref h6, .ref h7, .ref h8, .ref h9, .int h0f17, .int h0f18, .int h0f19, .ref h10, .ref h11, .ref h12, .ref h13, .int h0f24, .int h0f25, .ref h14, .ref h15, .ref h16, .ref h17, .int h0f30, .int h0f31, .ref h18, .ref h19, .ref h20, .ref h21])]) (qI (B_cX11_seed_032f3 D k h0 h1 h2 h3 h4 h5 h6 h7 h8 h9 h10 h11 h12 h13 h14 h15 h16 h17 h18 h19 h20 h21 x1 h0f0 h0f1 h0f2 h0f3 h0f4 h0f5 h0f8 h0f9 h0f17 h0f18 h0f19 h0f24 h0f25 h0f30 h0f31 (zA [h0] sz)) (zA [h0] sz)) 0 0 (zA [h0] sz) := by
  refine tz_begin (as := [h0]) (Qc := fun A => qI (B_cX11_seed_032f3 D k h0 h1 h2 h3 h4 h5 h6 h7 h8 h9 h10 h11 h12 h13 h14 h15 h16 h17 h18 h19 h20 h21 x1 h0f0 h0f1 h0f2 h0f3 h0f4 h0f5 h0f8 h0f9 h0f17 h0f18 h0f19 h0f24 h0f25 h0f30 h0f31 A) A) (by decide +kernel) rfl (Nat.le_of_ble_eq_true rfl) ?_
  intro p e s m args below meth c ls A Q hx hb hr hml hown hlocks hin hU hK hT hS hA hl hQ
  have hl : lv_has ls 3 [(0, .ref h0), (1, .int x1)] := hl
  have hT : TP D A [(h0, ob 8 [.int h0f0, .int h0f1, .int h0f2, .int h0f3, .int h0f4, .int h0f5, .ref h1, .ref h2, .int h0f8, .int h0f9, .ref h3, .ref h4, .ref h5, .ref h6, .ref h7, .ref h8, .ref h9, .int h0f17, .int h0f18, .int h0f19, .ref h10, .ref h11, .ref h12, .ref h13, .int h0f24, .int h0f25, .ref h14, .ref h15, .ref h16, .ref h17, .int h0f30, .int h0f31, .ref h18, .ref h19, .ref h20, .ref h21])] s.heap := hT
  refine lv_aload_n hx hb dX11_seed_0 rfl (lv_at hl 0 rfl) ?_
  refine tz_get (ci := 8) (v := .int h0f2) (C := RX11) (F := TX11) (N := 36) hx hb hU iX11 hown hK hT 0 rfl rfl 2 (by decide) w787 (fun _ h9 => h9) rfl dX11_seed_1 ?_
  refine lv_istore_n (lv' := [(2, .int h0f2), (0, .ref h0), (1, .int x1)]) hx hb dX11_seed_4 rfl hl (by decide) rfl (fun ls hl => ?_)
  refine lv_aload_n hx hb dX11_seed_5 rfl (lv_at hl 1 rfl) ?_
  refine lv_iload_n hx hb dX11_seed_6 rfl (lv_at hl 2 rfl) ?_
  refine tz_put (ci := 8) (v := .int x1) (ty := .int) (C := RX11) (F := TX11) (N := 36) hx hb hU iX11 tyX11 tyX11_ok nmX11 hown hK hT hS 0 rfl rfl 2 (by decide) w787 (fun _ h9 => h9) rfl (by decide +kernel) rfl rfl (Nat.le_of_ble_eq_true rfl) dX11_seed_7 (fun H locs hT hS => ?_)
  have hT : TP D A [(h0, ob 8 [.int h0f0, .int h0f1, .int x1, .int h0f3, .int h0f4, .int h0f5, .ref h1, .ref h2, .int h0f8, .int h0f9, .ref h3, .ref h4, .ref h5, .ref h6, .ref h7, .ref h8, .ref h9, .int h0f17, .int h0f18, .int h0f19, .ref h10, .ref h11, .ref h12, .ref h13, .int h0f24, .int h0f25, .ref h14, .ref h15, .ref h16, .ref h17, .int h0f30, .int h0f31, .ref h18, .ref h19, .ref h20, .ref h21])] H := hT
  refine lv_iload_n hx hb dX11_seed_10 rfl (lv_at hl 0 rfl) ?_
  exact tz_retI (B := B_cX11_seed_032f3 D k h0 h1 h2 h3 h4 h5 h6 h7 h8 h9 h10 h11 h12 h13 h14 h15 h16 h17 h18 h19 h20 h21 x1 h0f0 h0f1 h0f2 h0f3 h0f4 h0f5 h0f8 h0f9 h0f17 h0f18 h0f19 h0f24 h0f25 h0f30 h0f31) (v := h0f2) hQ hx hb hr hlocks hS (Nat.le_of_ble_eq_true rfl) (Nat.le_of_ble_eq_true rfl) dX11_seed_11 (⟨rfl, hT⟩)
abbrev Rm_cX5_draw_2ac8d : Room := { frames := 0, cells := 0, slots := 0, locals := 0 }
abbrev B_cX5_draw_2ac8d (D : va_G) (k : Nat → ClassId) (h0 h1 : Nat) (h0f0 : Int32) (h0f1 : Int32) (h0f2 : Int32) (A : Nat → Prop) (r : Int32) (H : Heap) : Prop := ∃ o0 : Int32, (0 ≤ r.toInt ∧ r.toInt ≤ 65535) ∧ TP D A [(h0, ob 4 [.int h0f0, .int h0f1, .int o0, .ref h1])] H
set_option maxHeartbeats 4000000 in
set_option maxRecDepth 100000 in
theorem cX5_draw_2ac8d (l : Launch) (D : va_G) (k : Nat → ClassId) (sz : Nat) (h0 h1 : Nat) (h0f0 : Int32) (h0f1 : Int32) (h0f2 : Int32) (b_h0f0 : 1 ≤ h0f0.toInt ∧ h0f0.toInt ≤ 3) (b_h0f1 : 0 ≤ h0f1.toInt ∧ h0f1.toInt ≤ 3) : Met l yX5_draw (Cond.code yX5_draw cX5_draw 1 (some .int) :: uw) Rm_cX5_draw_2ac8d (pT D k sz [.ref h0] [(h0, ob 4 [.int h0f0, .int h0f1, .int h0f2, .ref h1])]) (qI (B_cX5_draw_2ac8d D k h0 h1 h0f0 h0f1 h0f2 (zA [h0] sz)) (zA [h0] sz)) 0 0 (zA [h0] sz) := by
  refine tz_begin (as := [h0]) (Qc := fun A => qI (B_cX5_draw_2ac8d D k h0 h1 h0f0 h0f1 h0f2 A) A) (by decide +kernel) rfl (Nat.le_of_ble_eq_true rfl) ?_
  intro p e s m args below meth c ls A Q hx hb hr hml hown hlocks hin hU hK hT hS hA hl hQ
  have hl : lv_has ls 1 [(0, .ref h0)] := hl
  have hT : TP D A [(h0, ob 4 [.int h0f0, .int h0f1, .int h0f2, .ref h1])] s.heap := hT
  refine lv_aload_n hx hb dX5_draw_0 rfl (lv_at hl 0 rfl) ?_
  refine lv_aload_n hx hb dX5_draw_1 rfl (lv_at hl 0 rfl) ?_
  refine tz_get (ci := 4) (v := .int h0f2) (C := RX5) (F := TX5) (N := 4) hx hb hU iX5 hown hK hT 0 rfl rfl 2 (by decide) w98 (fun _ h9 => h9) rfl dX5_draw_2 ?_
  refine lv_ldc hx hb hown (hU _ w725) dX5_draw_5 ?_
  refine lv_imul hx hb dX5_draw_7 (lv_topi (fun v1 e_v1 => ?_))
  refine lv_sipush (v := 12345) hx hb dX5_draw_8 (by decide) ?_
  refine lv_iadd hx hb dX5_draw_11 (lv_topi (fun v2 e_v2 => ?_))
  refine tz_put (ci := 4) (v := .int v2) (ty := .int) (C := RX5) (F := TX5) (N := 4) hx hb hU iX5 tyX5 tyX5_ok nmX5 hown hK hT hS 0 rfl rfl 2 (by decide) w98 (fun _ h9 => h9) rfl (by decide +kernel) rfl rfl (Nat.le_of_ble_eq_true rfl) dX5_draw_12 (fun H locs hT hS => ?_)
  have hT : TP D A [(h0, ob 4 [.int h0f0, .int h0f1, .int v2, .ref h1])] H := hT
  refine lv_aload_n hx hb dX5_draw_15 rfl (lv_at hl 0 rfl) ?_
  refine tz_get (ci := 4) (v := .int v2) (C := RX5) (F := TX5) (N := 4) hx hb hU iX5 hown hK hT 0 rfl rfl 2 (by decide) w98 (fun _ h9 => h9) rfl dX5_draw_16 ?_
  refine lv_bipush (v := 16) hx hb dX5_draw_19 (by decide) ?_
  refine lv_iushr hx hb dX5_draw_21 rfl (lv_topi (fun v3 e_v3 => ?_))
  have e_v3 := ai_ushr16 e_v3
  exact tz_retI (B := B_cX5_draw_2ac8d D k h0 h1 h0f0 h0f1 h0f2) (v := v3) hQ hx hb hr hlocks hS (Nat.le_of_ble_eq_true rfl) (Nat.le_of_ble_eq_true rfl) dX5_draw_22 (⟨v2, (by omega), hT⟩)
abbrev Rm_cX10_lot_ac56e : Room := { frames := 4, cells := 0, slots := 0, locals := 91 }
abbrev B_cX10_lot_ac56e (D : va_G) (k : Nat → ClassId) (h0 h1 h7 h11 h13 h2 h3 h4 h5 h6 h8 h9 h10 h12 : Nat) (x1 : Int32) (h0f2 : Int32) (h0f6 : Int32) (h0f8 : Int32) (h0f11 : Int32) (h1f0 : Int32) (h1f1 : Int32) (h1f2 : Int32) (A : Nat → Prop) (r : Int32) (H : Heap) : Prop := ∃ o0 : Int32, ∃ o1 : Int32, ∃ o2 : Int32, ∃ o3 : Int32, (0 ≤ o0.toInt ∧ o0.toInt ≤ 1) ∧ (0 ≤ o1.toInt ∧ o1.toInt ≤ 1) ∧ (0 ≤ o2.toInt ∧ o2.toInt ≤ 4) ∧ ((-1) ≤ r.toInt ∧ r.toInt ≤ 4) ∧ TP D A [(h0, ob 7 [.ref h1, .ref h2, .int h0f2, .ref h3, .ref h4, .ref h5, .int o0, .ref h6, .int o1, .null, .ref h7, .int h0f11, .ref h8, .ref h9, .ref h10, .ref h11, .ref h12]), (h1, ob 4 [.int h1f0, .int o2, .int o3, .ref h13]), (h7, aI (k 0) 8 anI), (h11, aJ (k 1) 9 anJ), (h13, aJ (k 1) 36 anJ)] H
set_option maxHeartbeats 4000000 in
set_option maxRecDepth 100000 in
theorem cX10_lot_ac56e (l : Launch) (D : va_G) (k : Nat → ClassId) (sz : Nat) (h0 h1 h7 h11 h13 h2 h3 h4 h5 h6 h8 h9 h10 h12 : Nat) (x1 : Int32) (h0f2 : Int32) (h0f6 : Int32) (h0f8 : Int32) (h0f11 : Int32) (h1f0 : Int32) (h1f1 : Int32) (h1f2 : Int32) (b_h0f2 : 0 ≤ h0f2.toInt ∧ h0f2.toInt ≤ 1) (b_h0f6 : 0 ≤ h0f6.toInt ∧ h0f6.toInt ≤ 1) (b_h0f8 : 0 ≤ h0f8.toInt ∧ h0f8.toInt ≤ 1) (b_h0f11 : 0 ≤ h0f11.toInt ∧ h0f11.toInt ≤ 200) (b_h1f0 : 1 ≤ h1f0.toInt ∧ h1f0.toInt ≤ 3) (b_h1f1 : 0 ≤ h1f1.toInt ∧ h1f1.toInt ≤ 4) : Met l yX10_lot (Cond.code yX10_lot cX10_lot 6 (some .int) :: uw) Rm_cX10_lot_ac56e (pT D k sz [.ref h0, .int x1] [(h0, ob 7 [.ref h1, .ref h2, .int h0f2, .ref h3, .ref h4, .ref h5, .int h0f6, .ref h6, .int h0f8, .null, .ref h7, .int h0f11, .ref h8, .ref h9, .ref h10, .ref h11, .ref h12]), (h1, ob 4 [.int h1f0, .int h1f1, .int h1f2, .ref h13]), (h7, aI (k 0) 8 anI), (h11, aJ (k 1) 9 anJ), (h13, aJ (k 1) 36 anJ)]) (qI (B_cX10_lot_ac56e D k h0 h1 h7 h11 h13 h2 h3 h4 h5 h6 h8 h9 h10 h12 x1 h0f2 h0f6 h0f8 h0f11 h1f0 h1f1 h1f2 (zA [h0, h1, h7, h11, h13] sz)) (zA [h0, h1, h7, h11, h13] sz)) 0 0 (zA [h0, h1, h7, h11, h13] sz) := by
  refine tz_begin (as := [h0, h1, h7, h11, h13]) (Qc := fun A => qI (B_cX10_lot_ac56e D k h0 h1 h7 h11 h13 h2 h3 h4 h5 h6 h8 h9 h10 h12 x1 h0f2 h0f6 h0f8 h0f11 h1f0 h1f1 h1f2 A) A) (by decide +kernel) rfl (Nat.le_of_ble_eq_true rfl) ?_
  intro p e s m args below meth c ls A Q hx hb hr hml hown hlocks hin hU hK hT hS hA hl hQ
  have hl : lv_has ls 6 [(0, .ref h0), (1, .int x1)] := hl
  have hT : TP D A [(h0, ob 7 [.ref h1, .ref h2, .int h0f2, .ref h3, .ref h4, .ref h5, .int h0f6, .ref h6, .int h0f8, .null, .ref h7, .int h0f11, .ref h8, .ref h9, .ref h10, .ref h11, .ref h12]), (h1, ob 4 [.int h1f0, .int h1f1, .int h1f2, .ref h13]), (h7, aI (k 0) 8 anI), (h11, aJ (k 1) 9 anJ), (h13, aJ (k 1) 36 anJ)] s.heap := hT
  refine lv_iload_n hx hb dX10_lot_0 rfl (lv_at hl 1 rfl) ?_
  refine lv_iconst (v := 1) hx hb dX10_lot_1 (by decide) ?_
  refine lv_icmp_lt (tgt := 10) hx hb dX10_lot_2 (by decide) (fun c_1 => ?_) (fun c_1 => ?_)
  · skip
    have c_1 := ni_lt c_1 rfl li_1
    refine lv_iconst (v := (-1)) hx hb dX10_lot_10 (by decide) ?_
    exact tz_retI (B := B_cX10_lot_ac56e D k h0 h1 h7 h11 h13 h2 h3 h4 h5 h6 h8 h9 h10 h12 x1 h0f2 h0f6 h0f8 h0f11 h1f0 h1f1 h1f2) (v := (-1)) hQ hx hb hr hlocks hS (Nat.le_of_ble_eq_true rfl) (Nat.le_of_ble_eq_true rfl) dX10_lot_11 (⟨h0f6, h0f8, h1f1, h1f2, (by have := li_m1; omega), (by have := li_m1; omega), (by have := li_m1; omega), (by have := li_m1; omega), hT⟩)
  · skip
    have c_1 := ni_nlt c_1 rfl li_1
    refine lv_iload_n hx hb dX10_lot_5 rfl (lv_at hl 1 rfl) ?_
    refine lv_iconst (v := 4) hx hb dX10_lot_6 (by decide) ?_
    refine lv_icmp_le (tgt := 12) hx hb dX10_lot_7 (by decide) (fun c_2 => ?_) (fun c_2 => ?_)
    · skip
      have c_2 := ni_le c_2 rfl li_4
      refine lv_iconst (v := 0) hx hb dX10_lot_12 (by decide) ?_
      refine lv_istore_n (lv' := [(2, .int 0), (0, .ref h0), (1, .int x1)]) hx hb dX10_lot_13 rfl hl (by decide) rfl (fun ls hl => ?_)
      have lp14_23 : ∀ (n : Nat) (y18 : Int32) (y19 : Int32) (y20 : Int32) (y21 : Int32) (y22 : Int32) (H : Heap) (locs : List Loc) (ls : Array Slot), (0 ≤ y18.toInt ∧ y18.toInt ≤ 4) → (0 ≤ y19.toInt ∧ y19.toInt ≤ 1) → (0 ≤ y20.toInt ∧ y20.toInt ≤ 1) → (0 ≤ y21.toInt ∧ y21.toInt ≤ 4) → (x1.toInt + (-1) * y18.toInt + 1).toNat < n → TP D A [(h0, ob 7 [.ref h1, .ref h2, .int h0f2, .ref h3, .ref h4, .ref h5, .int y19, .ref h6, .int y20, .null, .ref h7, .int h0f11, .ref h8, .ref h9, .ref h10, .ref h11, .ref h12]), (h1, ob 4 [.int h1f0, .int y21, .int y22, .ref h13]), (h7, aI (k 0) 8 anI), (h11, aJ (k 1) 9 anJ), (h13, aJ (k 1) 36 anJ)] H → va_S A s.heap H locs → lv_has ls 6 [(0, .ref h0), (1, .int x1), (2, .int y18)] → W p l e Rm_cX10_lot_ac56e s m args below meth c H locs 0 0 Q (F0 m 14 ls []) := by
        intro n
        induction n with
        | zero => intro y18 y19 y20 y21 y22 H locs ls b_y18 b_y19 b_y20 b_y21 hm hT hS hl; exact absurd hm (Nat.not_lt_zero _)
        | succ n ih =>
          intro y18 y19 y20 y21 y22 H locs ls b_y18 b_y19 b_y20 b_y21 hm hT hS hl
          have ih14_23 := ih
          clear ih
          refine lv_iload_n hx hb dX10_lot_14 rfl (lv_at hl 2 rfl) ?_
          refine lv_iload_n hx hb dX10_lot_15 rfl (lv_at hl 1 rfl) ?_
          refine lv_icmp_ge (tgt := 101) hx hb dX10_lot_16 (by decide) (fun c_24 => ?_) (fun c_24 => ?_)
          · skip
            have c_24 := ni_le c_24 rfl rfl
            refine lv_iload_n hx hb dX10_lot_101 rfl (lv_at hl 2 rfl) ?_
            exact tz_retI (B := B_cX10_lot_ac56e D k h0 h1 h7 h11 h13 h2 h3 h4 h5 h6 h8 h9 h10 h12 x1 h0f2 h0f6 h0f8 h0f11 h1f0 h1f1 h1f2) (v := y18) hQ hx hb hr hlocks hS (Nat.le_of_ble_eq_true rfl) (Nat.le_of_ble_eq_true rfl) dX10_lot_102 (⟨y19, y20, y21, y22, (by omega), (by omega), (by omega), (by omega), hT⟩)
          · skip
            have c_24 := ni_nle c_24 rfl rfl
            refine lv_aload_n hx hb dX10_lot_19 rfl (lv_at hl 0 rfl) ?_
            refine tz_get (ci := 7) (v := .ref h1) (C := RX10) (F := TX10) (N := 17) hx hb hU iX10 hown hK hT 0 rfl rfl 0 (by decide) w249 (fun _ h9 => h9) rfl dX10_lot_20 ?_
            refine tcI (Tc := [(h1, ob 4 [.int h1f0, .int y21, .int y22, .ref h13])]) (Tr := [(h0, ob 7 [.ref h1, .ref h2, .int h0f2, .ref h3, .ref h4, .ref h5, .int y19, .ref h6, .int y20, .null, .ref h7, .int h0f11, .ref h8, .ref h9, .ref h10, .ref h11, .ref h12]), (h7, aI (k 0) 8 anI), (h11, aJ (k 1) 9 anJ), (h13, aJ (k 1) 36 anJ)]) (as := [h1]) (zcV (q0 := 1) (ci := 4) (As := []) (rest := []) (Tc := [(h1, ob 4 [.int h1f0, .int y21, .int y22, .ref h13])]) hx hb hml hown hU hK hT rfl rfl [1] rfl (by decide) (cX5_isFull_cc49c l D k _ h1 h13 h1f0 y21 y22 (by omega) (by omega)) w326 w323 w324 w325 w64 hdX5_isFull ⟨rfl, rfl⟩ ⟨Nat.le_of_ble_eq_true rfl, Nat.le_of_ble_eq_true rfl⟩ rfl hl.1 (Nat.le_of_ble_eq_true rfl) dX10_lot_23 ⟨Nat.le_of_ble_eq_true rfl, Nat.le_of_ble_eq_true rfl⟩) hT hS hA [1] [0, 2, 3, 4] rfl rfl rfl (by decide) (by decide) (fun r25 H locs hB J hS => ?_)
            rcases hB with ⟨c_26, rfl, hT1⟩ | ⟨rfl, hT1⟩
            · skip
              have hT := J _ hT1
              have hT : TP D A [(h0, ob 7 [.ref h1, .ref h2, .int h0f2, .ref h3, .ref h4, .ref h5, .int y19, .ref h6, .int y20, .null, .ref h7, .int h0f11, .ref h8, .ref h9, .ref h10, .ref h11, .ref h12]), (h7, aI (k 0) 8 anI), (h11, aJ (k 1) 9 anJ), (h13, aJ (k 1) 36 anJ), (h1, ob 4 [.int h1f0, .int y21, .int y22, .ref h13])] H := hT
              refine lv_if_ne (tgt := 101) hx hb dX10_lot_26 (by decide) (fun cc => absurd (by decide +kernel) cc) (fun _ => ?_)
              refine lv_aload_n hx hb dX10_lot_29 rfl (lv_at hl 0 rfl) ?_
              refine tz_get (ci := 7) (v := .ref h1) (C := RX10) (F := TX10) (N := 17) hx hb hU iX10 hown hK hT 0 rfl rfl 0 (by decide) w249 (fun _ h9 => h9) rfl dX10_lot_30 ?_
              refine tcI (Tc := [(h1, ob 4 [.int h1f0, .int y21, .int y22, .ref h13])]) (Tr := [(h0, ob 7 [.ref h1, .ref h2, .int h0f2, .ref h3, .ref h4, .ref h5, .int y19, .ref h6, .int y20, .null, .ref h7, .int h0f11, .ref h8, .ref h9, .ref h10, .ref h11, .ref h12]), (h7, aI (k 0) 8 anI), (h11, aJ (k 1) 9 anJ), (h13, aJ (k 1) 36 anJ)]) (as := [h1]) (zcV (q0 := 4) (ci := 4) (As := []) (rest := []) (Tc := [(h1, ob 4 [.int h1f0, .int y21, .int y22, .ref h13])]) hx hb hml hown hU hK hT rfl rfl [4] rfl (by decide) (cX5_draw_2ac8d l D k _ h1 h13 h1f0 y21 y22 (by omega) (by omega)) w724 w721 w722 w723 w64 hdX5_draw ⟨rfl, rfl⟩ ⟨Nat.le_of_ble_eq_true rfl, Nat.le_of_ble_eq_true rfl⟩ rfl hl.1 (Nat.le_of_ble_eq_true rfl) dX10_lot_33 ⟨Nat.le_of_ble_eq_true rfl, Nat.le_of_ble_eq_true rfl⟩) hT hS hA [4] [0, 1, 2, 3] rfl rfl rfl (by decide) (by decide) (fun r27 H locs hB J hS => ?_)
              obtain ⟨v28, b_r27, hT1⟩ := hB
              have hT := J _ hT1
              have hT : TP D A [(h0, ob 7 [.ref h1, .ref h2, .int h0f2, .ref h3, .ref h4, .ref h5, .int y19, .ref h6, .int y20, .null, .ref h7, .int h0f11, .ref h8, .ref h9, .ref h10, .ref h11, .ref h12]), (h7, aI (k 0) 8 anI), (h11, aJ (k 1) 9 anJ), (h13, aJ (k 1) 36 anJ), (h1, ob 4 [.int h1f0, .int y21, .int v28, .ref h13])] H := hT
              refine lv_aload_n hx hb dX10_lot_36 rfl (lv_at hl 0 rfl) ?_
              refine tz_get (ci := 7) (v := .ref h1) (C := RX10) (F := TX10) (N := 17) hx hb hU iX10 hown hK hT 0 rfl rfl 0 (by decide) w249 (fun _ h9 => h9) rfl dX10_lot_37 ?_
              refine tz_get (ci := 4) (v := .int h1f0) (C := RX5) (F := TX5) (N := 4) hx hb hU iX5 hown hK hT 4 rfl rfl 0 (by decide) w93 (fun _ h9 => h9) rfl dX10_lot_40 ?_
              refine lv_irem hx hb dX10_lot_43 (nz32 (y := h1f0.toInt) rfl (by omega)) (lv_topi (fun v29 e_v29 => ?_))
              have e_v29 := ai_remv e_v29 rfl rfl (by omega)
              refine lv_istore_n (lv' := [(3, .int v29), (0, .ref h0), (1, .int x1), (2, .int y18)]) hx hb dX10_lot_44 rfl hl (by decide) rfl (fun ls hl => ?_)
              refine lv_aload_n hx hb dX10_lot_45 rfl (lv_at hl 1 rfl) ?_
              refine tz_get (ci := 7) (v := .ref h1) (C := RX10) (F := TX10) (N := 17) hx hb hU iX10 hown hK hT 0 rfl rfl 0 (by decide) w249 (fun _ h9 => h9) rfl dX10_lot_46 ?_
              refine tcI (Tc := [(h1, ob 4 [.int h1f0, .int y21, .int v28, .ref h13])]) (Tr := [(h0, ob 7 [.ref h1, .ref h2, .int h0f2, .ref h3, .ref h4, .ref h5, .int y19, .ref h6, .int y20, .null, .ref h7, .int h0f11, .ref h8, .ref h9, .ref h10, .ref h11, .ref h12]), (h7, aI (k 0) 8 anI), (h11, aJ (k 1) 9 anJ), (h13, aJ (k 1) 36 anJ)]) (as := [h1]) (zcV (q0 := 4) (ci := 4) (As := []) (rest := []) (Tc := [(h1, ob 4 [.int h1f0, .int y21, .int v28, .ref h13])]) hx hb hml hown hU hK hT rfl rfl [4] rfl (by decide) (cX5_draw_2ac8d l D k _ h1 h13 h1f0 y21 v28 (by omega) (by omega)) w724 w721 w722 w723 w64 hdX5_draw ⟨rfl, rfl⟩ ⟨Nat.le_of_ble_eq_true rfl, Nat.le_of_ble_eq_true rfl⟩ rfl hl.1 (Nat.le_of_ble_eq_true rfl) dX10_lot_49 ⟨Nat.le_of_ble_eq_true rfl, Nat.le_of_ble_eq_true rfl⟩) hT hS hA [4] [0, 1, 2, 3] rfl rfl rfl (by decide) (by decide) (fun r30 H locs hB J hS => ?_)
              obtain ⟨v31, b_r30, hT1⟩ := hB
              have hT := J _ hT1
              have hT : TP D A [(h0, ob 7 [.ref h1, .ref h2, .int h0f2, .ref h3, .ref h4, .ref h5, .int y19, .ref h6, .int y20, .null, .ref h7, .int h0f11, .ref h8, .ref h9, .ref h10, .ref h11, .ref h12]), (h7, aI (k 0) 8 anI), (h11, aJ (k 1) 9 anJ), (h13, aJ (k 1) 36 anJ), (h1, ob 4 [.int h1f0, .int y21, .int v31, .ref h13])] H := hT
              refine lv_aload_n hx hb dX10_lot_52 rfl (lv_at hl 1 rfl) ?_
              refine tz_get (ci := 7) (v := .ref h1) (C := RX10) (F := TX10) (N := 17) hx hb hU iX10 hown hK hT 0 rfl rfl 0 (by decide) w249 (fun _ h9 => h9) rfl dX10_lot_53 ?_
              refine tz_get (ci := 4) (v := .int h1f0) (C := RX5) (F := TX5) (N := 4) hx hb hU iX5 hown hK hT 4 rfl rfl 0 (by decide) w93 (fun _ h9 => h9) rfl dX10_lot_56 ?_
              refine lv_irem hx hb dX10_lot_59 (nz32 (y := h1f0.toInt) rfl (by omega)) (lv_topi (fun v32 e_v32 => ?_))
              have e_v32 := ai_remv e_v32 rfl rfl (by omega)
              refine lv_istore (lv' := [(4, .int v32), (3, .int v29), (0, .ref h0), (1, .int x1), (2, .int y18)]) hx hb dX10_lot_60 hl (by decide) rfl (fun ls hl => ?_)
              refine lv_aload_n hx hb dX10_lot_62 rfl (lv_at hl 2 rfl) ?_
              refine tz_get (ci := 7) (v := .ref h1) (C := RX10) (F := TX10) (N := 17) hx hb hU iX10 hown hK hT 0 rfl rfl 0 (by decide) w249 (fun _ h9 => h9) rfl dX10_lot_63 ?_
              refine tcI (Tc := [(h1, ob 4 [.int h1f0, .int y21, .int v31, .ref h13])]) (Tr := [(h0, ob 7 [.ref h1, .ref h2, .int h0f2, .ref h3, .ref h4, .ref h5, .int y19, .ref h6, .int y20, .null, .ref h7, .int h0f11, .ref h8, .ref h9, .ref h10, .ref h11, .ref h12]), (h7, aI (k 0) 8 anI), (h11, aJ (k 1) 9 anJ), (h13, aJ (k 1) 36 anJ)]) (as := [h1]) (zcV (q0 := 4) (ci := 4) (As := []) (rest := []) (Tc := [(h1, ob 4 [.int h1f0, .int y21, .int v31, .ref h13])]) hx hb hml hown hU hK hT rfl rfl [4] rfl (by decide) (cX5_draw_2ac8d l D k _ h1 h13 h1f0 y21 v31 (by omega) (by omega)) w724 w721 w722 w723 w64 hdX5_draw ⟨rfl, rfl⟩ ⟨Nat.le_of_ble_eq_true rfl, Nat.le_of_ble_eq_true rfl⟩ rfl hl.1 (Nat.le_of_ble_eq_true rfl) dX10_lot_66 ⟨Nat.le_of_ble_eq_true rfl, Nat.le_of_ble_eq_true rfl⟩) hT hS hA [4] [0, 1, 2, 3] rfl rfl rfl (by decide) (by decide) (fun r33 H locs hB J hS => ?_)
              obtain ⟨v34, b_r33, hT1⟩ := hB
              have hT := J _ hT1
              have hT : TP D A [(h0, ob 7 [.ref h1, .ref h2, .int h0f2, .ref h3, .ref h4, .ref h5, .int y19, .ref h6, .int y20, .null, .ref h7, .int h0f11, .ref h8, .ref h9, .ref h10, .ref h11, .ref h12]), (h7, aI (k 0) 8 anI), (h11, aJ (k 1) 9 anJ), (h13, aJ (k 1) 36 anJ), (h1, ob 4 [.int h1f0, .int y21, .int v34, .ref h13])] H := hT
              refine lv_iconst (v := 5) hx hb dX10_lot_69 (by decide) ?_
              refine lv_irem hx hb dX10_lot_70 (by decide +kernel) (lv_topi (fun v35 e_v35 => ?_))
              have e_v35 := ai_rem e_v35 rfl li_5 (by omega)
              refine lv_iconst (v := 2) hx hb dX10_lot_71 (by decide) ?_
              refine lv_isub hx hb dX10_lot_72 (lv_topi (fun v36 e_v36 => ?_))
              have e_v36 := ai_sub e_v36 rfl li_2 (by omega)
              refine lv_istore (lv' := [(5, .int v36), (4, .int v32), (3, .int v29), (0, .ref h0), (1, .int x1), (2, .int y18)]) hx hb dX10_lot_73 hl (by decide) rfl (fun ls hl => ?_)
              refine lv_aload_n hx hb dX10_lot_75 rfl (lv_at hl 3 rfl) ?_
              refine lv_iload_n hx hb dX10_lot_76 rfl (lv_at hl 2 rfl) ?_
              refine lv_iload hx hb dX10_lot_77 (lv_at hl 1 rfl) ?_
              refine lv_iload_n hx hb dX10_lot_79 rfl (lv_at hl 2 rfl) ?_
              refine lv_iload hx hb dX10_lot_80 (lv_at hl 1 rfl) ?_
              refine lv_icmp_ne (tgt := 89) hx hb dX10_lot_82 (by decide) (fun c_37 => ?_) (fun c_37 => ?_)
              · skip
                have c_37 := ni_ne c_37 rfl rfl
                refine lv_iload hx hb dX10_lot_89 (lv_at hl 0 rfl) ?_
                refine tcI (Tc := [(h0, ob 7 [.ref h1, .ref h2, .int h0f2, .ref h3, .ref h4, .ref h5, .int y19, .ref h6, .int y20, .null, .ref h7, .int h0f11, .ref h8, .ref h9, .ref h10, .ref h11, .ref h12]), (h1, ob 4 [.int h1f0, .int y21, .int v34, .ref h13]), (h7, aI (k 0) 8 anI), (h11, aJ (k 1) 9 anJ), (h13, aJ (k 1) 36 anJ)]) (Tr := []) (as := [h0, h1, h7, h11, h13]) (zcV (q0 := 0) (ci := 7) (As := [.int v29, .int v32, .int v36]) (rest := []) (Tc := [(h0, ob 7 [.ref h1, .ref h2, .int h0f2, .ref h3, .ref h4, .ref h5, .int y19, .ref h6, .int y20, .null, .ref h7, .int h0f11, .ref h8, .ref h9, .ref h10, .ref h11, .ref h12]), (h1, ob 4 [.int h1f0, .int y21, .int v34, .ref h13]), (h7, aI (k 0) 8 anI), (h11, aJ (k 1) 9 anJ), (h13, aJ (k 1) 36 anJ)]) hx hb hml hown hU hK hT rfl rfl [0, 4, 1, 2, 3] rfl (by decide) (cX10_addUnit_1025d l D k _ h0 h1 h7 h11 h13 h2 h3 h4 h5 h6 h8 h9 h10 h12 v29 v32 v36 h0f2 y19 y20 h0f11 h1f0 y21 v34 (by omega) (by omega) (by omega) (by omega) (by omega) (by omega) (by omega) (by omega)) w330 w327 w329 w1 w63 hdX10_addUnit ⟨rfl, rfl⟩ ⟨Nat.le_of_ble_eq_true rfl, Nat.le_of_ble_eq_true rfl⟩ rfl hl.1 (Nat.le_of_ble_eq_true rfl) dX10_lot_91 ⟨Nat.le_of_ble_eq_true rfl, Nat.le_of_ble_eq_true rfl⟩) hT hS hA [0, 4, 1, 2, 3] [] rfl rfl rfl (by decide) (by decide) (fun r38 H locs hB J hS => ?_)
                obtain ⟨v39, b_v39, b_r38, hT1⟩ := hB
                have hT := J _ hT1
                have hT : TP D A [(h0, ob 7 [.ref h1, .ref h2, .int h0f2, .ref h3, .ref h4, .ref h5, .int 0, .ref h6, .int 0, .null, .ref h7, .int h0f11, .ref h8, .ref h9, .ref h10, .ref h11, .ref h12]), (h1, ob 4 [.int h1f0, .int v39, .int v34, .ref h13]), (h7, aI (k 0) 8 anI), (h11, aJ (k 1) 9 anJ), (h13, aJ (k 1) 36 anJ)] H := hT
                refine lv_pop hx hb dX10_lot_94 rfl ?_
                obtain ⟨v40, e_v40⟩ : ∃ x : Int32, x = y18 + Int32.ofInt 1 := ⟨_, rfl⟩
                have f_v40 := e_v40.symm
                have e_v40 : v40.toInt = y18.toInt + 1 := ai_add e_v40 rfl (show (Int32.ofInt 1).toInt = 1 from (by decide +kernel)) (by omega)
                refine lv_iinc (v := v40) (lv' := [(2, .int v40), (5, .int v36), (4, .int v32), (3, .int v29), (0, .ref h0), (1, .int x1)]) hx hb dX10_lot_95 hl (k := 5) rfl f_v40 (by decide) rfl (fun ls hl => ?_)
                refine lv_goto (tgt := 14) hx hb dX10_lot_98 (by decide) ?_
                exact ih14_23 v40 (0) (0) v39 v34 _ _ _ (by have := li_0; omega) (by have := li_0; omega) (by have := li_0; omega) (by have := li_0; omega)  (by have := li_0; omega) hT hS (lv_sub hl [4, 5, 0] rfl)
              · skip
                have c_37 := ni_eq c_37 rfl rfl
                refine lv_iconst (v := (-1)) hx hb dX10_lot_85 (by decide) ?_
                refine lv_goto (tgt := 91) hx hb dX10_lot_86 (by decide) ?_
                have q_q42 := li_m1
                refine tcI (Tc := [(h0, ob 7 [.ref h1, .ref h2, .int h0f2, .ref h3, .ref h4, .ref h5, .int y19, .ref h6, .int y20, .null, .ref h7, .int h0f11, .ref h8, .ref h9, .ref h10, .ref h11, .ref h12]), (h1, ob 4 [.int h1f0, .int y21, .int v34, .ref h13]), (h7, aI (k 0) 8 anI), (h11, aJ (k 1) 9 anJ), (h13, aJ (k 1) 36 anJ)]) (Tr := []) (as := [h0, h1, h7, h11, h13]) (zcV (q0 := 0) (ci := 7) (As := [.int v29, .int v32, .int (-1)]) (rest := []) (Tc := [(h0, ob 7 [.ref h1, .ref h2, .int h0f2, .ref h3, .ref h4, .ref h5, .int y19, .ref h6, .int y20, .null, .ref h7, .int h0f11, .ref h8, .ref h9, .ref h10, .ref h11, .ref h12]), (h1, ob 4 [.int h1f0, .int y21, .int v34, .ref h13]), (h7, aI (k 0) 8 anI), (h11, aJ (k 1) 9 anJ), (h13, aJ (k 1) 36 anJ)]) hx hb hml hown hU hK hT rfl rfl [0, 4, 1, 2, 3] rfl (by decide) (cX10_addUnit_1025d l D k _ h0 h1 h7 h11 h13 h2 h3 h4 h5 h6 h8 h9 h10 h12 v29 v32 ((-1)) h0f2 y19 y20 h0f11 h1f0 y21 v34 (by omega) (by omega) (by omega) (by omega) (by omega) (by omega) (by omega) (by omega)) w330 w327 w329 w1 w63 hdX10_addUnit ⟨rfl, rfl⟩ ⟨Nat.le_of_ble_eq_true rfl, Nat.le_of_ble_eq_true rfl⟩ rfl hl.1 (Nat.le_of_ble_eq_true rfl) dX10_lot_91 ⟨Nat.le_of_ble_eq_true rfl, Nat.le_of_ble_eq_true rfl⟩) hT hS hA [0, 4, 1, 2, 3] [] rfl rfl rfl (by decide) (by decide) (fun r41 H locs hB J hS => ?_)
                obtain ⟨v43, b_v43, b_r41, hT1⟩ := hB
                have hT := J _ hT1
                have hT : TP D A [(h0, ob 7 [.ref h1, .ref h2, .int h0f2, .ref h3, .ref h4, .ref h5, .int 0, .ref h6, .int 0, .null, .ref h7, .int h0f11, .ref h8, .ref h9, .ref h10, .ref h11, .ref h12]), (h1, ob 4 [.int h1f0, .int v43, .int v34, .ref h13]), (h7, aI (k 0) 8 anI), (h11, aJ (k 1) 9 anJ), (h13, aJ (k 1) 36 anJ)] H := hT
                refine lv_pop hx hb dX10_lot_94 rfl ?_
                obtain ⟨v44, e_v44⟩ : ∃ x : Int32, x = y18 + Int32.ofInt 1 := ⟨_, rfl⟩
                have f_v44 := e_v44.symm
                have e_v44 : v44.toInt = y18.toInt + 1 := ai_add e_v44 rfl (show (Int32.ofInt 1).toInt = 1 from (by decide +kernel)) (by omega)
                refine lv_iinc (v := v44) (lv' := [(2, .int v44), (5, .int v36), (4, .int v32), (3, .int v29), (0, .ref h0), (1, .int x1)]) hx hb dX10_lot_95 hl (k := 5) rfl f_v44 (by decide) rfl (fun ls hl => ?_)
                refine lv_goto (tgt := 14) hx hb dX10_lot_98 (by decide) ?_
                exact ih14_23 v44 (0) (0) v43 v34 _ _ _ (by have := li_0; omega) (by have := li_0; omega) (by have := li_0; omega) (by have := li_0; omega)  (by have := li_0; omega) hT hS (lv_sub hl [4, 5, 0] rfl)
            · skip
              have hT := J _ hT1
              have hT : TP D A [(h0, ob 7 [.ref h1, .ref h2, .int h0f2, .ref h3, .ref h4, .ref h5, .int y19, .ref h6, .int y20, .null, .ref h7, .int h0f11, .ref h8, .ref h9, .ref h10, .ref h11, .ref h12]), (h7, aI (k 0) 8 anI), (h11, aJ (k 1) 9 anJ), (h13, aJ (k 1) 36 anJ), (h1, ob 4 [.int h1f0, .int y21, .int y22, .ref h13])] H := hT
              refine lv_if_ne (tgt := 101) hx hb dX10_lot_26 (by decide) (fun _ => ?_) (fun cc => absurd cc (by decide +kernel))
              refine lv_iload_n hx hb dX10_lot_101 rfl (lv_at hl 2 rfl) ?_
              exact tz_retI (B := B_cX10_lot_ac56e D k h0 h1 h7 h11 h13 h2 h3 h4 h5 h6 h8 h9 h10 h12 x1 h0f2 h0f6 h0f8 h0f11 h1f0 h1f1 h1f2) (v := y18) hQ hx hb hr hlocks hS (Nat.le_of_ble_eq_true rfl) (Nat.le_of_ble_eq_true rfl) dX10_lot_102 (⟨y19, y20, y21, y22, (by omega), (by omega), (by omega), (by omega), (hT.sub [0, 4, 1, 2, 3] (by decide) rfl)⟩)
      exact lp14_23 ((x1.toInt + (-1) * (0 : Int32).toInt + 1).toNat + 1) (0) h0f6 h0f8 h1f1 h1f2 _ _ _ (by have := li_0; omega) (by have := li_0; omega) (by have := li_0; omega) (by have := li_0; omega)  (Nat.lt_succ_self _) hT hS (lv_sub hl [1, 2, 0] rfl)
    · skip
      have c_2 := ni_nle c_2 rfl li_4
      refine lv_iconst (v := (-1)) hx hb dX10_lot_10 (by decide) ?_
      exact tz_retI (B := B_cX10_lot_ac56e D k h0 h1 h7 h11 h13 h2 h3 h4 h5 h6 h8 h9 h10 h12 x1 h0f2 h0f6 h0f8 h0f11 h1f0 h1f1 h1f2) (v := (-1)) hQ hx hb hr hlocks hS (Nat.le_of_ble_eq_true rfl) (Nat.le_of_ble_eq_true rfl) dX10_lot_11 (⟨h0f6, h0f8, h1f1, h1f2, (by have := li_m1; omega), (by have := li_m1; omega), (by have := li_m1; omega), (by have := li_m1; omega), hT⟩)
abbrev Rm_cX10_lot_0bdd7 : Room := { frames := 4, cells := 0, slots := 0, locals := 91 }
abbrev B_cX10_lot_0bdd7 (D : va_G) (k : Nat → ClassId) (h0 h1 h8 h12 h14 h2 h3 h4 h5 h6 h7 h9 h10 h11 h13 : Nat) (x1 : Int32) (h0f2 : Int32) (h0f6 : Int32) (h0f8 : Int32) (h0f11 : Int32) (h1f0 : Int32) (h1f1 : Int32) (h1f2 : Int32) (A : Nat → Prop) (r : Int32) (H : Heap) : Prop := ∃ o0 : Int32, ∃ o1 : Int32, ∃ o2 : Int32, ∃ o3 : Int32, (0 ≤ o0.toInt ∧ o0.toInt ≤ 1) ∧ (0 ≤ o1.toInt ∧ o1.toInt ≤ 1) ∧ (0 ≤ o2.toInt ∧ o2.toInt ≤ 4) ∧ ((-1) ≤ r.toInt ∧ r.toInt ≤ 4) ∧ TP D A [(h0, ob 7 [.ref h1, .ref h2, .int h0f2, .ref h3, .ref h4, .ref h5, .int o0, .ref h6, .int o1, .ref h7, .ref h8, .int h0f11, .ref h9, .ref h10, .ref h11, .ref h12, .ref h13]), (h1, ob 4 [.int h1f0, .int o2, .int o3, .ref h14]), (h8, aI (k 0) 8 anI), (h12, aJ (k 1) 9 anJ), (h14, aJ (k 1) 36 anJ)] H
set_option maxHeartbeats 4000000 in
set_option maxRecDepth 100000 in
theorem cX10_lot_0bdd7 (l : Launch) (D : va_G) (k : Nat → ClassId) (sz : Nat) (h0 h1 h8 h12 h14 h2 h3 h4 h5 h6 h7 h9 h10 h11 h13 : Nat) (x1 : Int32) (h0f2 : Int32) (h0f6 : Int32) (h0f8 : Int32) (h0f11 : Int32) (h1f0 : Int32) (h1f1 : Int32) (h1f2 : Int32) (b_h0f2 : 0 ≤ h0f2.toInt ∧ h0f2.toInt ≤ 1) (b_h0f6 : 0 ≤ h0f6.toInt ∧ h0f6.toInt ≤ 1) (b_h0f8 : 0 ≤ h0f8.toInt ∧ h0f8.toInt ≤ 1) (b_h0f11 : 0 ≤ h0f11.toInt ∧ h0f11.toInt ≤ 200) (b_h1f0 : 1 ≤ h1f0.toInt ∧ h1f0.toInt ≤ 3) (b_h1f1 : 0 ≤ h1f1.toInt ∧ h1f1.toInt ≤ 4) : Met l yX10_lot (Cond.code yX10_lot cX10_lot 6 (some .int) :: uw) Rm_cX10_lot_0bdd7 (pT D k sz [.ref h0, .int x1] [(h0, ob 7 [.ref h1, .ref h2, .int h0f2, .ref h3, .ref h4, .ref h5, .int h0f6, .ref h6, .int h0f8, .ref h7, .ref h8, .int h0f11, .ref h9, .ref h10, .ref h11, .ref h12, .ref h13]), (h1, ob 4 [.int h1f0, .int h1f1, .int h1f2, .ref h14]), (h8, aI (k 0) 8 anI), (h12, aJ (k 1) 9 anJ), (h14, aJ (k 1) 36 anJ)]) (qI (B_cX10_lot_0bdd7 D k h0 h1 h8 h12 h14 h2 h3 h4 h5 h6 h7 h9 h10 h11 h13 x1 h0f2 h0f6 h0f8 h0f11 h1f0 h1f1 h1f2 (zA [h0, h1, h8, h12, h14] sz)) (zA [h0, h1, h8, h12, h14] sz)) 0 0 (zA [h0, h1, h8, h12, h14] sz) := by
  refine tz_begin (as := [h0, h1, h8, h12, h14]) (Qc := fun A => qI (B_cX10_lot_0bdd7 D k h0 h1 h8 h12 h14 h2 h3 h4 h5 h6 h7 h9 h10 h11 h13 x1 h0f2 h0f6 h0f8 h0f11 h1f0 h1f1 h1f2 A) A) (by decide +kernel) rfl (Nat.le_of_ble_eq_true rfl) ?_
  intro p e s m args below meth c ls A Q hx hb hr hml hown hlocks hin hU hK hT hS hA hl hQ
  have hl : lv_has ls 6 [(0, .ref h0), (1, .int x1)] := hl
  have hT : TP D A [(h0, ob 7 [.ref h1, .ref h2, .int h0f2, .ref h3, .ref h4, .ref h5, .int h0f6, .ref h6, .int h0f8, .ref h7, .ref h8, .int h0f11, .ref h9, .ref h10, .ref h11, .ref h12, .ref h13]), (h1, ob 4 [.int h1f0, .int h1f1, .int h1f2, .ref h14]), (h8, aI (k 0) 8 anI), (h12, aJ (k 1) 9 anJ), (h14, aJ (k 1) 36 anJ)] s.heap := hT
  refine lv_iload_n hx hb dX10_lot_0 rfl (lv_at hl 1 rfl) ?_
  refine lv_iconst (v := 1) hx hb dX10_lot_1 (by decide) ?_
  refine lv_icmp_lt (tgt := 10) hx hb dX10_lot_2 (by decide) (fun c_1 => ?_) (fun c_1 => ?_)
  · skip
    have c_1 := ni_lt c_1 rfl li_1
    refine lv_iconst (v := (-1)) hx hb dX10_lot_10 (by decide) ?_
    exact tz_retI (B := B_cX10_lot_0bdd7 D k h0 h1 h8 h12 h14 h2 h3 h4 h5 h6 h7 h9 h10 h11 h13 x1 h0f2 h0f6 h0f8 h0f11 h1f0 h1f1 h1f2) (v := (-1)) hQ hx hb hr hlocks hS (Nat.le_of_ble_eq_true rfl) (Nat.le_of_ble_eq_true rfl) dX10_lot_11 (⟨h0f6, h0f8, h1f1, h1f2, (by have := li_m1; omega), (by have := li_m1; omega), (by have := li_m1; omega), (by have := li_m1; omega), hT⟩)
  · skip
    have c_1 := ni_nlt c_1 rfl li_1
    refine lv_iload_n hx hb dX10_lot_5 rfl (lv_at hl 1 rfl) ?_
    refine lv_iconst (v := 4) hx hb dX10_lot_6 (by decide) ?_
    refine lv_icmp_le (tgt := 12) hx hb dX10_lot_7 (by decide) (fun c_2 => ?_) (fun c_2 => ?_)
    · skip
      have c_2 := ni_le c_2 rfl li_4
      refine lv_iconst (v := 0) hx hb dX10_lot_12 (by decide) ?_
      refine lv_istore_n (lv' := [(2, .int 0), (0, .ref h0), (1, .int x1)]) hx hb dX10_lot_13 rfl hl (by decide) rfl (fun ls hl => ?_)
      have lp14_23 : ∀ (n : Nat) (y18 : Int32) (y19 : Int32) (y20 : Int32) (y21 : Int32) (y22 : Int32) (H : Heap) (locs : List Loc) (ls : Array Slot), (0 ≤ y18.toInt ∧ y18.toInt ≤ 4) → (0 ≤ y19.toInt ∧ y19.toInt ≤ 1) → (0 ≤ y20.toInt ∧ y20.toInt ≤ 1) → (0 ≤ y21.toInt ∧ y21.toInt ≤ 4) → (x1.toInt + (-1) * y18.toInt + 1).toNat < n → TP D A [(h0, ob 7 [.ref h1, .ref h2, .int h0f2, .ref h3, .ref h4, .ref h5, .int y19, .ref h6, .int y20, .ref h7, .ref h8, .int h0f11, .ref h9, .ref h10, .ref h11, .ref h12, .ref h13]), (h1, ob 4 [.int h1f0, .int y21, .int y22, .ref h14]), (h8, aI (k 0) 8 anI), (h12, aJ (k 1) 9 anJ), (h14, aJ (k 1) 36 anJ)] H → va_S A s.heap H locs → lv_has ls 6 [(0, .ref h0), (1, .int x1), (2, .int y18)] → W p l e Rm_cX10_lot_0bdd7 s m args below meth c H locs 0 0 Q (F0 m 14 ls []) := by
        intro n
        induction n with
        | zero => intro y18 y19 y20 y21 y22 H locs ls b_y18 b_y19 b_y20 b_y21 hm hT hS hl; exact absurd hm (Nat.not_lt_zero _)
        | succ n ih =>
          intro y18 y19 y20 y21 y22 H locs ls b_y18 b_y19 b_y20 b_y21 hm hT hS hl
          have ih14_23 := ih
          clear ih
          refine lv_iload_n hx hb dX10_lot_14 rfl (lv_at hl 2 rfl) ?_
          refine lv_iload_n hx hb dX10_lot_15 rfl (lv_at hl 1 rfl) ?_
          refine lv_icmp_ge (tgt := 101) hx hb dX10_lot_16 (by decide) (fun c_24 => ?_) (fun c_24 => ?_)
          · skip
            have c_24 := ni_le c_24 rfl rfl
            refine lv_iload_n hx hb dX10_lot_101 rfl (lv_at hl 2 rfl) ?_
            exact tz_retI (B := B_cX10_lot_0bdd7 D k h0 h1 h8 h12 h14 h2 h3 h4 h5 h6 h7 h9 h10 h11 h13 x1 h0f2 h0f6 h0f8 h0f11 h1f0 h1f1 h1f2) (v := y18) hQ hx hb hr hlocks hS (Nat.le_of_ble_eq_true rfl) (Nat.le_of_ble_eq_true rfl) dX10_lot_102 (⟨y19, y20, y21, y22, (by omega), (by omega), (by omega), (by omega), hT⟩)
          · skip
            have c_24 := ni_nle c_24 rfl rfl
            refine lv_aload_n hx hb dX10_lot_19 rfl (lv_at hl 0 rfl) ?_
            refine tz_get (ci := 7) (v := .ref h1) (C := RX10) (F := TX10) (N := 17) hx hb hU iX10 hown hK hT 0 rfl rfl 0 (by decide) w249 (fun _ h9 => h9) rfl dX10_lot_20 ?_
            refine tcI (Tc := [(h1, ob 4 [.int h1f0, .int y21, .int y22, .ref h14])]) (Tr := [(h0, ob 7 [.ref h1, .ref h2, .int h0f2, .ref h3, .ref h4, .ref h5, .int y19, .ref h6, .int y20, .ref h7, .ref h8, .int h0f11, .ref h9, .ref h10, .ref h11, .ref h12, .ref h13]), (h8, aI (k 0) 8 anI), (h12, aJ (k 1) 9 anJ), (h14, aJ (k 1) 36 anJ)]) (as := [h1]) (zcV (q0 := 1) (ci := 4) (As := []) (rest := []) (Tc := [(h1, ob 4 [.int h1f0, .int y21, .int y22, .ref h14])]) hx hb hml hown hU hK hT rfl rfl [1] rfl (by decide) (cX5_isFull_cc49c l D k _ h1 h14 h1f0 y21 y22 (by omega) (by omega)) w326 w323 w324 w325 w64 hdX5_isFull ⟨rfl, rfl⟩ ⟨Nat.le_of_ble_eq_true rfl, Nat.le_of_ble_eq_true rfl⟩ rfl hl.1 (Nat.le_of_ble_eq_true rfl) dX10_lot_23 ⟨Nat.le_of_ble_eq_true rfl, Nat.le_of_ble_eq_true rfl⟩) hT hS hA [1] [0, 2, 3, 4] rfl rfl rfl (by decide) (by decide) (fun r25 H locs hB J hS => ?_)
            rcases hB with ⟨c_26, rfl, hT1⟩ | ⟨rfl, hT1⟩
            · skip
              have hT := J _ hT1
              have hT : TP D A [(h0, ob 7 [.ref h1, .ref h2, .int h0f2, .ref h3, .ref h4, .ref h5, .int y19, .ref h6, .int y20, .ref h7, .ref h8, .int h0f11, .ref h9, .ref h10, .ref h11, .ref h12, .ref h13]), (h8, aI (k 0) 8 anI), (h12, aJ (k 1) 9 anJ), (h14, aJ (k 1) 36 anJ), (h1, ob 4 [.int h1f0, .int y21, .int y22, .ref h14])] H := hT
              refine lv_if_ne (tgt := 101) hx hb dX10_lot_26 (by decide) (fun cc => absurd (by decide +kernel) cc) (fun _ => ?_)
              refine lv_aload_n hx hb dX10_lot_29 rfl (lv_at hl 0 rfl) ?_
              refine tz_get (ci := 7) (v := .ref h1) (C := RX10) (F := TX10) (N := 17) hx hb hU iX10 hown hK hT 0 rfl rfl 0 (by decide) w249 (fun _ h9 => h9) rfl dX10_lot_30 ?_
              refine tcI (Tc := [(h1, ob 4 [.int h1f0, .int y21, .int y22, .ref h14])]) (Tr := [(h0, ob 7 [.ref h1, .ref h2, .int h0f2, .ref h3, .ref h4, .ref h5, .int y19, .ref h6, .int y20, .ref h7, .ref h8, .int h0f11, .ref h9, .ref h10, .ref h11, .ref h12, .ref h13]), (h8, aI (k 0) 8 anI), (h12, aJ (k 1) 9 anJ), (h14, aJ (k 1) 36 anJ)]) (as := [h1]) (zcV (q0 := 4) (ci := 4) (As := []) (rest := []) (Tc := [(h1, ob 4 [.int h1f0, .int y21, .int y22, .ref h14])]) hx hb hml hown hU hK hT rfl rfl [4] rfl (by decide) (cX5_draw_2ac8d l D k _ h1 h14 h1f0 y21 y22 (by omega) (by omega)) w724 w721 w722 w723 w64 hdX5_draw ⟨rfl, rfl⟩ ⟨Nat.le_of_ble_eq_true rfl, Nat.le_of_ble_eq_true rfl⟩ rfl hl.1 (Nat.le_of_ble_eq_true rfl) dX10_lot_33 ⟨Nat.le_of_ble_eq_true rfl, Nat.le_of_ble_eq_true rfl⟩) hT hS hA [4] [0, 1, 2, 3] rfl rfl rfl (by decide) (by decide) (fun r27 H locs hB J hS => ?_)
              obtain ⟨v28, b_r27, hT1⟩ := hB
              have hT := J _ hT1
              have hT : TP D A [(h0, ob 7 [.ref h1, .ref h2, .int h0f2, .ref h3, .ref h4, .ref h5, .int y19, .ref h6, .int y20, .ref h7, .ref h8, .int h0f11, .ref h9, .ref h10, .ref h11, .ref h12, .ref h13]), (h8, aI (k 0) 8 anI), (h12, aJ (k 1) 9 anJ), (h14, aJ (k 1) 36 anJ), (h1, ob 4 [.int h1f0, .int y21, .int v28, .ref h14])] H := hT
              refine lv_aload_n hx hb dX10_lot_36 rfl (lv_at hl 0 rfl) ?_
              refine tz_get (ci := 7) (v := .ref h1) (C := RX10) (F := TX10) (N := 17) hx hb hU iX10 hown hK hT 0 rfl rfl 0 (by decide) w249 (fun _ h9 => h9) rfl dX10_lot_37 ?_
              refine tz_get (ci := 4) (v := .int h1f0) (C := RX5) (F := TX5) (N := 4) hx hb hU iX5 hown hK hT 4 rfl rfl 0 (by decide) w93 (fun _ h9 => h9) rfl dX10_lot_40 ?_
              refine lv_irem hx hb dX10_lot_43 (nz32 (y := h1f0.toInt) rfl (by omega)) (lv_topi (fun v29 e_v29 => ?_))
              have e_v29 := ai_remv e_v29 rfl rfl (by omega)
              refine lv_istore_n (lv' := [(3, .int v29), (0, .ref h0), (1, .int x1), (2, .int y18)]) hx hb dX10_lot_44 rfl hl (by decide) rfl (fun ls hl => ?_)
              refine lv_aload_n hx hb dX10_lot_45 rfl (lv_at hl 1 rfl) ?_
              refine tz_get (ci := 7) (v := .ref h1) (C := RX10) (F := TX10) (N := 17) hx hb hU iX10 hown hK hT 0 rfl rfl 0 (by decide) w249 (fun _ h9 => h9) rfl dX10_lot_46 ?_
              refine tcI (Tc := [(h1, ob 4 [.int h1f0, .int y21, .int v28, .ref h14])]) (Tr := [(h0, ob 7 [.ref h1, .ref h2, .int h0f2, .ref h3, .ref h4, .ref h5, .int y19, .ref h6, .int y20, .ref h7, .ref h8, .int h0f11, .ref h9, .ref h10, .ref h11, .ref h12, .ref h13]), (h8, aI (k 0) 8 anI), (h12, aJ (k 1) 9 anJ), (h14, aJ (k 1) 36 anJ)]) (as := [h1]) (zcV (q0 := 4) (ci := 4) (As := []) (rest := []) (Tc := [(h1, ob 4 [.int h1f0, .int y21, .int v28, .ref h14])]) hx hb hml hown hU hK hT rfl rfl [4] rfl (by decide) (cX5_draw_2ac8d l D k _ h1 h14 h1f0 y21 v28 (by omega) (by omega)) w724 w721 w722 w723 w64 hdX5_draw ⟨rfl, rfl⟩ ⟨Nat.le_of_ble_eq_true rfl, Nat.le_of_ble_eq_true rfl⟩ rfl hl.1 (Nat.le_of_ble_eq_true rfl) dX10_lot_49 ⟨Nat.le_of_ble_eq_true rfl, Nat.le_of_ble_eq_true rfl⟩) hT hS hA [4] [0, 1, 2, 3] rfl rfl rfl (by decide) (by decide) (fun r30 H locs hB J hS => ?_)
              obtain ⟨v31, b_r30, hT1⟩ := hB
              have hT := J _ hT1
              have hT : TP D A [(h0, ob 7 [.ref h1, .ref h2, .int h0f2, .ref h3, .ref h4, .ref h5, .int y19, .ref h6, .int y20, .ref h7, .ref h8, .int h0f11, .ref h9, .ref h10, .ref h11, .ref h12, .ref h13]), (h8, aI (k 0) 8 anI), (h12, aJ (k 1) 9 anJ), (h14, aJ (k 1) 36 anJ), (h1, ob 4 [.int h1f0, .int y21, .int v31, .ref h14])] H := hT
              refine lv_aload_n hx hb dX10_lot_52 rfl (lv_at hl 1 rfl) ?_
              refine tz_get (ci := 7) (v := .ref h1) (C := RX10) (F := TX10) (N := 17) hx hb hU iX10 hown hK hT 0 rfl rfl 0 (by decide) w249 (fun _ h9 => h9) rfl dX10_lot_53 ?_
              refine tz_get (ci := 4) (v := .int h1f0) (C := RX5) (F := TX5) (N := 4) hx hb hU iX5 hown hK hT 4 rfl rfl 0 (by decide) w93 (fun _ h9 => h9) rfl dX10_lot_56 ?_
              refine lv_irem hx hb dX10_lot_59 (nz32 (y := h1f0.toInt) rfl (by omega)) (lv_topi (fun v32 e_v32 => ?_))
              have e_v32 := ai_remv e_v32 rfl rfl (by omega)
              refine lv_istore (lv' := [(4, .int v32), (3, .int v29), (0, .ref h0), (1, .int x1), (2, .int y18)]) hx hb dX10_lot_60 hl (by decide) rfl (fun ls hl => ?_)
              refine lv_aload_n hx hb dX10_lot_62 rfl (lv_at hl 2 rfl) ?_
              refine tz_get (ci := 7) (v := .ref h1) (C := RX10) (F := TX10) (N := 17) hx hb hU iX10 hown hK hT 0 rfl rfl 0 (by decide) w249 (fun _ h9 => h9) rfl dX10_lot_63 ?_
              refine tcI (Tc := [(h1, ob 4 [.int h1f0, .int y21, .int v31, .ref h14])]) (Tr := [(h0, ob 7 [.ref h1, .ref h2, .int h0f2, .ref h3, .ref h4, .ref h5, .int y19, .ref h6, .int y20, .ref h7, .ref h8, .int h0f11, .ref h9, .ref h10, .ref h11, .ref h12, .ref h13]), (h8, aI (k 0) 8 anI), (h12, aJ (k 1) 9 anJ), (h14, aJ (k 1) 36 anJ)]) (as := [h1]) (zcV (q0 := 4) (ci := 4) (As := []) (rest := []) (Tc := [(h1, ob 4 [.int h1f0, .int y21, .int v31, .ref h14])]) hx hb hml hown hU hK hT rfl rfl [4] rfl (by decide) (cX5_draw_2ac8d l D k _ h1 h14 h1f0 y21 v31 (by omega) (by omega)) w724 w721 w722 w723 w64 hdX5_draw ⟨rfl, rfl⟩ ⟨Nat.le_of_ble_eq_true rfl, Nat.le_of_ble_eq_true rfl⟩ rfl hl.1 (Nat.le_of_ble_eq_true rfl) dX10_lot_66 ⟨Nat.le_of_ble_eq_true rfl, Nat.le_of_ble_eq_true rfl⟩) hT hS hA [4] [0, 1, 2, 3] rfl rfl rfl (by decide) (by decide) (fun r33 H locs hB J hS => ?_)
              obtain ⟨v34, b_r33, hT1⟩ := hB
              have hT := J _ hT1
              have hT : TP D A [(h0, ob 7 [.ref h1, .ref h2, .int h0f2, .ref h3, .ref h4, .ref h5, .int y19, .ref h6, .int y20, .ref h7, .ref h8, .int h0f11, .ref h9, .ref h10, .ref h11, .ref h12, .ref h13]), (h8, aI (k 0) 8 anI), (h12, aJ (k 1) 9 anJ), (h14, aJ (k 1) 36 anJ), (h1, ob 4 [.int h1f0, .int y21, .int v34, .ref h14])] H := hT
              refine lv_iconst (v := 5) hx hb dX10_lot_69 (by decide) ?_
              refine lv_irem hx hb dX10_lot_70 (by decide +kernel) (lv_topi (fun v35 e_v35 => ?_))
              have e_v35 := ai_rem e_v35 rfl li_5 (by omega)
              refine lv_iconst (v := 2) hx hb dX10_lot_71 (by decide) ?_
              refine lv_isub hx hb dX10_lot_72 (lv_topi (fun v36 e_v36 => ?_))
              have e_v36 := ai_sub e_v36 rfl li_2 (by omega)
              refine lv_istore (lv' := [(5, .int v36), (4, .int v32), (3, .int v29), (0, .ref h0), (1, .int x1), (2, .int y18)]) hx hb dX10_lot_73 hl (by decide) rfl (fun ls hl => ?_)
              refine lv_aload_n hx hb dX10_lot_75 rfl (lv_at hl 3 rfl) ?_
              refine lv_iload_n hx hb dX10_lot_76 rfl (lv_at hl 2 rfl) ?_
              refine lv_iload hx hb dX10_lot_77 (lv_at hl 1 rfl) ?_
              refine lv_iload_n hx hb dX10_lot_79 rfl (lv_at hl 2 rfl) ?_
              refine lv_iload hx hb dX10_lot_80 (lv_at hl 1 rfl) ?_
              refine lv_icmp_ne (tgt := 89) hx hb dX10_lot_82 (by decide) (fun c_37 => ?_) (fun c_37 => ?_)
              · skip
                have c_37 := ni_ne c_37 rfl rfl
                refine lv_iload hx hb dX10_lot_89 (lv_at hl 0 rfl) ?_
                refine tcI (Tc := [(h0, ob 7 [.ref h1, .ref h2, .int h0f2, .ref h3, .ref h4, .ref h5, .int y19, .ref h6, .int y20, .ref h7, .ref h8, .int h0f11, .ref h9, .ref h10, .ref h11, .ref h12, .ref h13]), (h1, ob 4 [.int h1f0, .int y21, .int v34, .ref h14]), (h8, aI (k 0) 8 anI), (h12, aJ (k 1) 9 anJ), (h14, aJ (k 1) 36 anJ)]) (Tr := []) (as := [h0, h1, h8, h12, h14]) (zcV (q0 := 0) (ci := 7) (As := [.int v29, .int v32, .int v36]) (rest := []) (Tc := [(h0, ob 7 [.ref h1, .ref h2, .int h0f2, .ref h3, .ref h4, .ref h5, .int y19, .ref h6, .int y20, .ref h7, .ref h8, .int h0f11, .ref h9, .ref h10, .ref h11, .ref h12, .ref h13]), (h1, ob 4 [.int h1f0, .int y21, .int v34, .ref h14]), (h8, aI (k 0) 8 anI), (h12, aJ (k 1) 9 anJ), (h14, aJ (k 1) 36 anJ)]) hx hb hml hown hU hK hT rfl rfl [0, 4, 1, 2, 3] rfl (by decide) (cX10_addUnit_eaa32 l D k _ h0 h1 h8 h12 h14 h2 h3 h4 h5 h6 h7 h9 h10 h11 h13 v29 v32 v36 h0f2 y19 y20 h0f11 h1f0 y21 v34 (by omega) (by omega) (by omega) (by omega) (by omega) (by omega) (by omega) (by omega)) w330 w327 w329 w1 w63 hdX10_addUnit ⟨rfl, rfl⟩ ⟨Nat.le_of_ble_eq_true rfl, Nat.le_of_ble_eq_true rfl⟩ rfl hl.1 (Nat.le_of_ble_eq_true rfl) dX10_lot_91 ⟨Nat.le_of_ble_eq_true rfl, Nat.le_of_ble_eq_true rfl⟩) hT hS hA [0, 4, 1, 2, 3] [] rfl rfl rfl (by decide) (by decide) (fun r38 H locs hB J hS => ?_)
                obtain ⟨v39, b_v39, b_r38, hT1⟩ := hB
                have hT := J _ hT1
                have hT : TP D A [(h0, ob 7 [.ref h1, .ref h2, .int h0f2, .ref h3, .ref h4, .ref h5, .int 0, .ref h6, .int 0, .ref h7, .ref h8, .int h0f11, .ref h9, .ref h10, .ref h11, .ref h12, .ref h13]), (h1, ob 4 [.int h1f0, .int v39, .int v34, .ref h14]), (h8, aI (k 0) 8 anI), (h12, aJ (k 1) 9 anJ), (h14, aJ (k 1) 36 anJ)] H := hT
                refine lv_pop hx hb dX10_lot_94 rfl ?_
                obtain ⟨v40, e_v40⟩ : ∃ x : Int32, x = y18 + Int32.ofInt 1 := ⟨_, rfl⟩
                have f_v40 := e_v40.symm
                have e_v40 : v40.toInt = y18.toInt + 1 := ai_add e_v40 rfl (show (Int32.ofInt 1).toInt = 1 from (by decide +kernel)) (by omega)
                refine lv_iinc (v := v40) (lv' := [(2, .int v40), (5, .int v36), (4, .int v32), (3, .int v29), (0, .ref h0), (1, .int x1)]) hx hb dX10_lot_95 hl (k := 5) rfl f_v40 (by decide) rfl (fun ls hl => ?_)
                refine lv_goto (tgt := 14) hx hb dX10_lot_98 (by decide) ?_
                exact ih14_23 v40 (0) (0) v39 v34 _ _ _ (by have := li_0; omega) (by have := li_0; omega) (by have := li_0; omega) (by have := li_0; omega)  (by have := li_0; omega) hT hS (lv_sub hl [4, 5, 0] rfl)
              · skip
                have c_37 := ni_eq c_37 rfl rfl
                refine lv_iconst (v := (-1)) hx hb dX10_lot_85 (by decide) ?_
                refine lv_goto (tgt := 91) hx hb dX10_lot_86 (by decide) ?_
                have q_q42 := li_m1
                refine tcI (Tc := [(h0, ob 7 [.ref h1, .ref h2, .int h0f2, .ref h3, .ref h4, .ref h5, .int y19, .ref h6, .int y20, .ref h7, .ref h8, .int h0f11, .ref h9, .ref h10, .ref h11, .ref h12, .ref h13]), (h1, ob 4 [.int h1f0, .int y21, .int v34, .ref h14]), (h8, aI (k 0) 8 anI), (h12, aJ (k 1) 9 anJ), (h14, aJ (k 1) 36 anJ)]) (Tr := []) (as := [h0, h1, h8, h12, h14]) (zcV (q0 := 0) (ci := 7) (As := [.int v29, .int v32, .int (-1)]) (rest := []) (Tc := [(h0, ob 7 [.ref h1, .ref h2, .int h0f2, .ref h3, .ref h4, .ref h5, .int y19, .ref h6, .int y20, .ref h7, .ref h8, .int h0f11, .ref h9, .ref h10, .ref h11, .ref h12, .ref h13]), (h1, ob 4 [.int h1f0, .int y21, .int v34, .ref h14]), (h8, aI (k 0) 8 anI), (h12, aJ (k 1) 9 anJ), (h14, aJ (k 1) 36 anJ)]) hx hb hml hown hU hK hT rfl rfl [0, 4, 1, 2, 3] rfl (by decide) (cX10_addUnit_eaa32 l D k _ h0 h1 h8 h12 h14 h2 h3 h4 h5 h6 h7 h9 h10 h11 h13 v29 v32 ((-1)) h0f2 y19 y20 h0f11 h1f0 y21 v34 (by omega) (by omega) (by omega) (by omega) (by omega) (by omega) (by omega) (by omega)) w330 w327 w329 w1 w63 hdX10_addUnit ⟨rfl, rfl⟩ ⟨Nat.le_of_ble_eq_true rfl, Nat.le_of_ble_eq_true rfl⟩ rfl hl.1 (Nat.le_of_ble_eq_true rfl) dX10_lot_91 ⟨Nat.le_of_ble_eq_true rfl, Nat.le_of_ble_eq_true rfl⟩) hT hS hA [0, 4, 1, 2, 3] [] rfl rfl rfl (by decide) (by decide) (fun r41 H locs hB J hS => ?_)
                obtain ⟨v43, b_v43, b_r41, hT1⟩ := hB
                have hT := J _ hT1
                have hT : TP D A [(h0, ob 7 [.ref h1, .ref h2, .int h0f2, .ref h3, .ref h4, .ref h5, .int 0, .ref h6, .int 0, .ref h7, .ref h8, .int h0f11, .ref h9, .ref h10, .ref h11, .ref h12, .ref h13]), (h1, ob 4 [.int h1f0, .int v43, .int v34, .ref h14]), (h8, aI (k 0) 8 anI), (h12, aJ (k 1) 9 anJ), (h14, aJ (k 1) 36 anJ)] H := hT
                refine lv_pop hx hb dX10_lot_94 rfl ?_
                obtain ⟨v44, e_v44⟩ : ∃ x : Int32, x = y18 + Int32.ofInt 1 := ⟨_, rfl⟩
                have f_v44 := e_v44.symm
                have e_v44 : v44.toInt = y18.toInt + 1 := ai_add e_v44 rfl (show (Int32.ofInt 1).toInt = 1 from (by decide +kernel)) (by omega)
                refine lv_iinc (v := v44) (lv' := [(2, .int v44), (5, .int v36), (4, .int v32), (3, .int v29), (0, .ref h0), (1, .int x1)]) hx hb dX10_lot_95 hl (k := 5) rfl f_v44 (by decide) rfl (fun ls hl => ?_)
                refine lv_goto (tgt := 14) hx hb dX10_lot_98 (by decide) ?_
                exact ih14_23 v44 (0) (0) v43 v34 _ _ _ (by have := li_0; omega) (by have := li_0; omega) (by have := li_0; omega) (by have := li_0; omega)  (by have := li_0; omega) hT hS (lv_sub hl [4, 5, 0] rfl)
            · skip
              have hT := J _ hT1
              have hT : TP D A [(h0, ob 7 [.ref h1, .ref h2, .int h0f2, .ref h3, .ref h4, .ref h5, .int y19, .ref h6, .int y20, .ref h7, .ref h8, .int h0f11, .ref h9, .ref h10, .ref h11, .ref h12, .ref h13]), (h8, aI (k 0) 8 anI), (h12, aJ (k 1) 9 anJ), (h14, aJ (k 1) 36 anJ), (h1, ob 4 [.int h1f0, .int y21, .int y22, .ref h14])] H := hT
              refine lv_if_ne (tgt := 101) hx hb dX10_lot_26 (by decide) (fun _ => ?_) (fun cc => absurd cc (by decide +kernel))
              refine lv_iload_n hx hb dX10_lot_101 rfl (lv_at hl 2 rfl) ?_
              exact tz_retI (B := B_cX10_lot_0bdd7 D k h0 h1 h8 h12 h14 h2 h3 h4 h5 h6 h7 h9 h10 h11 h13 x1 h0f2 h0f6 h0f8 h0f11 h1f0 h1f1 h1f2) (v := y18) hQ hx hb hr hlocks hS (Nat.le_of_ble_eq_true rfl) (Nat.le_of_ble_eq_true rfl) dX10_lot_102 (⟨y19, y20, y21, y22, (by omega), (by omega), (by omega), (by omega), (hT.sub [0, 4, 1, 2, 3] (by decide) rfl)⟩)
      exact lp14_23 ((x1.toInt + (-1) * (0 : Int32).toInt + 1).toNat + 1) (0) h0f6 h0f8 h1f1 h1f2 _ _ _ (by have := li_0; omega) (by have := li_0; omega) (by have := li_0; omega) (by have := li_0; omega)  (Nat.lt_succ_self _) hT hS (lv_sub hl [1, 2, 0] rfl)
    · skip
      have c_2 := ni_nle c_2 rfl li_4
      refine lv_iconst (v := (-1)) hx hb dX10_lot_10 (by decide) ?_
      exact tz_retI (B := B_cX10_lot_0bdd7 D k h0 h1 h8 h12 h14 h2 h3 h4 h5 h6 h7 h9 h10 h11 h13 x1 h0f2 h0f6 h0f8 h0f11 h1f0 h1f1 h1f2) (v := (-1)) hQ hx hb hr hlocks hS (Nat.le_of_ble_eq_true rfl) (Nat.le_of_ble_eq_true rfl) dX10_lot_11 (⟨h0f6, h0f8, h1f1, h1f2, (by have := li_m1; omega), (by have := li_m1; omega), (by have := li_m1; omega), (by have := li_m1; omega), hT⟩)
