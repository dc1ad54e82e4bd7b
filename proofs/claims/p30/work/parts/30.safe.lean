abbrev Rm_cX10_isPrimeTaken_1c6a4 : Room := { frames := 0, cells := 0, slots := 0, locals := 0 }
abbrev B_cX10_isPrimeTaken_1c6a4 (D : va_G) (k : Nat → ClassId) (x0 : Int32) (A : Nat → Prop) (r : Int32) (H : Heap) : Prop := (x0.toInt = 2 ∧ 1 = r ∧ TP D A [] H) ∨ (x0.toInt ≠ 2 ∧ x0.toInt = 3 ∧ 1 = r ∧ TP D A [] H) ∨ (x0.toInt ≠ 2 ∧ x0.toInt ≠ 3 ∧ x0.toInt = 5 ∧ 1 = r ∧ TP D A [] H) ∨ (0 = r ∧ TP D A [] H) ∨ (x0.toInt ≠ 2 ∧ x0.toInt ≠ 3 ∧ x0.toInt ≠ 5 ∧ x0.toInt = 7 ∧ 1 = r ∧ TP D A [] H)
set_option maxHeartbeats 4000000 in
set_option maxRecDepth 100000 in
theorem cX10_isPrimeTaken_1c6a4 (l : Launch) (D : va_G) (k : Nat → ClassId) (sz : Nat) (x0 : Int32) : Met l yX10_isPrimeTaken (Cond.code yX10_isPrimeTaken cX10_isPrimeTaken 1 (some .boolean) :: uw) Rm_cX10_isPrimeTaken_1c6a4 (pT D k sz [.int x0] []) (qI (B_cX10_isPrimeTaken_1c6a4 D k x0 (zA [] sz)) (zA [] sz)) 0 0 (zA [] sz) := by
  refine tz_begin (as := []) (Qc := fun A => qI (B_cX10_isPrimeTaken_1c6a4 D k x0 A) A) (by decide +kernel) rfl (Nat.le_of_ble_eq_true rfl) ?_
  intro p e s m args below meth c ls A Q hx hb hr hml hown hlocks hin hU hK hT hS hA hl hQ
  have hl : lv_has ls 1 [(0, .int x0)] := hl
  have hT : TP D A [] s.heap := hT
  refine lv_iload_n hx hb dX10_isPrimeTaken_0 rfl (lv_at hl 0 rfl) ?_
  refine lv_iconst (v := 2) hx hb dX10_isPrimeTaken_1 (by decide) ?_
  refine lv_icmp_eq (tgt := 21) hx hb dX10_isPrimeTaken_2 (by decide) (fun c_1 => ?_) (fun c_1 => ?_)
  · skip
    have c_1 := ni_eq c_1 rfl li_2
    refine lv_iconst (v := 1) hx hb dX10_isPrimeTaken_21 (by decide) ?_
    refine lv_goto (tgt := 26) hx hb dX10_isPrimeTaken_22 (by decide) ?_
    exact tz_retZ (B := B_cX10_isPrimeTaken_1c6a4 D k x0) (v := 1) hQ hx hb hr hlocks hS (Nat.le_of_ble_eq_true rfl) (Nat.le_of_ble_eq_true rfl) dX10_isPrimeTaken_26 (by have := li_1; omega) (Or.inl ⟨(by have := li_1; omega), rfl, hT⟩)
  · skip
    have c_1 := ni_ne c_1 rfl li_2
    refine lv_iload_n hx hb dX10_isPrimeTaken_5 rfl (lv_at hl 0 rfl) ?_
    refine lv_iconst (v := 3) hx hb dX10_isPrimeTaken_6 (by decide) ?_
    refine lv_icmp_eq (tgt := 21) hx hb dX10_isPrimeTaken_7 (by decide) (fun c_2 => ?_) (fun c_2 => ?_)
    · skip
      have c_2 := ni_eq c_2 rfl li_3
      refine lv_iconst (v := 1) hx hb dX10_isPrimeTaken_21 (by decide) ?_
      refine lv_goto (tgt := 26) hx hb dX10_isPrimeTaken_22 (by decide) ?_
      exact tz_retZ (B := B_cX10_isPrimeTaken_1c6a4 D k x0) (v := 1) hQ hx hb hr hlocks hS (Nat.le_of_ble_eq_true rfl) (Nat.le_of_ble_eq_true rfl) dX10_isPrimeTaken_26 (by have := li_1; omega) (Or.inr (Or.inl ⟨(by have := li_1; omega), (by have := li_1; omega), rfl, hT⟩))
    · skip
      have c_2 := ni_ne c_2 rfl li_3
      refine lv_iload_n hx hb dX10_isPrimeTaken_10 rfl (lv_at hl 0 rfl) ?_
      refine lv_iconst (v := 5) hx hb dX10_isPrimeTaken_11 (by decide) ?_
      refine lv_icmp_eq (tgt := 21) hx hb dX10_isPrimeTaken_12 (by decide) (fun c_3 => ?_) (fun c_3 => ?_)
      · skip
        have c_3 := ni_eq c_3 rfl li_5
        refine lv_iconst (v := 1) hx hb dX10_isPrimeTaken_21 (by decide) ?_
        refine lv_goto (tgt := 26) hx hb dX10_isPrimeTaken_22 (by decide) ?_
        exact tz_retZ (B := B_cX10_isPrimeTaken_1c6a4 D k x0) (v := 1) hQ hx hb hr hlocks hS (Nat.le_of_ble_eq_true rfl) (Nat.le_of_ble_eq_true rfl) dX10_isPrimeTaken_26 (by have := li_1; omega) (Or.inr (Or.inr (Or.inl ⟨(by have := li_1; omega), (by have := li_1; omega), (by have := li_1; omega), rfl, hT⟩)))
      · skip
        have c_3 := ni_ne c_3 rfl li_5
        refine lv_iload_n hx hb dX10_isPrimeTaken_15 rfl (lv_at hl 0 rfl) ?_
        refine lv_bipush (v := 7) hx hb dX10_isPrimeTaken_16 (by decide) ?_
        refine lv_icmp_ne (tgt := 25) hx hb dX10_isPrimeTaken_18 (by decide) (fun c_4 => ?_) (fun c_4 => ?_)
        · skip
          have c_4 := ni_ne c_4 rfl li_7
          refine lv_iconst (v := 0) hx hb dX10_isPrimeTaken_25 (by decide) ?_
          exact tz_retZ (B := B_cX10_isPrimeTaken_1c6a4 D k x0) (v := 0) hQ hx hb hr hlocks hS (Nat.le_of_ble_eq_true rfl) (Nat.le_of_ble_eq_true rfl) dX10_isPrimeTaken_26 (by have := li_0; omega) (Or.inr (Or.inr (Or.inr (Or.inl ⟨rfl, hT⟩))))
        · skip
          have c_4 := ni_eq c_4 rfl li_7
          refine lv_iconst (v := 1) hx hb dX10_isPrimeTaken_21 (by decide) ?_
          refine lv_goto (tgt := 26) hx hb dX10_isPrimeTaken_22 (by decide) ?_
          exact tz_retZ (B := B_cX10_isPrimeTaken_1c6a4 D k x0) (v := 1) hQ hx hb hr hlocks hS (Nat.le_of_ble_eq_true rfl) (Nat.le_of_ble_eq_true rfl) dX10_isPrimeTaken_26 (by have := li_1; omega) (Or.inr (Or.inr (Or.inr (Or.inr (⟨(by have := li_1; omega), (by have := li_1; omega), (by have := li_1; omega), (by have := li_1; omega), rfl, hT⟩)))))
abbrev Rm_cX4_init_78b52 : Room := { frames := 1, cells := 8, slots := 16284, locals := 20 }
abbrev B_cX4_init_78b52 (D : va_G) (k : Nat → ClassId) (h0 : Nat) (h0f8 : Int32) (h0f9 : Int32) (h0f10 : Int32) (h0f11 : Int32) (A : Nat → Prop) (H : Heap) : Prop := ∃ n0 : Nat, ∃ n1 : Nat, ∃ n2 : Nat, ∃ n3 : Nat, ∃ n4 : Nat, ∃ n5 : Nat, ∃ n6 : Nat, ∃ n7 : Nat, TP D A [(h0, ob 3 [.ref n0, .ref n1, .ref n2, .ref n3, .ref n4, .ref n5, .ref n6, .ref n7, .int 0, .int 0, .int 0, .int 0]), (n0, aJ (k 1) 12000 anJ), (n1, aI (k 0) 400 anI), (n2, aI (k 0) 400 anI), (n3, aI (k 0) 400 anI), (n4, aI (k 0) 1600 anI), (n5, aI (k 0) 1024 anI), (n6, aI (k 0) 400 anI), (n7, aJ (k 1) 60 anJ)] H
set_option maxHeartbeats 4000000 in
set_option maxRecDepth 100000 in
theorem cX4_init_78b52 (l : Launch) (D : va_G) (k : Nat → ClassId) (sz : Nat) (h0 : Nat) (h0f8 : Int32) (h0f9 : Int32) (h0f10 : Int32) (h0f11 : Int32) (b_h0f8 : 0 ≤ h0f8.toInt ∧ h0f8.toInt ≤ 0) (b_h0f9 : 0 ≤ h0f9.toInt ∧ h0f9.toInt ≤ 0) (b_h0f10 : 0 ≤ h0f10.toInt ∧ h0f10.toInt ≤ 0) (b_h0f11 : 0 ≤ h0f11.toInt ∧ h0f11.toInt ≤ 0) : Met l yX4_init (Cond.code yX4_init cX4_init 4 none :: uw) Rm_cX4_init_78b52 (pT D k sz [.ref h0, .int 400, .int 12000, .int 1024] [(h0, ob 3 [.null, .null, .null, .null, .null, .null, .null, .null, .int h0f8, .int h0f9, .int h0f10, .int h0f11])]) (qV (B_cX4_init_78b52 D k h0 h0f8 h0f9 h0f10 h0f11 (zA [h0] sz)) (zA [h0] sz)) 8 16284 (zA [h0] sz) := by
  refine tz_begin (as := [h0]) (Qc := fun A => qV (B_cX4_init_78b52 D k h0 h0f8 h0f9 h0f10 h0f11 A) A) (by decide +kernel) rfl (Nat.le_of_ble_eq_true rfl) ?_
  intro p e s m args below meth c ls A Q hx hb hr hml hown hlocks hin hU hK hT hS hA hl hQ
  have hl : lv_has ls 4 [(0, .ref h0), (1, .int 400), (2, .int 12000), (3, .int 1024)] := hl
  have hT : TP D A [(h0, ob 3 [.null, .null, .null, .null, .null, .null, .null, .null, .int h0f8, .int h0f9, .int h0f10, .int h0f11])] s.heap := hT
  refine lv_aload_n hx hb dX4_init_0 rfl (lv_at hl 0 rfl) ?_
  refine W.objInit hx hb hown (hU _ w148) (hU _ w84) (hU _ w85) rfl (by rw [hml]; exact hl.1) rfl dX4_init_1 (Nat.le_of_ble_eq_true rfl) (Nat.le_of_ble_eq_true rfl) ?_
  refine W.eq (g2 := F0 m 4 ls []) rfl ?_
  refine lv_aload_n hx hb dX4_init_4 rfl (lv_at hl 0 rfl) ?_
  refine lv_bipush (v := 60) hx hb dX4_init_5 (by decide) ?_
  refine tz_nal (N := 60) hx hb hU w113 hK hT hS hA (by decide +kernel) (by decide +kernel) (Nat.le_of_ble_eq_true rfl) (Nat.le_of_ble_eq_true rfl) (Nat.le_of_ble_eq_true rfl) dX4_init_7 (fun q1 H hT hS => ?_)
  have hT : TP D A [(h0, ob 3 [.null, .null, .null, .null, .null, .null, .null, .null, .int h0f8, .int h0f9, .int h0f10, .int h0f11]), (q1, aJ (k 1) 60 anJ)] _ := hT
  refine tz_putF (ci := 3) (v := .ref q1) (ty := .array .long) (C := RX4) (F := TX4) (N := 12) hx hb hU iX4 tyX4 tyX4_ok nmX4 hown hK hT hS 0 rfl rfl 7 (by decide) w161 (fun _ h9 => h9) rfl hin rfl (by decide +kernel) rfl rfl (Nat.le_of_ble_eq_true rfl) dX4_init_9 (fun H locs hT hS => ?_)
  have hT : TP D A [(h0, ob 3 [.null, .null, .null, .null, .null, .null, .null, .ref q1, .int h0f8, .int h0f9, .int h0f10, .int h0f11]), (q1, aJ (k 1) 60 anJ)] _ := hT
  refine lv_aload_n hx hb dX4_init_12 rfl (lv_at hl 0 rfl) ?_
  refine lv_iconst (v := 0) hx hb dX4_init_13 (by decide) ?_
  refine tz_put (ci := 3) (v := .int 0) (ty := .int) (C := RX4) (F := TX4) (N := 12) hx hb hU iX4 tyX4 tyX4_ok nmX4 hown hK hT hS 0 rfl rfl 8 (by decide) w162 (fun _ h9 => h9) rfl (by decide +kernel) rfl rfl (Nat.le_of_ble_eq_true rfl) dX4_init_14 (fun H locs hT hS => ?_)
  have hT : TP D A [(h0, ob 3 [.null, .null, .null, .null, .null, .null, .null, .ref q1, .int 0, .int h0f9, .int h0f10, .int h0f11]), (q1, aJ (k 1) 60 anJ)] _ := hT
  refine lv_aload_n hx hb dX4_init_17 rfl (lv_at hl 0 rfl) ?_
  refine lv_iconst (v := 0) hx hb dX4_init_18 (by decide) ?_
  refine tz_put (ci := 3) (v := .int 0) (ty := .int) (C := RX4) (F := TX4) (N := 12) hx hb hU iX4 tyX4 tyX4_ok nmX4 hown hK hT hS 0 rfl rfl 9 (by decide) w163 (fun _ h9 => h9) rfl (by decide +kernel) rfl rfl (Nat.le_of_ble_eq_true rfl) dX4_init_19 (fun H locs hT hS => ?_)
  have hT : TP D A [(h0, ob 3 [.null, .null, .null, .null, .null, .null, .null, .ref q1, .int 0, .int 0, .int h0f10, .int h0f11]), (q1, aJ (k 1) 60 anJ)] _ := hT
  refine lv_aload_n hx hb dX4_init_22 rfl (lv_at hl 0 rfl) ?_
  refine lv_iconst (v := 0) hx hb dX4_init_23 (by decide) ?_
  refine tz_put (ci := 3) (v := .int 0) (ty := .int) (C := RX4) (F := TX4) (N := 12) hx hb hU iX4 tyX4 tyX4_ok nmX4 hown hK hT hS 0 rfl rfl 10 (by decide) w164 (fun _ h9 => h9) rfl (by decide +kernel) rfl rfl (Nat.le_of_ble_eq_true rfl) dX4_init_24 (fun H locs hT hS => ?_)
  have hT : TP D A [(h0, ob 3 [.null, .null, .null, .null, .null, .null, .null, .ref q1, .int 0, .int 0, .int 0, .int h0f11]), (q1, aJ (k 1) 60 anJ)] _ := hT
  refine lv_aload_n hx hb dX4_init_27 rfl (lv_at hl 0 rfl) ?_
  refine lv_iconst (v := 0) hx hb dX4_init_28 (by decide) ?_
  refine tz_put (ci := 3) (v := .int 0) (ty := .boolean) (C := RX4) (F := TX4) (N := 12) hx hb hU iX4 tyX4 tyX4_ok nmX4 hown hK hT hS 0 rfl rfl 11 (by decide) w167 (fun _ h9 => h9) rfl (by decide +kernel) rfl rfl (Nat.le_of_ble_eq_true rfl) dX4_init_29 (fun H locs hT hS => ?_)
  have hT : TP D A [(h0, ob 3 [.null, .null, .null, .null, .null, .null, .null, .ref q1, .int 0, .int 0, .int 0, .int 0]), (q1, aJ (k 1) 60 anJ)] _ := hT
  refine lv_aload_n hx hb dX4_init_32 rfl (lv_at hl 0 rfl) ?_
  refine lv_iload_n hx hb dX4_init_33 rfl (lv_at hl 2 rfl) ?_
  refine tz_nal (N := 12000) hx hb hU w113 hK hT hS hA (by decide +kernel) (by decide +kernel) (Nat.le_of_ble_eq_true rfl) (Nat.le_of_ble_eq_true rfl) (Nat.le_of_ble_eq_true rfl) dX4_init_34 (fun q2 H hT hS => ?_)
  have hT : TP D A [(h0, ob 3 [.null, .null, .null, .null, .null, .null, .null, .ref q1, .int 0, .int 0, .int 0, .int 0]), (q1, aJ (k 1) 60 anJ), (q2, aJ (k 1) 12000 anJ)] _ := hT
  refine tz_putF (ci := 3) (v := .ref q2) (ty := .array .long) (C := RX4) (F := TX4) (N := 12) hx hb hU iX4 tyX4 tyX4_ok nmX4 hown hK hT hS 0 rfl rfl 0 (by decide) w149 (fun _ h9 => h9) rfl hin rfl (by decide +kernel) rfl rfl (Nat.le_of_ble_eq_true rfl) dX4_init_36 (fun H locs hT hS => ?_)
  have hT : TP D A [(h0, ob 3 [.ref q2, .null, .null, .null, .null, .null, .null, .ref q1, .int 0, .int 0, .int 0, .int 0]), (q1, aJ (k 1) 60 anJ), (q2, aJ (k 1) 12000 anJ)] _ := hT
  refine lv_aload_n hx hb dX4_init_39 rfl (lv_at hl 0 rfl) ?_
  refine lv_iload_n hx hb dX4_init_40 rfl (lv_at hl 1 rfl) ?_
  refine tz_nai (P := anI) (hz := trivial) (N := 400) hx hb hU w194 hK hT hS hA (by decide +kernel) (by decide +kernel) (Nat.le_of_ble_eq_true rfl) (Nat.le_of_ble_eq_true rfl) (Nat.le_of_ble_eq_true rfl) dX4_init_41 (fun q3 H hT hS => ?_)
  have hT : TP D A [(h0, ob 3 [.ref q2, .null, .null, .null, .null, .null, .null, .ref q1, .int 0, .int 0, .int 0, .int 0]), (q1, aJ (k 1) 60 anJ), (q2, aJ (k 1) 12000 anJ), (q3, aI (k 0) 400 anI)] _ := hT
  refine tz_putF (ci := 3) (v := .ref q3) (ty := .array .int) (C := RX4) (F := TX4) (N := 12) hx hb hU iX4 tyX4 tyX4_ok nmX4 hown hK hT hS 0 rfl rfl 1 (by decide) w151 (fun _ h9 => h9) rfl hin rfl (by decide +kernel) rfl rfl (Nat.le_of_ble_eq_true rfl) dX4_init_43 (fun H locs hT hS => ?_)
  have hT : TP D A [(h0, ob 3 [.ref q2, .ref q3, .null, .null, .null, .null, .null, .ref q1, .int 0, .int 0, .int 0, .int 0]), (q1, aJ (k 1) 60 anJ), (q2, aJ (k 1) 12000 anJ), (q3, aI (k 0) 400 anI)] _ := hT
  refine lv_aload_n hx hb dX4_init_46 rfl (lv_at hl 0 rfl) ?_
  refine lv_iload_n hx hb dX4_init_47 rfl (lv_at hl 1 rfl) ?_
  refine tz_nai (P := anI) (hz := trivial) (N := 400) hx hb hU w194 hK hT hS hA (by decide +kernel) (by decide +kernel) (Nat.le_of_ble_eq_true rfl) (Nat.le_of_ble_eq_true rfl) (Nat.le_of_ble_eq_true rfl) dX4_init_48 (fun q4 H hT hS => ?_)
  have hT : TP D A [(h0, ob 3 [.ref q2, .ref q3, .null, .null, .null, .null, .null, .ref q1, .int 0, .int 0, .int 0, .int 0]), (q1, aJ (k 1) 60 anJ), (q2, aJ (k 1) 12000 anJ), (q3, aI (k 0) 400 anI), (q4, aI (k 0) 400 anI)] _ := hT
  refine tz_putF (ci := 3) (v := .ref q4) (ty := .array .int) (C := RX4) (F := TX4) (N := 12) hx hb hU iX4 tyX4 tyX4_ok nmX4 hown hK hT hS 0 rfl rfl 2 (by decide) w153 (fun _ h9 => h9) rfl hin rfl (by decide +kernel) rfl rfl (Nat.le_of_ble_eq_true rfl) dX4_init_50 (fun H locs hT hS => ?_)
  have hT : TP D A [(h0, ob 3 [.ref q2, .ref q3, .ref q4, .null, .null, .null, .null, .ref q1, .int 0, .int 0, .int 0, .int 0]), (q1, aJ (k 1) 60 anJ), (q2, aJ (k 1) 12000 anJ), (q3, aI (k 0) 400 anI), (q4, aI (k 0) 400 anI)] _ := hT
  refine lv_aload_n hx hb dX4_init_53 rfl (lv_at hl 0 rfl) ?_
  refine lv_iload_n hx hb dX4_init_54 rfl (lv_at hl 1 rfl) ?_
  refine tz_nai (P := anI) (hz := trivial) (N := 400) hx hb hU w194 hK hT hS hA (by decide +kernel) (by decide +kernel) (Nat.le_of_ble_eq_true rfl) (Nat.le_of_ble_eq_true rfl) (Nat.le_of_ble_eq_true rfl) dX4_init_55 (fun q5 H hT hS => ?_)
  have hT : TP D A [(h0, ob 3 [.ref q2, .ref q3, .ref q4, .null, .null, .null, .null, .ref q1, .int 0, .int 0, .int 0, .int 0]), (q1, aJ (k 1) 60 anJ), (q2, aJ (k 1) 12000 anJ), (q3, aI (k 0) 400 anI), (q4, aI (k 0) 400 anI), (q5, aI (k 0) 400 anI)] _ := hT
  refine tz_putF (ci := 3) (v := .ref q5) (ty := .array .int) (C := RX4) (F := TX4) (N := 12) hx hb hU iX4 tyX4 tyX4_ok nmX4 hown hK hT hS 0 rfl rfl 3 (by decide) w155 (fun _ h9 => h9) rfl hin rfl (by decide +kernel) rfl rfl (Nat.le_of_ble_eq_true rfl) dX4_init_57 (fun H locs hT hS => ?_)
  have hT : TP D A [(h0, ob 3 [.ref q2, .ref q3, .ref q4, .ref q5, .null, .null, .null, .ref q1, .int 0, .int 0, .int 0, .int 0]), (q1, aJ (k 1) 60 anJ), (q2, aJ (k 1) 12000 anJ), (q3, aI (k 0) 400 anI), (q4, aI (k 0) 400 anI), (q5, aI (k 0) 400 anI)] _ := hT
  refine lv_aload_n hx hb dX4_init_60 rfl (lv_at hl 0 rfl) ?_
  refine lv_iload_n hx hb dX4_init_61 rfl (lv_at hl 1 rfl) ?_
  refine lv_iconst (v := 4) hx hb dX4_init_62 (by decide) ?_
  refine lv_imul hx hb dX4_init_63 (sv_i (v := 1600) (by decide +kernel) ?_)
  refine tz_nai (P := anI) (hz := trivial) (N := 1600) hx hb hU w194 hK hT hS hA (by decide +kernel) (by decide +kernel) (Nat.le_of_ble_eq_true rfl) (Nat.le_of_ble_eq_true rfl) (Nat.le_of_ble_eq_true rfl) dX4_init_64 (fun q6 H hT hS => ?_)
  have hT : TP D A [(h0, ob 3 [.ref q2, .ref q3, .ref q4, .ref q5, .null, .null, .null, .ref q1, .int 0, .int 0, .int 0, .int 0]), (q1, aJ (k 1) 60 anJ), (q2, aJ (k 1) 12000 anJ), (q3, aI (k 0) 400 anI), (q4, aI (k 0) 400 anI), (q5, aI (k 0) 400 anI), (q6, aI (k 0) 1600 anI)] _ := hT
  refine tz_putF (ci := 3) (v := .ref q6) (ty := .array .int) (C := RX4) (F := TX4) (N := 12) hx hb hU iX4 tyX4 tyX4_ok nmX4 hown hK hT hS 0 rfl rfl 4 (by decide) w157 (fun _ h9 => h9) rfl hin rfl (by decide +kernel) rfl rfl (Nat.le_of_ble_eq_true rfl) dX4_init_66 (fun H locs hT hS => ?_)
  have hT : TP D A [(h0, ob 3 [.ref q2, .ref q3, .ref q4, .ref q5, .ref q6, .null, .null, .ref q1, .int 0, .int 0, .int 0, .int 0]), (q1, aJ (k 1) 60 anJ), (q2, aJ (k 1) 12000 anJ), (q3, aI (k 0) 400 anI), (q4, aI (k 0) 400 anI), (q5, aI (k 0) 400 anI), (q6, aI (k 0) 1600 anI)] _ := hT
  refine lv_aload_n hx hb dX4_init_69 rfl (lv_at hl 0 rfl) ?_
  refine lv_iload_n hx hb dX4_init_70 rfl (lv_at hl 3 rfl) ?_
  refine tz_nai (P := anI) (hz := trivial) (N := 1024) hx hb hU w194 hK hT hS hA (by decide +kernel) (by decide +kernel) (Nat.le_of_ble_eq_true rfl) (Nat.le_of_ble_eq_true rfl) (Nat.le_of_ble_eq_true rfl) dX4_init_71 (fun q7 H hT hS => ?_)
  have hT : TP D A [(h0, ob 3 [.ref q2, .ref q3, .ref q4, .ref q5, .ref q6, .null, .null, .ref q1, .int 0, .int 0, .int 0, .int 0]), (q1, aJ (k 1) 60 anJ), (q2, aJ (k 1) 12000 anJ), (q3, aI (k 0) 400 anI), (q4, aI (k 0) 400 anI), (q5, aI (k 0) 400 anI), (q6, aI (k 0) 1600 anI), (q7, aI (k 0) 1024 anI)] _ := hT
  refine tz_putF (ci := 3) (v := .ref q7) (ty := .array .int) (C := RX4) (F := TX4) (N := 12) hx hb hU iX4 tyX4 tyX4_ok nmX4 hown hK hT hS 0 rfl rfl 5 (by decide) w159 (fun _ h9 => h9) rfl hin rfl (by decide +kernel) rfl rfl (Nat.le_of_ble_eq_true rfl) dX4_init_73 (fun H locs hT hS => ?_)
  have hT : TP D A [(h0, ob 3 [.ref q2, .ref q3, .ref q4, .ref q5, .ref q6, .ref q7, .null, .ref q1, .int 0, .int 0, .int 0, .int 0]), (q1, aJ (k 1) 60 anJ), (q2, aJ (k 1) 12000 anJ), (q3, aI (k 0) 400 anI), (q4, aI (k 0) 400 anI), (q5, aI (k 0) 400 anI), (q6, aI (k 0) 1600 anI), (q7, aI (k 0) 1024 anI)] _ := hT
  refine lv_aload_n hx hb dX4_init_76 rfl (lv_at hl 0 rfl) ?_
  refine lv_iload_n hx hb dX4_init_77 rfl (lv_at hl 1 rfl) ?_
  refine tz_nai (P := anI) (hz := trivial) (N := 400) hx hb hU w194 hK hT hS hA (by decide +kernel) (by decide +kernel) (Nat.le_of_ble_eq_true rfl) (Nat.le_of_ble_eq_true rfl) (Nat.le_of_ble_eq_true rfl) dX4_init_78 (fun q8 H hT hS => ?_)
  have hT : TP D A [(h0, ob 3 [.ref q2, .ref q3, .ref q4, .ref q5, .ref q6, .ref q7, .null, .ref q1, .int 0, .int 0, .int 0, .int 0]), (q1, aJ (k 1) 60 anJ), (q2, aJ (k 1) 12000 anJ), (q3, aI (k 0) 400 anI), (q4, aI (k 0) 400 anI), (q5, aI (k 0) 400 anI), (q6, aI (k 0) 1600 anI), (q7, aI (k 0) 1024 anI), (q8, aI (k 0) 400 anI)] _ := hT
  refine tz_putF (ci := 3) (v := .ref q8) (ty := .array .int) (C := RX4) (F := TX4) (N := 12) hx hb hU iX4 tyX4 tyX4_ok nmX4 hown hK hT hS 0 rfl rfl 6 (by decide) w160 (fun _ h9 => h9) rfl hin rfl (by decide +kernel) rfl rfl (Nat.le_of_ble_eq_true rfl) dX4_init_80 (fun H locs hT hS => ?_)
  have hT : TP D A [(h0, ob 3 [.ref q2, .ref q3, .ref q4, .ref q5, .ref q6, .ref q7, .ref q8, .ref q1, .int 0, .int 0, .int 0, .int 0]), (q1, aJ (k 1) 60 anJ), (q2, aJ (k 1) 12000 anJ), (q3, aI (k 0) 400 anI), (q4, aI (k 0) 400 anI), (q5, aI (k 0) 400 anI), (q6, aI (k 0) 1600 anI), (q7, aI (k 0) 1024 anI), (q8, aI (k 0) 400 anI)] _ := hT
  exact tz_retV (B := B_cX4_init_78b52 D k h0 h0f8 h0f9 h0f10 h0f11) hQ hx hb hr hlocks hS (Nat.le_of_ble_eq_true rfl) (Nat.le_of_ble_eq_true rfl) dX4_init_83 (⟨q2, q3, q4, q5, q6, q7, q8, q1, (hT.sub [0, 2, 3, 4, 5, 6, 7, 8, 1] (by decide) rfl)⟩)
abbrev Rm_cX4_clear_4af68 : Room := { frames := 1, cells := 0, slots := 0, locals := 23 }
abbrev B_cX4_clear_4af68 (D : va_G) (k : Nat → ClassId) (h0 h6 h7 h1 h2 h3 h4 h5 h8 : Nat) (x1 : Int32) (x2 : Int32) (h0f8 : Int32) (h0f9 : Int32) (h0f10 : Int32) (h0f11 : Int32) (A : Nat → Prop) (H : Heap) : Prop := TP D A [(h0, ob 3 [.ref h1, .ref h2, .ref h3, .ref h4, .ref h5, .ref h6, .ref h7, .ref h8, .int x1, .int x2, .int 0, .int 0]), (h6, aI (k 0) 1024 (rgI (-1) (0 - 1))), (h7, aI (k 0) 400 (pfI (0)))] H
set_option maxHeartbeats 4000000 in
set_option maxRecDepth 100000 in
theorem cX4_clear_4af68 (l : Launch) (D : va_G) (k : Nat → ClassId) (sz : Nat) (h0 h6 h7 h1 h2 h3 h4 h5 h8 : Nat) (x1 : Int32) (x2 : Int32) (h0f8 : Int32) (h0f9 : Int32) (h0f10 : Int32) (h0f11 : Int32) (b_x1 : 0 ≤ x1.toInt ∧ x1.toInt ≤ 60) (b_x2 : 200 ≤ x2.toInt ∧ x2.toInt ≤ 400) (b_h0f8 : 0 ≤ h0f8.toInt ∧ h0f8.toInt ≤ 60) (b_h0f9 : 0 ≤ h0f9.toInt ∧ h0f9.toInt ≤ 400) (b_h0f10 : 0 ≤ h0f10.toInt ∧ h0f10.toInt ≤ 400) (b_h0f11 : 0 ≤ h0f11.toInt ∧ h0f11.toInt ≤ 1) : Met l yX4_clear (Cond.code yX4_clear cX4_clear 3 none :: uw) Rm_cX4_clear_4af68 (pT D k sz [.ref h0, .int x1, .int x2] [(h0, ob 3 [.ref h1, .ref h2, .ref h3, .ref h4, .ref h5, .ref h6, .ref h7, .ref h8, .int h0f8, .int h0f9, .int h0f10, .int h0f11]), (h6, aI (k 0) 1024 anI), (h7, aI (k 0) 400 anI)]) (qV (B_cX4_clear_4af68 D k h0 h6 h7 h1 h2 h3 h4 h5 h8 x1 x2 h0f8 h0f9 h0f10 h0f11 (zA [h0, h6, h7] sz)) (zA [h0, h6, h7] sz)) 0 0 (zA [h0, h6, h7] sz) := by
  refine tz_begin (as := [h0, h6, h7]) (Qc := fun A => qV (B_cX4_clear_4af68 D k h0 h6 h7 h1 h2 h3 h4 h5 h8 x1 x2 h0f8 h0f9 h0f10 h0f11 A) A) (by decide +kernel) rfl (Nat.le_of_ble_eq_true rfl) ?_
  intro p e s m args below meth c ls A Q hx hb hr hml hown hlocks hin hU hK hT hS hA hl hQ
  have hl : lv_has ls 3 [(0, .ref h0), (1, .int x1), (2, .int x2)] := hl
  have hT : TP D A [(h0, ob 3 [.ref h1, .ref h2, .ref h3, .ref h4, .ref h5, .ref h6, .ref h7, .ref h8, .int h0f8, .int h0f9, .int h0f10, .int h0f11]), (h6, aI (k 0) 1024 anI), (h7, aI (k 0) 400 anI)] s.heap := hT
  refine lv_aload_n hx hb dX4_clear_0 rfl (lv_at hl 0 rfl) ?_
  refine lv_iload_n hx hb dX4_clear_1 rfl (lv_at hl 1 rfl) ?_
  refine tz_put (ci := 3) (v := .int x1) (ty := .int) (C := RX4) (F := TX4) (N := 12) hx hb hU iX4 tyX4 tyX4_ok nmX4 hown hK hT hS 0 rfl rfl 8 (by decide) w162 (fun _ h9 => h9) rfl (by decide +kernel) rfl rfl (Nat.le_of_ble_eq_true rfl) dX4_clear_2 (fun H locs hT hS => ?_)
  have hT : TP D A [(h0, ob 3 [.ref h1, .ref h2, .ref h3, .ref h4, .ref h5, .ref h6, .ref h7, .ref h8, .int x1, .int h0f9, .int h0f10, .int h0f11]), (h6, aI (k 0) 1024 anI), (h7, aI (k 0) 400 anI)] _ := hT
  refine lv_aload_n hx hb dX4_clear_5 rfl (lv_at hl 0 rfl) ?_
  refine lv_iload_n hx hb dX4_clear_6 rfl (lv_at hl 2 rfl) ?_
  refine tz_put (ci := 3) (v := .int x2) (ty := .int) (C := RX4) (F := TX4) (N := 12) hx hb hU iX4 tyX4 tyX4_ok nmX4 hown hK hT hS 0 rfl rfl 9 (by decide) w163 (fun _ h9 => h9) rfl (by decide +kernel) rfl rfl (Nat.le_of_ble_eq_true rfl) dX4_clear_7 (fun H locs hT hS => ?_)
  have hT : TP D A [(h0, ob 3 [.ref h1, .ref h2, .ref h3, .ref h4, .ref h5, .ref h6, .ref h7, .ref h8, .int x1, .int x2, .int h0f10, .int h0f11]), (h6, aI (k 0) 1024 anI), (h7, aI (k 0) 400 anI)] _ := hT
  refine lv_aload_n hx hb dX4_clear_10 rfl (lv_at hl 0 rfl) ?_
  refine lv_iconst (v := 0) hx hb dX4_clear_11 (by decide) ?_
  refine tz_put (ci := 3) (v := .int 0) (ty := .int) (C := RX4) (F := TX4) (N := 12) hx hb hU iX4 tyX4 tyX4_ok nmX4 hown hK hT hS 0 rfl rfl 10 (by decide) w164 (fun _ h9 => h9) rfl (by decide +kernel) rfl rfl (Nat.le_of_ble_eq_true rfl) dX4_clear_12 (fun H locs hT hS => ?_)
  have hT : TP D A [(h0, ob 3 [.ref h1, .ref h2, .ref h3, .ref h4, .ref h5, .ref h6, .ref h7, .ref h8, .int x1, .int x2, .int 0, .int h0f11]), (h6, aI (k 0) 1024 anI), (h7, aI (k 0) 400 anI)] _ := hT
  refine lv_aload_n hx hb dX4_clear_15 rfl (lv_at hl 0 rfl) ?_
  refine lv_iconst (v := 0) hx hb dX4_clear_16 (by decide) ?_
  refine tz_put (ci := 3) (v := .int 0) (ty := .boolean) (C := RX4) (F := TX4) (N := 12) hx hb hU iX4 tyX4 tyX4_ok nmX4 hown hK hT hS 0 rfl rfl 11 (by decide) w167 (fun _ h9 => h9) rfl (by decide +kernel) rfl rfl (Nat.le_of_ble_eq_true rfl) dX4_clear_17 (fun H locs hT hS => ?_)
  have hT : TP D A [(h0, ob 3 [.ref h1, .ref h2, .ref h3, .ref h4, .ref h5, .ref h6, .ref h7, .ref h8, .int x1, .int x2, .int 0, .int 0]), (h6, aI (k 0) 1024 anI), (h7, aI (k 0) 400 anI)] _ := hT
  refine lv_aload_n hx hb dX4_clear_20 rfl (lv_at hl 0 rfl) ?_
  refine tz_get (ci := 3) (v := .ref h6) (C := RX4) (F := TX4) (N := 12) hx hb hU iX4 hown hK hT 0 rfl rfl 5 (by decide) w159 (fun _ h9 => h9) rfl dX4_clear_21 ?_
  refine lv_iconst (v := (-1)) hx hb dX4_clear_24 (by decide) ?_
  have q_q2 := li_1024
  have q_q3 := li_m1
  refine tcV (Tc := [(h6, aI (k 0) 1024 anI)]) (Tr := [(h0, ob 3 [.ref h1, .ref h2, .ref h3, .ref h4, .ref h5, .ref h6, .ref h7, .ref h8, .int x1, .int x2, .int 0, .int 0]), (h7, aI (k 0) 400 anI)]) (as := [h6]) (zcS (As := [.ref h6, .int (-1)]) (rest := []) (Tc := [(h6, aI (k 0) 1024 anI)]) hx hb hml hown hU hK hT [1] rfl (by decide) (c_fillX l D k _ h6 (1024) ((-1)) (by decide)) w311 w497 w310 w73 hdJ7_fill_53178 ⟨rfl, rfl⟩ ⟨Nat.le_of_ble_eq_true rfl, Nat.le_of_ble_eq_true rfl⟩ rfl hl.1 (Nat.le_of_ble_eq_true rfl) dX4_clear_25 ⟨Nat.le_of_ble_eq_true rfl, Nat.le_of_ble_eq_true rfl⟩) hT hS hA [1] [0, 2] rfl rfl rfl (by decide) (by decide) (fun H locs hB J hS => ?_)
  have hT1 := hB
  have hT := J _ hT1
  have hT : TP D A [(h0, ob 3 [.ref h1, .ref h2, .ref h3, .ref h4, .ref h5, .ref h6, .ref h7, .ref h8, .int x1, .int x2, .int 0, .int 0]), (h7, aI (k 0) 400 anI), (h6, aI (k 0) 1024 (rgI (-1) (-1)))] _ := hT
  have hT := hT.wk (q := 2) (P' := aI (k 0) 1024 (rgI (-1) (0 - 1))) rfl (rg_wk (by omega))
  have hT : TP D A [(h0, ob 3 [.ref h1, .ref h2, .ref h3, .ref h4, .ref h5, .ref h6, .ref h7, .ref h8, .int x1, .int x2, .int 0, .int 0]), (h7, aI (k 0) 400 anI), (h6, aI (k 0) 1024 (rgI (-1) (0 - 1)))] _ := hT
  have hT := hT.wk (q := 1) (P' := aI (k 0) 400 (pfI (0))) rfl pf_0
  have hT : TP D A [(h0, ob 3 [.ref h1, .ref h2, .ref h3, .ref h4, .ref h5, .ref h6, .ref h7, .ref h8, .int x1, .int x2, .int 0, .int 0]), (h7, aI (k 0) 400 (pfI (0))), (h6, aI (k 0) 1024 (rgI (-1) (0 - 1)))] _ := hT
  exact tz_retV (B := B_cX4_clear_4af68 D k h0 h6 h7 h1 h2 h3 h4 h5 h8 x1 x2 h0f8 h0f9 h0f10 h0f11) hQ hx hb hr hlocks hS (Nat.le_of_ble_eq_true rfl) (Nat.le_of_ble_eq_true rfl) dX4_clear_28 ((hT.sub [0, 2, 1] (by decide) rfl))
abbrev Rm_cX10_clearBench_37f2f : Room := { frames := 2, cells := 9, slots := 16296, locals := 45 }
abbrev B_cX10_clearBench_37f2f (D : va_G) (k : Nat → ClassId) (h0 h1 h2 h3 h4 h5 h6 h7 h8 h9 h10 h11 h12 : Nat) (x1 : Int32) (x2 : Int32) (h0f2 : Int32) (h0f6 : Int32) (h0f8 : Int32) (h0f11 : Int32) (A : Nat → Prop) (r : Nat) (H : Heap) : Prop := ∃ n0 : Nat, ∃ n1 : Nat, ∃ n2 : Nat, ∃ n3 : Nat, ∃ n4 : Nat, ∃ n5 : Nat, ∃ n6 : Nat, ∃ n7 : Nat, ∃ n8 : Nat, n0 = r ∧ TP D A [(h0, ob 7 [.ref h1, .ref h2, .int h0f2, .ref h3, .ref h4, .ref h5, .int h0f6, .ref h6, .int h0f8, .ref n0, .ref h7, .int h0f11, .ref h8, .ref h9, .ref h10, .ref h11, .ref h12]), (n0, ob 3 [.ref n1, .ref n2, .ref n3, .ref n4, .ref n5, .ref n6, .ref n7, .ref n8, .int x1, .int x2, .int 0, .int 0]), (n1, aJ (k 1) 12000 anJ), (n2, aI (k 0) 400 anI), (n3, aI (k 0) 400 anI), (n4, aI (k 0) 400 anI), (n5, aI (k 0) 1600 anI), (n6, aI (k 0) 1024 (rgI (-1) (0 - 1))), (n7, aI (k 0) 400 (pfI (0))), (n8, aJ (k 1) 60 anJ)] H
set_option maxHeartbeats 4000000 in
set_option maxRecDepth 100000 in
theorem cX10_clearBench_37f2f (l : Launch) (D : va_G) (k : Nat → ClassId) (sz : Nat) (h0 h1 h2 h3 h4 h5 h6 h7 h8 h9 h10 h11 h12 : Nat) (x1 : Int32) (x2 : Int32) (h0f2 : Int32) (h0f6 : Int32) (h0f8 : Int32) (h0f11 : Int32) (b_x1 : 0 ≤ x1.toInt ∧ x1.toInt ≤ 60) (b_x2 : 200 ≤ x2.toInt ∧ x2.toInt ≤ 400) (b_h0f2 : 0 ≤ h0f2.toInt ∧ h0f2.toInt ≤ 1) (b_h0f6 : 0 ≤ h0f6.toInt ∧ h0f6.toInt ≤ 1) (b_h0f8 : 0 ≤ h0f8.toInt ∧ h0f8.toInt ≤ 1) (b_h0f11 : 0 ≤ h0f11.toInt ∧ h0f11.toInt ≤ 200) : Met l yX10_clearBench (Cond.code yX10_clearBench cX10_clearBench 3 (some (.object "FiniteMatrices$Roll")) :: uw) Rm_cX10_clearBench_37f2f (pT D k sz [.ref h0, .int x1, .int x2] [(h0, ob 7 [.ref h1, .ref h2, .int h0f2, .ref h3, .ref h4, .ref h5, .int h0f6, .ref h6, .int h0f8, .null, .ref h7, .int h0f11, .ref h8, .ref h9, .ref h10, .ref h11, .ref h12])]) (qR (B_cX10_clearBench_37f2f D k h0 h1 h2 h3 h4 h5 h6 h7 h8 h9 h10 h11 h12 x1 x2 h0f2 h0f6 h0f8 h0f11 (zA [h0] sz)) (zA [h0] sz)) 9 16296 (zA [h0] sz) := by
  refine tz_begin (as := [h0]) (Qc := fun A => qR (B_cX10_clearBench_37f2f D k h0 h1 h2 h3 h4 h5 h6 h7 h8 h9 h10 h11 h12 x1 x2 h0f2 h0f6 h0f8 h0f11 A) A) (by decide +kernel) rfl (Nat.le_of_ble_eq_true rfl) ?_
  intro p e s m args below meth c ls A Q hx hb hr hml hown hlocks hin hU hK hT hS hA hl hQ
  have hl : lv_has ls 3 [(0, .ref h0), (1, .int x1), (2, .int x2)] := hl
  have hT : TP D A [(h0, ob 7 [.ref h1, .ref h2, .int h0f2, .ref h3, .ref h4, .ref h5, .int h0f6, .ref h6, .int h0f8, .null, .ref h7, .int h0f11, .ref h8, .ref h9, .ref h10, .ref h11, .ref h12])] s.heap := hT
  refine lv_aload_n hx hb dX10_clearBench_0 rfl (lv_at hl 0 rfl) ?_
  refine tz_get (ci := 7) (v := .null) (C := RX10) (F := TX10) (N := 17) hx hb hU iX10 hown hK hT 0 rfl rfl 9 (by decide) w258 (fun _ h9 => h9) rfl dX10_clearBench_1 ?_
  refine lv_ifnonnullN hx hb dX10_clearBench_4 ?_
  refine lv_aload_n hx hb dX10_clearBench_7 rfl (lv_at hl 0 rfl) ?_
  refine tz_new (ci := 3) (fs := [.null, .null, .null, .null, .null, .null, .null, .null, .int 0, .int 0, .int 0, .int 0]) (C := RX4) (F := TX4) (N := 12) hx hb hU iX4 tyX4 tyX4_ok hown w143 w144 w66 hK hT hS hA rfl (by decide) (Nat.le_of_ble_eq_true rfl) (Nat.le_of_ble_eq_true rfl) dX10_clearBench_8 (fun q1 H hT hS => ?_)
  have hT : TP D A [(h0, ob 7 [.ref h1, .ref h2, .int h0f2, .ref h3, .ref h4, .ref h5, .int h0f6, .ref h6, .int h0f8, .null, .ref h7, .int h0f11, .ref h8, .ref h9, .ref h10, .ref h11, .ref h12]), (q1, ob 3 [.null, .null, .null, .null, .null, .null, .null, .null, .int 0, .int 0, .int 0, .int 0])] _ := hT
  refine lv_dup hx hb dX10_clearBench_11 rfl ?_
  refine lv_sipush (v := 400) hx hb dX10_clearBench_12 (by decide) ?_
  refine lv_sipush (v := 12000) hx hb dX10_clearBench_15 (by decide) ?_
  refine lv_sipush (v := 1024) hx hb dX10_clearBench_18 (by decide) ?_
  have q_q3 := li_0
  have q_q4 := li_0
  have q_q5 := li_0
  have q_q6 := li_0
  refine tcV (Tc := [(q1, ob 3 [.null, .null, .null, .null, .null, .null, .null, .null, .int 0, .int 0, .int 0, .int 0])]) (Tr := [(h0, ob 7 [.ref h1, .ref h2, .int h0f2, .ref h3, .ref h4, .ref h5, .int h0f6, .ref h6, .int h0f8, .null, .ref h7, .int h0f11, .ref h8, .ref h9, .ref h10, .ref h11, .ref h12])]) (as := [q1]) (zcI (As := [.int 400, .int 12000, .int 1024]) (rest := [.ref q1, .ref h0]) (Tc := [(q1, ob 3 [.null, .null, .null, .null, .null, .null, .null, .null, .int 0, .int 0, .int 0, .int 0])]) hx hb hml hown hU hK hT [1] rfl (by decide) (cX4_init_78b52 l D k _ q1 (0) (0) (0) (0) (by have := li_0; omega) (by have := li_0; omega) (by have := li_0; omega) (by have := li_0; omega)) w147 w145 w146 w66 rfl hdX4_init ⟨rfl, rfl⟩ ⟨Nat.le_of_ble_eq_true rfl, Nat.le_of_ble_eq_true rfl⟩ rfl hl.1 (Nat.le_of_ble_eq_true rfl) dX10_clearBench_21 ⟨Nat.le_of_ble_eq_true rfl, Nat.le_of_ble_eq_true rfl⟩) hT hS hA [1] [0] rfl rfl rfl (by decide) (by decide) (fun H locs hB J hS => ?_)
  obtain ⟨q7, q8, q9, q10, q11, q12, q13, q14, hT1⟩ := hB
  have hT := J _ hT1
  have hT : TP D A [(h0, ob 7 [.ref h1, .ref h2, .int h0f2, .ref h3, .ref h4, .ref h5, .int h0f6, .ref h6, .int h0f8, .null, .ref h7, .int h0f11, .ref h8, .ref h9, .ref h10, .ref h11, .ref h12]), (q1, ob 3 [.ref q7, .ref q8, .ref q9, .ref q10, .ref q11, .ref q12, .ref q13, .ref q14, .int 0, .int 0, .int 0, .int 0]), (q7, aJ (k 1) 12000 anJ), (q8, aI (k 0) 400 anI), (q9, aI (k 0) 400 anI), (q10, aI (k 0) 400 anI), (q11, aI (k 0) 1600 anI), (q12, aI (k 0) 1024 anI), (q13, aI (k 0) 400 anI), (q14, aJ (k 1) 60 anJ)] _ := hT
  refine tz_put (ci := 7) (v := .ref q1) (ty := .object "FiniteMatrices$Roll") (C := RX10) (F := TX10) (N := 17) hx hb hU iX10 tyX10 tyX10_ok nmX10 hown hK hT hS 0 rfl rfl 9 (by decide) w258 (fun _ h9 => h9) rfl (by decide +kernel) rfl rfl (Nat.le_of_ble_eq_true rfl) dX10_clearBench_24 (fun H locs hT hS => ?_)
  have hT : TP D A [(h0, ob 7 [.ref h1, .ref h2, .int h0f2, .ref h3, .ref h4, .ref h5, .int h0f6, .ref h6, .int h0f8, .ref q1, .ref h7, .int h0f11, .ref h8, .ref h9, .ref h10, .ref h11, .ref h12]), (q1, ob 3 [.ref q7, .ref q8, .ref q9, .ref q10, .ref q11, .ref q12, .ref q13, .ref q14, .int 0, .int 0, .int 0, .int 0]), (q7, aJ (k 1) 12000 anJ), (q8, aI (k 0) 400 anI), (q9, aI (k 0) 400 anI), (q10, aI (k 0) 400 anI), (q11, aI (k 0) 1600 anI), (q12, aI (k 0) 1024 anI), (q13, aI (k 0) 400 anI), (q14, aJ (k 1) 60 anJ)] _ := hT
  refine lv_aload_n hx hb dX10_clearBench_27 rfl (lv_at hl 0 rfl) ?_
  refine tz_get (ci := 7) (v := .ref q1) (C := RX10) (F := TX10) (N := 17) hx hb hU iX10 hown hK hT 0 rfl rfl 9 (by decide) w258 (fun _ h9 => h9) rfl dX10_clearBench_28 ?_
  refine lv_iload_n hx hb dX10_clearBench_31 rfl (lv_at hl 1 rfl) ?_
  refine lv_iload_n hx hb dX10_clearBench_32 rfl (lv_at hl 2 rfl) ?_
  have q_q16 := li_0
  have q_q17 := li_0
  have q_q18 := li_0
  have q_q19 := li_0
  refine tcV (Tc := [(q1, ob 3 [.ref q7, .ref q8, .ref q9, .ref q10, .ref q11, .ref q12, .ref q13, .ref q14, .int 0, .int 0, .int 0, .int 0]), (q12, aI (k 0) 1024 anI), (q13, aI (k 0) 400 anI)]) (Tr := [(h0, ob 7 [.ref h1, .ref h2, .int h0f2, .ref h3, .ref h4, .ref h5, .int h0f6, .ref h6, .int h0f8, .ref q1, .ref h7, .int h0f11, .ref h8, .ref h9, .ref h10, .ref h11, .ref h12]), (q7, aJ (k 1) 12000 anJ), (q8, aI (k 0) 400 anI), (q9, aI (k 0) 400 anI), (q10, aI (k 0) 400 anI), (q11, aI (k 0) 1600 anI), (q14, aJ (k 1) 60 anJ)]) (as := [q1, q12, q13]) (zcV (q0 := 1) (ci := 3) (As := [.int x1, .int x2]) (rest := []) (Tc := [(q1, ob 3 [.ref q7, .ref q8, .ref q9, .ref q10, .ref q11, .ref q12, .ref q13, .ref q14, .int 0, .int 0, .int 0, .int 0]), (q12, aI (k 0) 1024 anI), (q13, aI (k 0) 400 anI)]) hx hb hml hown hU hK hT rfl rfl [1, 7, 8] rfl (by decide) (cX4_clear_4af68 l D k _ q1 q12 q13 q7 q8 q9 q10 q11 q14 x1 x2 (0) (0) (0) (0) (by omega) (by omega) (by have := li_0; omega) (by have := li_0; omega) (by have := li_0; omega) (by have := li_0; omega)) w496 w493 w494 w495 w66 hdX4_clear ⟨rfl, rfl⟩ ⟨Nat.le_of_ble_eq_true rfl, Nat.le_of_ble_eq_true rfl⟩ rfl hl.1 (Nat.le_of_ble_eq_true rfl) dX10_clearBench_33 ⟨Nat.le_of_ble_eq_true rfl, Nat.le_of_ble_eq_true rfl⟩) hT hS hA [1, 7, 8] [0, 2, 3, 4, 5, 6, 9] rfl rfl rfl (by decide) (by decide) (fun H locs hB J hS => ?_)
  have hT1 := hB
  have hT := J _ hT1
  have hT : TP D A [(h0, ob 7 [.ref h1, .ref h2, .int h0f2, .ref h3, .ref h4, .ref h5, .int h0f6, .ref h6, .int h0f8, .ref q1, .ref h7, .int h0f11, .ref h8, .ref h9, .ref h10, .ref h11, .ref h12]), (q7, aJ (k 1) 12000 anJ), (q8, aI (k 0) 400 anI), (q9, aI (k 0) 400 anI), (q10, aI (k 0) 400 anI), (q11, aI (k 0) 1600 anI), (q14, aJ (k 1) 60 anJ), (q1, ob 3 [.ref q7, .ref q8, .ref q9, .ref q10, .ref q11, .ref q12, .ref q13, .ref q14, .int x1, .int x2, .int 0, .int 0]), (q12, aI (k 0) 1024 (rgI (-1) (0 - 1))), (q13, aI (k 0) 400 (pfI (0)))] _ := hT
  refine lv_aload_n hx hb dX10_clearBench_36 rfl (lv_at hl 0 rfl) ?_
  refine tz_get (ci := 7) (v := .ref q1) (C := RX10) (F := TX10) (N := 17) hx hb hU iX10 hown hK hT 0 rfl rfl 9 (by decide) w258 (fun _ h9 => h9) rfl dX10_clearBench_37 ?_
  exact tz_retR (B := B_cX10_clearBench_37f2f D k h0 h1 h2 h3 h4 h5 h6 h7 h8 h9 h10 h11 h12 x1 x2 h0f2 h0f6 h0f8 h0f11) (v := q1) hQ hx hb hr hlocks hS (Nat.le_of_ble_eq_true rfl) (Nat.le_of_ble_eq_true rfl) dX10_clearBench_40 (⟨q1, q7, q8, q9, q10, q11, q12, q13, q14, rfl, (hT.sub [0, 7, 1, 2, 3, 4, 5, 8, 9, 6] (by decide) rfl)⟩)
abbrev Rm_cX4_start_4cfb7 : Room := { frames := 0, cells := 0, slots := 0, locals := 0 }
abbrev B_cX4_start_4cfb7 (D : va_G) (k : Nat → ClassId) (h0 h1 h2 h3 h4 h5 h6 h7 h8 : Nat) (x1 : Int32) (h0f8 : Int32) (h0f9 : Int32) (h0f10 : Int32) (h0f11 : Int32) (A : Nat → Prop) (r : Int32) (H : Heap) : Prop := (0 ≤ r.toInt ∧ r.toInt ≤ 3591) ∧ TP D A [(h0, ob 3 [.ref h1, .ref h2, .ref h3, .ref h4, .ref h5, .ref h6, .ref h7, .ref h8, .int h0f8, .int h0f9, .int h0f10, .int h0f11])] H
set_option maxHeartbeats 4000000 in
set_option maxRecDepth 100000 in
theorem cX4_start_4cfb7 (l : Launch) (D : va_G) (k : Nat → ClassId) (sz : Nat) (h0 h1 h2 h3 h4 h5 h6 h7 h8 : Nat) (x1 : Int32) (h0f8 : Int32) (h0f9 : Int32) (h0f10 : Int32) (h0f11 : Int32) (b_x1 : 0 ≤ x1.toInt ∧ x1.toInt ≤ 399) (b_h0f8 : 1 ≤ h0f8.toInt ∧ h0f8.toInt ≤ 9) (b_h0f9 : 400 ≤ h0f9.toInt ∧ h0f9.toInt ≤ 400) (b_h0f10 : 0 ≤ h0f10.toInt ∧ h0f10.toInt ≤ 400) (b_h0f11 : 0 ≤ h0f11.toInt ∧ h0f11.toInt ≤ 1) : Met l yX4_start (Cond.code yX4_start cX4_start 2 (some .int) :: uw) Rm_cX4_start_4cfb7 (pT D k sz [.ref h0, .int x1] [(h0, ob 3 [.ref h1, .ref h2, .ref h3, .ref h4, .ref h5, .ref h6, .ref h7, .ref h8, .int h0f8, .int h0f9, .int h0f10, .int h0f11])]) (qI (B_cX4_start_4cfb7 D k h0 h1 h2 h3 h4 h5 h6 h7 h8 x1 h0f8 h0f9 h0f10 h0f11 (zA [h0] sz)) (zA [h0] sz)) 0 0 (zA [h0] sz) := by
  refine tz_begin (as := [h0]) (Qc := fun A => qI (B_cX4_start_4cfb7 D k h0 h1 h2 h3 h4 h5 h6 h7 h8 x1 h0f8 h0f9 h0f10 h0f11 A) A) (by decide +kernel) rfl (Nat.le_of_ble_eq_true rfl) ?_
  intro p e s m args below meth c ls A Q hx hb hr hml hown hlocks hin hU hK hT hS hA hl hQ
  have hl : lv_has ls 2 [(0, .ref h0), (1, .int x1)] := hl
  have hT : TP D A [(h0, ob 3 [.ref h1, .ref h2, .ref h3, .ref h4, .ref h5, .ref h6, .ref h7, .ref h8, .int h0f8, .int h0f9, .int h0f10, .int h0f11])] s.heap := hT
  refine lv_iload_n hx hb dX4_start_0 rfl (lv_at hl 1 rfl) ?_
  refine lv_aload_n hx hb dX4_start_1 rfl (lv_at hl 0 rfl) ?_
  refine tz_get (ci := 3) (v := .int h0f8) (C := RX4) (F := TX4) (N := 12) hx hb hU iX4 hown hK hT 0 rfl rfl 8 (by decide) w162 (fun _ h9 => h9) rfl dX4_start_2 ?_
  refine lv_imul hx hb dX4_start_5 (lv_topi (fun v1 e_v1 => ?_))
  have e_v1 := ai_mm (la := 0) (ua := 399) (lb := 1) (ub := 9) e_v1 rfl rfl (by omega) (by decide)
  exact tz_retI (B := B_cX4_start_4cfb7 D k h0 h1 h2 h3 h4 h5 h6 h7 h8 x1 h0f8 h0f9 h0f10 h0f11) (v := v1) hQ hx hb hr hlocks hS (Nat.le_of_ble_eq_true rfl) (Nat.le_of_ble_eq_true rfl) dX4_start_6 (⟨(by omega), hT⟩)
abbrev Rm_cX4_has_0fe2d : Room := { frames := 0, cells := 0, slots := 0, locals := 0 }
abbrev B_cX4_has_0fe2d (D : va_G) (k : Nat → ClassId) (h0 h1 h2 h3 h4 h5 h6 h7 h8 : Nat) (x1 : Int32) (h0f8 : Int32) (h0f9 : Int32) (h0f10 : Int32) (h0f11 : Int32) (A : Nat → Prop) (r : Int32) (H : Heap) : Prop := (0 = r ∧ TP D A [(h0, ob 3 [.ref h1, .ref h2, .ref h3, .ref h4, .ref h5, .ref h6, .ref h7, .ref h8, .int h0f8, .int h0f9, .int h0f10, .int h0f11])] H) ∨ (0 ≤ x1.toInt ∧ x1.toInt < h0f10.toInt ∧ 1 = r ∧ TP D A [(h0, ob 3 [.ref h1, .ref h2, .ref h3, .ref h4, .ref h5, .ref h6, .ref h7, .ref h8, .int h0f8, .int h0f9, .int h0f10, .int h0f11])] H)
set_option maxHeartbeats 4000000 in
set_option maxRecDepth 100000 in
theorem cX4_has_0fe2d (l : Launch) (D : va_G) (k : Nat → ClassId) (sz : Nat) (h0 h1 h2 h3 h4 h5 h6 h7 h8 : Nat) (x1 : Int32) (h0f8 : Int32) (h0f9 : Int32) (h0f10 : Int32) (h0f11 : Int32) (b_x1 : (-3) ≤ x1.toInt ∧ x1.toInt ≤ 399) (b_h0f8 : 1 ≤ h0f8.toInt ∧ h0f8.toInt ≤ 9) (b_h0f9 : 400 ≤ h0f9.toInt ∧ h0f9.toInt ≤ 400) (b_h0f10 : 0 ≤ h0f10.toInt ∧ h0f10.toInt ≤ 399) (b_h0f11 : 0 ≤ h0f11.toInt ∧ h0f11.toInt ≤ 1) : Met l yX4_has (Cond.code yX4_has cX4_has 2 (some .boolean) :: uw) Rm_cX4_has_0fe2d (pT D k sz [.ref h0, .int x1] [(h0, ob 3 [.ref h1, .ref h2, .ref h3, .ref h4, .ref h5, .ref h6, .ref h7, .ref h8, .int h0f8, .int h0f9, .int h0f10, .int h0f11])]) (qI (B_cX4_has_0fe2d D k h0 h1 h2 h3 h4 h5 h6 h7 h8 x1 h0f8 h0f9 h0f10 h0f11 (zA [h0] sz)) (zA [h0] sz)) 0 0 (zA [h0] sz) := by
  refine tz_begin (as := [h0]) (Qc := fun A => qI (B_cX4_has_0fe2d D k h0 h1 h2 h3 h4 h5 h6 h7 h8 x1 h0f8 h0f9 h0f10 h0f11 A) A) (by decide +kernel) rfl (Nat.le_of_ble_eq_true rfl) ?_
  intro p e s m args below meth c ls A Q hx hb hr hml hown hlocks hin hU hK hT hS hA hl hQ
  have hl : lv_has ls 2 [(0, .ref h0), (1, .int x1)] := hl
  have hT : TP D A [(h0, ob 3 [.ref h1, .ref h2, .ref h3, .ref h4, .ref h5, .ref h6, .ref h7, .ref h8, .int h0f8, .int h0f9, .int h0f10, .int h0f11])] s.heap := hT
  refine lv_iload_n hx hb dX4_has_0 rfl (lv_at hl 1 rfl) ?_
  refine lv_if_lt (tgt := 16) hx hb dX4_has_1 (by decide) (fun c_1 => ?_) (fun c_1 => ?_)
  · skip
    have c_1 := ni_lt c_1 rfl li_0
    refine lv_iconst (v := 0) hx hb dX4_has_16 (by decide) ?_
    exact tz_retZ (B := B_cX4_has_0fe2d D k h0 h1 h2 h3 h4 h5 h6 h7 h8 x1 h0f8 h0f9 h0f10 h0f11) (v := 0) hQ hx hb hr hlocks hS (Nat.le_of_ble_eq_true rfl) (Nat.le_of_ble_eq_true rfl) dX4_has_17 (by have := li_0; omega) (Or.inl ⟨rfl, hT⟩)
  · skip
    have c_1 := ni_nlt c_1 rfl li_0
    refine lv_iload_n hx hb dX4_has_4 rfl (lv_at hl 1 rfl) ?_
    refine lv_aload_n hx hb dX4_has_5 rfl (lv_at hl 0 rfl) ?_
    refine tz_get (ci := 3) (v := .int h0f10) (C := RX4) (F := TX4) (N := 12) hx hb hU iX4 hown hK hT 0 rfl rfl 10 (by decide) w164 (fun _ h9 => h9) rfl dX4_has_6 ?_
    refine lv_icmp_ge (tgt := 16) hx hb dX4_has_9 (by decide) (fun c_2 => ?_) (fun c_2 => ?_)
    · skip
      have c_2 := ni_le c_2 rfl rfl
      refine lv_iconst (v := 0) hx hb dX4_has_16 (by decide) ?_
      exact tz_retZ (B := B_cX4_has_0fe2d D k h0 h1 h2 h3 h4 h5 h6 h7 h8 x1 h0f8 h0f9 h0f10 h0f11) (v := 0) hQ hx hb hr hlocks hS (Nat.le_of_ble_eq_true rfl) (Nat.le_of_ble_eq_true rfl) dX4_has_17 (by have := li_0; omega) (Or.inl ⟨rfl, hT⟩)
    · skip
      have c_2 := ni_nle c_2 rfl rfl
      refine lv_iconst (v := 1) hx hb dX4_has_12 (by decide) ?_
      refine lv_goto (tgt := 17) hx hb dX4_has_13 (by decide) ?_
      exact tz_retZ (B := B_cX4_has_0fe2d D k h0 h1 h2 h3 h4 h5 h6 h7 h8 x1 h0f8 h0f9 h0f10 h0f11) (v := 1) hQ hx hb hr hlocks hS (Nat.le_of_ble_eq_true rfl) (Nat.le_of_ble_eq_true rfl) dX4_has_17 (by have := li_1; omega) (Or.inr (⟨(by have := li_1; omega), (by have := li_1; omega), rfl, hT⟩))
abbrev Rm_cX4_slotOf_71ced : Room := { frames := 0, cells := 0, slots := 0, locals := 0 }
abbrev B_cX4_slotOf_71ced (D : va_G) (k : Nat → ClassId) (h0 h1 h7 h2 h3 h4 h5 h6 h8 h9 : Nat) (h0f8 : Int32) (h0f9 : Int32) (h0f10 : Int32) (h0f11 : Int32) (A : Nat → Prop) (r : Int32) (H : Heap) : Prop := (0 ≤ r.toInt ∧ r.toInt ≤ 1023) ∧ TP D A [(h0, ob 3 [.ref h2, .ref h3, .ref h4, .ref h5, .ref h6, .ref h7, .ref h8, .ref h9, .int h0f8, .int h0f9, .int h0f10, .int h0f11]), (h1, aJ (k 1) 9 anJ), (h7, aI (k 0) 1024 (rgI (-1) (h0f10.toInt - 1)))] H
set_option maxHeartbeats 4000000 in
set_option maxRecDepth 100000 in
theorem cX4_slotOf_71ced (l : Launch) (D : va_G) (k : Nat → ClassId) (sz : Nat) (h0 h1 h7 h2 h3 h4 h5 h6 h8 h9 : Nat) (h0f8 : Int32) (h0f9 : Int32) (h0f10 : Int32) (h0f11 : Int32) (b_h0f8 : 1 ≤ h0f8.toInt ∧ h0f8.toInt ≤ 9) (b_h0f9 : 400 ≤ h0f9.toInt ∧ h0f9.toInt ≤ 400) (b_h0f10 : 0 ≤ h0f10.toInt ∧ h0f10.toInt ≤ 400) (b_h0f11 : 0 ≤ h0f11.toInt ∧ h0f11.toInt ≤ 0) : Met l yX4_slotOf (Cond.code yX4_slotOf cX4_slotOf 5 (some .int) :: uw) Rm_cX4_slotOf_71ced (pT D k sz [.ref h0, .ref h1] [(h0, ob 3 [.ref h2, .ref h3, .ref h4, .ref h5, .ref h6, .ref h7, .ref h8, .ref h9, .int h0f8, .int h0f9, .int h0f10, .int h0f11]), (h1, aJ (k 1) 9 anJ), (h7, aI (k 0) 1024 (rgI (-1) (h0f10.toInt - 1)))]) (qI (B_cX4_slotOf_71ced D k h0 h1 h7 h2 h3 h4 h5 h6 h8 h9 h0f8 h0f9 h0f10 h0f11 (zA [h0, h1, h7] sz)) (zA [h0, h1, h7] sz)) 0 0 (zA [h0, h1, h7] sz) := by
  refine tz_begin (as := [h0, h1, h7]) (Qc := fun A => qI (B_cX4_slotOf_71ced D k h0 h1 h7 h2 h3 h4 h5 h6 h8 h9 h0f8 h0f9 h0f10 h0f11 A) A) (by decide +kernel) rfl (Nat.le_of_ble_eq_true rfl) ?_
  intro p e s m args below meth c ls A Q hx hb hr hml hown hlocks hin hU hK hT hS hA hl hQ
  have hl : lv_has ls 5 [(0, .ref h0), (1, .ref h1)] := hl
  have hT : TP D A [(h0, ob 3 [.ref h2, .ref h3, .ref h4, .ref h5, .ref h6, .ref h7, .ref h8, .ref h9, .int h0f8, .int h0f9, .int h0f10, .int h0f11]), (h1, aJ (k 1) 9 anJ), (h7, aI (k 0) 1024 (rgI (-1) (h0f10.toInt - 1)))] s.heap := hT
  refine lv_lconst (v := 0) hx hb dX4_slotOf_0 (by decide) ?_
  refine lv_lstore_n (lv' := [(2, .long 0), (0, .ref h0), (1, .ref h1)]) hx hb dX4_slotOf_1 rfl hl (by decide) rfl (fun ls hl => ?_)
  refine lv_iconst (v := 0) hx hb dX4_slotOf_2 (by decide) ?_
  refine lv_istore (lv' := [(4, .int 0), (2, .long 0), (0, .ref h0), (1, .ref h1)]) hx hb dX4_slotOf_3 hl (by decide) rfl (fun ls hl => ?_)
  have lp5_15 : ∀ (n : Nat) (y13 : Int32) (y14 : Int64) (H : Heap) (locs : List Loc) (ls : Array Slot), (0 ≤ y13.toInt ∧ y13.toInt ≤ 9) → (h0f8.toInt + (-1) * y13.toInt + 1).toNat < n → TP D A [(h0, ob 3 [.ref h2, .ref h3, .ref h4, .ref h5, .ref h6, .ref h7, .ref h8, .ref h9, .int h0f8, .int h0f9, .int h0f10, .int h0f11]), (h1, aJ (k 1) 9 anJ), (h7, aI (k 0) 1024 (rgI (-1) (h0f10.toInt - 1)))] H → va_S A s.heap H locs → lv_has ls 5 [(0, .ref h0), (1, .ref h1), (2, .long y14), (4, .int y13)] → W p l e Rm_cX4_slotOf_71ced s m args below meth c H locs 0 0 Q (F0 m 5 ls []) := by
    intro n
    induction n with
    | zero => intro y13 y14 H locs ls b_y13 hm hT hS hl; exact absurd hm (Nat.not_lt_zero _)
    | succ n ih =>
      intro y13 y14 H locs ls b_y13 hm hT hS hl
      have ih5_15 := ih
      clear ih
      refine lv_iload hx hb dX4_slotOf_5 (lv_at hl 3 rfl) ?_
      refine lv_aload_n hx hb dX4_slotOf_7 rfl (lv_at hl 0 rfl) ?_
      refine tz_get (ci := 3) (v := .int h0f8) (C := RX4) (F := TX4) (N := 12) hx hb hU iX4 hown hK hT 0 rfl rfl 8 (by decide) w162 (fun _ h9 => h9) rfl dX4_slotOf_8 ?_
      refine lv_icmp_ge (tgt := 31) hx hb dX4_slotOf_11 (by decide) (fun c_16 => ?_) (fun c_16 => ?_)
      · skip
        have c_16 := ni_le c_16 rfl rfl
        refine lv_lload_n hx hb dX4_slotOf_31 rfl (lv_at hl 2 rfl) ?_
        refine lv_lload_n hx hb dX4_slotOf_32 rfl (lv_at hl 2 rfl) ?_
        refine lv_bipush (v := 32) hx hb dX4_slotOf_33 (by decide) ?_
        refine lv_lushr hx hb dX4_slotOf_35 rfl (lv_topl (fun v17 _ => ?_))
        refine lv_lxor hx hb dX4_slotOf_36 (lv_topl (fun v18 e_v18 => ?_))
        refine lv_lstore_n (lv' := [(2, .long v18), (0, .ref h0), (1, .ref h1), (4, .int y13)]) hx hb dX4_slotOf_37 rfl hl (by decide) rfl (fun ls hl => ?_)
        refine lv_lload_n hx hb dX4_slotOf_38 rfl (lv_at hl 0 rfl) ?_
        refine lv_lload_n hx hb dX4_slotOf_39 rfl (lv_at hl 0 rfl) ?_
        refine lv_bipush (v := 16) hx hb dX4_slotOf_40 (by decide) ?_
        refine lv_lushr hx hb dX4_slotOf_42 rfl (lv_topl (fun v19 _ => ?_))
        refine lv_lxor hx hb dX4_slotOf_43 (lv_topl (fun v20 e_v20 => ?_))
        refine lv_lstore_n (lv' := [(2, .long v20), (0, .ref h0), (1, .ref h1), (4, .int y13)]) hx hb dX4_slotOf_44 rfl hl (by decide) rfl (fun ls hl => ?_)
        refine lv_lload_n hx hb dX4_slotOf_45 rfl (lv_at hl 0 rfl) ?_
        refine lv_l2i hx hb dX4_slotOf_46 rfl (lv_topi (fun v21 _ => ?_))
        refine lv_aload_n hx hb dX4_slotOf_47 rfl (lv_at hl 1 rfl) ?_
        refine tz_get (ci := 3) (v := .ref h7) (C := RX4) (F := TX4) (N := 12) hx hb hU iX4 hown hK hT 0 rfl rfl 5 (by decide) w159 (fun _ h9 => h9) rfl dX4_slotOf_48 ?_
        refine tz_aleni (v := 1024) hx hb hK hT 2 rfl (by decide +kernel) dX4_slotOf_51 ?_
        refine lv_iconst (v := 1) hx hb dX4_slotOf_52 (by decide) ?_
        refine lv_isub hx hb dX4_slotOf_53 (sv_i (v := 1023) (by decide +kernel) ?_)
        refine lv_iand hx hb dX4_slotOf_54 (lv_topi (fun v22 e_v22 => ?_))
        have e_v22 := ai_and 10 e_v22 (by decide +kernel) (by decide)
        exact tz_retI (B := B_cX4_slotOf_71ced D k h0 h1 h7 h2 h3 h4 h5 h6 h8 h9 h0f8 h0f9 h0f10 h0f11) (v := v22) hQ hx hb hr hlocks hS (Nat.le_of_ble_eq_true rfl) (Nat.le_of_ble_eq_true rfl) dX4_slotOf_55 (⟨(by omega), hT⟩)
      · skip
        have c_16 := ni_nle c_16 rfl rfl
        refine lv_lload_n hx hb dX4_slotOf_14 rfl (lv_at hl 2 rfl) ?_
        refine lv_ldc2 hx hb hown (hU _ w515) dX4_slotOf_15 ?_
        refine lv_lmul hx hb dX4_slotOf_18 (lv_topl (fun v23 e_v23 => ?_))
        refine lv_aload_n hx hb dX4_slotOf_19 rfl (lv_at hl 1 rfl) ?_
        refine lv_iload hx hb dX4_slotOf_20 (lv_at hl 3 rfl) ?_
        refine tz_lald hx hb hK hT 1 rfl (by omega) dX4_slotOf_22 (fun v24 e_v24 => ?_)
        clear e_v24
        refine lv_ladd hx hb dX4_slotOf_23 (lv_topl (fun v25 e_v25 => ?_))
        refine lv_lstore_n (lv' := [(2, .long v25), (0, .ref h0), (1, .ref h1), (4, .int y13)]) hx hb dX4_slotOf_24 rfl hl (by decide) rfl (fun ls hl => ?_)
        obtain ⟨v26, e_v26⟩ : ∃ x : Int32, x = y13 + Int32.ofInt 1 := ⟨_, rfl⟩
        have f_v26 := e_v26.symm
        have e_v26 : v26.toInt = y13.toInt + 1 := ai_add e_v26 rfl (show (Int32.ofInt 1).toInt = 1 from (by decide +kernel)) (by omega)
        refine lv_iinc (v := v26) (lv' := [(4, .int v26), (2, .long v25), (0, .ref h0), (1, .ref h1)]) hx hb dX4_slotOf_25 hl (k := 3) rfl f_v26 (by decide) rfl (fun ls hl => ?_)
        refine lv_goto (tgt := 5) hx hb dX4_slotOf_28 (by decide) ?_
        exact ih5_15 v26 v25 _ _ _ (by omega)  (by omega) hT hS (lv_sub hl [2, 3, 1, 0] rfl)
  exact lp5_15 ((h0f8.toInt + (-1) * (0 : Int32).toInt + 1).toNat + 1) (0) (0) _ _ _ (by have := li_0; have := ll_0; omega)  (Nat.lt_succ_self _) hT hS (lv_sub hl [2, 3, 1, 0] rfl)
abbrev Rm_cX4_append_aa194 : Room := { frames := 1, cells := 0, slots := 0, locals := 26 }
abbrev B_cX4_append_aa194 (D : va_G) (k : Nat → ClassId) (h0 h1 h2 h3 h4 h5 h7 h8 h6 h9 : Nat) (x2 : Int32) (x3 : Int32) (h0f8 : Int32) (h0f9 : Int32) (h0f10 : Int32) (h0f11 : Int32) (A : Nat → Prop) (r : Int32) (H : Heap) : Prop := ∃ o0 : Int32, (1 ≤ o0.toInt ∧ o0.toInt ≤ 400) ∧ ((-1) ≤ r.toInt ∧ r.toInt ≤ 399) ∧ TP D A [(h0, ob 3 [.ref h2, .ref h3, .ref h4, .ref h5, .ref h6, .ref h7, .ref h8, .ref h9, .int h0f8, .int h0f9, .int o0, .int h0f11]), (h1, aJ (k 1) 9 anJ), (h2, aJ (k 1) 12000 anJ), (h3, aI (k 0) 400 anI), (h4, aI (k 0) 400 anI), (h5, aI (k 0) 400 anI), (h7, aI (k 0) 1024 (rgI (-1) (o0.toInt - 1))), (h8, aI (k 0) 400 (pfI (o0.toInt)))] H
set_option maxHeartbeats 4000000 in
set_option maxRecDepth 100000 in
theorem cX4_append_aa194 (l : Launch) (D : va_G) (k : Nat → ClassId) (sz : Nat) (h0 h1 h2 h3 h4 h5 h7 h8 h6 h9 : Nat) (x2 : Int32) (x3 : Int32) (h0f8 : Int32) (h0f9 : Int32) (h0f10 : Int32) (h0f11 : Int32) (b_x2 : (-3) ≤ x2.toInt ∧ x2.toInt ≤ (-3)) (b_x3 : (-3) ≤ x3.toInt ∧ x3.toInt ≤ (-3)) (b_h0f8 : 1 ≤ h0f8.toInt ∧ h0f8.toInt ≤ 9) (b_h0f9 : 400 ≤ h0f9.toInt ∧ h0f9.toInt ≤ 400) (b_h0f10 : 0 ≤ h0f10.toInt ∧ h0f10.toInt ≤ 400) (b_h0f11 : 0 ≤ h0f11.toInt ∧ h0f11.toInt ≤ 0) : Met l yX4_append (Cond.code yX4_append cX4_append 6 (some .int) :: uw) Rm_cX4_append_aa194 (pT D k sz [.ref h0, .ref h1, .int x2, .int x3] [(h0, ob 3 [.ref h2, .ref h3, .ref h4, .ref h5, .ref h6, .ref h7, .ref h8, .ref h9, .int h0f8, .int h0f9, .int h0f10, .int h0f11]), (h1, aJ (k 1) 9 anJ), (h2, aJ (k 1) 12000 anJ), (h3, aI (k 0) 400 anI), (h4, aI (k 0) 400 anI), (h5, aI (k 0) 400 anI), (h7, aI (k 0) 1024 (rgI (-1) (h0f10.toInt - 1))), (h8, aI (k 0) 400 (pfI (h0f10.toInt)))]) (qI (B_cX4_append_aa194 D k h0 h1 h2 h3 h4 h5 h7 h8 h6 h9 x2 x3 h0f8 h0f9 h0f10 h0f11 (zA [h0, h1, h2, h3, h4, h5, h7, h8] sz)) (zA [h0, h1, h2, h3, h4, h5, h7, h8] sz)) 0 0 (zA [h0, h1, h2, h3, h4, h5, h7, h8] sz) := by
  refine tz_begin (as := [h0, h1, h2, h3, h4, h5, h7, h8]) (Qc := fun A => qI (B_cX4_append_aa194 D k h0 h1 h2 h3 h4 h5 h7 h8 h6 h9 x2 x3 h0f8 h0f9 h0f10 h0f11 A) A) (by decide +kernel) rfl (Nat.le_of_ble_eq_true rfl) ?_
  intro p e s m args below meth c ls A Q hx hb hr hml hown hlocks hin hU hK hT hS hA hl hQ
  have hl : lv_has ls 6 [(0, .ref h0), (1, .ref h1), (2, .int x2), (3, .int x3)] := hl
  have hT : TP D A [(h0, ob 3 [.ref h2, .ref h3, .ref h4, .ref h5, .ref h6, .ref h7, .ref h8, .ref h9, .int h0f8, .int h0f9, .int h0f10, .int h0f11]), (h1, aJ (k 1) 9 anJ), (h2, aJ (k 1) 12000 anJ), (h3, aI (k 0) 400 anI), (h4, aI (k 0) 400 anI), (h5, aI (k 0) 400 anI), (h7, aI (k 0) 1024 (rgI (-1) (h0f10.toInt - 1))), (h8, aI (k 0) 400 (pfI (h0f10.toInt)))] s.heap := hT
  refine lv_aload_n hx hb dX4_append_0 rfl (lv_at hl 0 rfl) ?_
  refine tz_get (ci := 3) (v := .int h0f10) (C := RX4) (F := TX4) (N := 12) hx hb hU iX4 hown hK hT 0 rfl rfl 10 (by decide) w164 (fun _ h9 => h9) rfl dX4_append_1 ?_
  refine lv_aload_n hx hb dX4_append_4 rfl (lv_at hl 0 rfl) ?_
  refine tz_get (ci := 3) (v := .int h0f9) (C := RX4) (F := TX4) (N := 12) hx hb hU iX4 hown hK hT 0 rfl rfl 9 (by decide) w163 (fun _ h9 => h9) rfl dX4_append_5 ?_
  refine lv_icmp_lt (tgt := 13) hx hb dX4_append_8 (by decide) (fun c_1 => ?_) (fun c_1 => ?_)
  · skip
    have c_1 := ni_lt c_1 rfl rfl
    refine lv_aload_n hx hb dX4_append_13 rfl (lv_at hl 0 rfl) ?_
    refine tz_get (ci := 3) (v := .int h0f10) (C := RX4) (F := TX4) (N := 12) hx hb hU iX4 hown hK hT 0 rfl rfl 10 (by decide) w164 (fun _ h9 => h9) rfl dX4_append_14 ?_
    refine lv_istore (lv' := [(4, .int h0f10), (0, .ref h0), (1, .ref h1), (2, .int x2), (3, .int x3)]) hx hb dX4_append_17 hl (by decide) rfl (fun ls hl => ?_)
    refine lv_aload_n hx hb dX4_append_19 rfl (lv_at hl 2 rfl) ?_
    refine lv_iconst (v := 0) hx hb dX4_append_20 (by decide) ?_
    refine lv_aload_n hx hb dX4_append_21 rfl (lv_at hl 1 rfl) ?_
    refine tz_get (ci := 3) (v := .ref h2) (C := RX4) (F := TX4) (N := 12) hx hb hU iX4 hown hK hT 0 rfl rfl 0 (by decide) w149 (fun _ h9 => h9) rfl dX4_append_22 ?_
    refine lv_aload_n hx hb dX4_append_25 rfl (lv_at hl 1 rfl) ?_
    refine lv_iload hx hb dX4_append_26 (lv_at hl 0 rfl) ?_
    refine tcI (Tc := [(h0, ob 3 [.ref h2, .ref h3, .ref h4, .ref h5, .ref h6, .ref h7, .ref h8, .ref h9, .int h0f8, .int h0f9, .int h0f10, .int h0f11])]) (Tr := [(h1, aJ (k 1) 9 anJ), (h2, aJ (k 1) 12000 anJ), (h3, aI (k 0) 400 anI), (h4, aI (k 0) 400 anI), (h5, aI (k 0) 400 anI), (h7, aI (k 0) 1024 (rgI (-1) (h0f10.toInt - 1))), (h8, aI (k 0) 400 (pfI (h0f10.toInt)))]) (as := [h0]) (zcV (q0 := 0) (ci := 3) (As := [.int h0f10]) (rest := [.ref h2, .int 0, .ref h1]) (Tc := [(h0, ob 3 [.ref h2, .ref h3, .ref h4, .ref h5, .ref h6, .ref h7, .ref h8, .ref h9, .int h0f8, .int h0f9, .int h0f10, .int h0f11])]) hx hb hml hown hU hK hT rfl rfl [0] rfl (by decide) (cX4_start_4cfb7 l D k _ h0 h2 h3 h4 h5 h6 h7 h8 h9 h0f10 h0f8 h0f9 h0f10 h0f11 (by omega) (by omega) (by omega) (by omega) (by omega)) w505 w502 w503 w504 w66 hdX4_start ⟨rfl, rfl⟩ ⟨Nat.le_of_ble_eq_true rfl, Nat.le_of_ble_eq_true rfl⟩ rfl hl.1 (Nat.le_of_ble_eq_true rfl) dX4_append_28 ⟨Nat.le_of_ble_eq_true rfl, Nat.le_of_ble_eq_true rfl⟩) hT hS hA [0] [1, 2, 3, 4, 5, 6, 7] rfl rfl rfl (by decide) (by decide) (fun r2 H locs hB J hS => ?_)
    obtain ⟨b_r2, hT1⟩ := hB
    have hT := J _ hT1
    have hT : TP D A [(h1, aJ (k 1) 9 anJ), (h2, aJ (k 1) 12000 anJ), (h3, aI (k 0) 400 anI), (h4, aI (k 0) 400 anI), (h5, aI (k 0) 400 anI), (h7, aI (k 0) 1024 (rgI (-1) (h0f10.toInt - 1))), (h8, aI (k 0) 400 (pfI (h0f10.toInt))), (h0, ob 3 [.ref h2, .ref h3, .ref h4, .ref h5, .ref h6, .ref h7, .ref h8, .ref h9, .int h0f8, .int h0f9, .int h0f10, .int h0f11])] _ := hT
    refine lv_aload_n hx hb dX4_append_31 rfl (lv_at hl 1 rfl) ?_
    refine tz_get (ci := 3) (v := .int h0f8) (C := RX4) (F := TX4) (N := 12) hx hb hU iX4 hown hK hT 7 rfl rfl 8 (by decide) w162 (fun _ h9 => h9) rfl dX4_append_32 ?_
    refine tz_copyl hx hb (by rw [hml]; exact hl.1.symm) hown hU w506 w348 w347 w75 hK hT hS 0 1 rfl rfl (by have := li_0; omega) (fun _ _ _ _ => trivial) (Nat.le_of_ble_eq_true rfl) (Nat.le_of_ble_eq_true rfl) dX4_append_35 (fun H locs hT hS => ?_)
    refine lv_aload_n hx hb dX4_append_38 rfl (lv_at hl 1 rfl) ?_
    refine tz_get (ci := 3) (v := .ref h3) (C := RX4) (F := TX4) (N := 12) hx hb hU iX4 hown hK hT 7 rfl rfl 1 (by decide) w151 (fun _ h9 => h9) rfl dX4_append_39 ?_
    refine lv_iload hx hb dX4_append_42 (lv_at hl 0 rfl) ?_
    refine lv_iload_n hx hb dX4_append_44 rfl (lv_at hl 3 rfl) ?_
    refine tz_iast hx hb hK hT hS 2 rfl (by omega) (fun _ _ => trivial) dX4_append_45 (fun H locs hT hS => ?_)
    refine lv_aload_n hx hb dX4_append_46 rfl (lv_at hl 1 rfl) ?_
    refine tz_get (ci := 3) (v := .ref h4) (C := RX4) (F := TX4) (N := 12) hx hb hU iX4 hown hK hT 7 rfl rfl 2 (by decide) w153 (fun _ h9 => h9) rfl dX4_append_47 ?_
    refine lv_iload hx hb dX4_append_50 (lv_at hl 0 rfl) ?_
    refine lv_iload_n hx hb dX4_append_52 rfl (lv_at hl 4 rfl) ?_
    refine tz_iast hx hb hK hT hS 3 rfl (by omega) (fun _ _ => trivial) dX4_append_53 (fun H locs hT hS => ?_)
    refine lv_aload_n hx hb dX4_append_54 rfl (lv_at hl 1 rfl) ?_
    refine tz_get (ci := 3) (v := .ref h5) (C := RX4) (F := TX4) (N := 12) hx hb hU iX4 hown hK hT 7 rfl rfl 3 (by decide) w155 (fun _ h9 => h9) rfl dX4_append_55 ?_
    refine lv_iload hx hb dX4_append_58 (lv_at hl 0 rfl) ?_
    refine lv_aload_n hx hb dX4_append_60 rfl (lv_at hl 1 rfl) ?_
    refine lv_iload_n hx hb dX4_append_61 rfl (lv_at hl 3 rfl) ?_
    refine tcI (Tc := [(h0, ob 3 [.ref h2, .ref h3, .ref h4, .ref h5, .ref h6, .ref h7, .ref h8, .ref h9, .int h0f8, .int h0f9, .int h0f10, .int h0f11])]) (Tr := [(h1, aJ (k 1) 9 anJ), (h2, aJ (k 1) 12000 anJ), (h3, aI (k 0) 400 anI), (h4, aI (k 0) 400 anI), (h5, aI (k 0) 400 anI), (h7, aI (k 0) 1024 (rgI (-1) (h0f10.toInt - 1))), (h8, aI (k 0) 400 (pfI (h0f10.toInt)))]) (as := [h0]) (zcV (q0 := 7) (ci := 3) (As := [.int x2]) (rest := [.int h0f10, .ref h5]) (Tc := [(h0, ob 3 [.ref h2, .ref h3, .ref h4, .ref h5, .ref h6, .ref h7, .ref h8, .ref h9, .int h0f8, .int h0f9, .int h0f10, .int h0f11])]) hx hb hml hown hU hK hT rfl rfl [7] rfl (by decide) (cX4_has_0fe2d l D k _ h0 h2 h3 h4 h5 h6 h7 h8 h9 x2 h0f8 h0f9 h0f10 h0f11 (by omega) (by omega) (by omega) (by omega) (by omega)) w510 w507 w508 w509 w66 hdX4_has ⟨rfl, rfl⟩ ⟨Nat.le_of_ble_eq_true rfl, Nat.le_of_ble_eq_true rfl⟩ rfl hl.1 (Nat.le_of_ble_eq_true rfl) dX4_append_62 ⟨Nat.le_of_ble_eq_true rfl, Nat.le_of_ble_eq_true rfl⟩) hT hS hA [7] [0, 1, 2, 3, 4, 5, 6] rfl rfl rfl (by decide) (by decide) (fun r3 H locs hB J hS => ?_)
    rcases hB with ⟨rfl, hT1⟩ | ⟨c_4, c_5, rfl, hT1⟩
    · skip
      have hT := J _ hT1
      have hT : TP D A [(h1, aJ (k 1) 9 anJ), (h2, aJ (k 1) 12000 anJ), (h3, aI (k 0) 400 anI), (h4, aI (k 0) 400 anI), (h5, aI (k 0) 400 anI), (h7, aI (k 0) 1024 (rgI (-1) (h0f10.toInt - 1))), (h8, aI (k 0) 400 (pfI (h0f10.toInt))), (h0, ob 3 [.ref h2, .ref h3, .ref h4, .ref h5, .ref h6, .ref h7, .ref h8, .ref h9, .int h0f8, .int h0f9, .int h0f10, .int h0f11])] _ := hT
      refine lv_if_eq (tgt := 79) hx hb dX4_append_65 (by decide) (fun _ => ?_) (fun cc => absurd (by decide +kernel) cc)
      refine lv_iconst (v := 0) hx hb dX4_append_79 (by decide) ?_
      refine tz_iast hx hb hK hT hS 4 rfl (by omega) (fun _ _ => trivial) dX4_append_80 (fun H locs hT hS => ?_)
      refine lv_aload_n hx hb dX4_append_81 rfl (lv_at hl 1 rfl) ?_
      refine lv_aload_n hx hb dX4_append_82 rfl (lv_at hl 2 rfl) ?_
      refine tcI (Tc := [(h0, ob 3 [.ref h2, .ref h3, .ref h4, .ref h5, .ref h6, .ref h7, .ref h8, .ref h9, .int h0f8, .int h0f9, .int h0f10, .int h0f11]), (h1, aJ (k 1) 9 anJ), (h7, aI (k 0) 1024 (rgI (-1) (h0f10.toInt - 1)))]) (Tr := [(h2, aJ (k 1) 12000 anJ), (h3, aI (k 0) 400 anI), (h4, aI (k 0) 400 anI), (h5, aI (k 0) 400 anI), (h8, aI (k 0) 400 (pfI (h0f10.toInt)))]) (as := [h0, h1, h7]) (zcV (q0 := 7) (ci := 3) (As := [.ref h1]) (rest := []) (Tc := [(h0, ob 3 [.ref h2, .ref h3, .ref h4, .ref h5, .ref h6, .ref h7, .ref h8, .ref h9, .int h0f8, .int h0f9, .int h0f10, .int h0f11]), (h1, aJ (k 1) 9 anJ), (h7, aI (k 0) 1024 (rgI (-1) (h0f10.toInt - 1)))]) hx hb hml hown hU hK hT rfl rfl [7, 0, 5] rfl (by decide) (cX4_slotOf_71ced l D k _ h0 h1 h7 h2 h3 h4 h5 h6 h8 h9 h0f8 h0f9 h0f10 h0f11 (by omega) (by omega) (by omega) (by omega)) w514 w511 w513 w11 w66 hdX4_slotOf ⟨rfl, rfl⟩ ⟨Nat.le_of_ble_eq_true rfl, Nat.le_of_ble_eq_true rfl⟩ rfl hl.1 (Nat.le_of_ble_eq_true rfl) dX4_append_83 ⟨Nat.le_of_ble_eq_true rfl, Nat.le_of_ble_eq_true rfl⟩) hT hS hA [7, 0, 5] [1, 2, 3, 4, 6] rfl rfl rfl (by decide) (by decide) (fun r6 H locs hB J hS => ?_)
      obtain ⟨b_r6, hT1⟩ := hB
      have hT := J _ hT1
      have hT : TP D A [(h2, aJ (k 1) 12000 anJ), (h3, aI (k 0) 400 anI), (h4, aI (k 0) 400 anI), (h5, aI (k 0) 400 anI), (h8, aI (k 0) 400 (pfI (h0f10.toInt))), (h0, ob 3 [.ref h2, .ref h3, .ref h4, .ref h5, .ref h6, .ref h7, .ref h8, .ref h9, .int h0f8, .int h0f9, .int h0f10, .int h0f11]), (h1, aJ (k 1) 9 anJ), (h7, aI (k 0) 1024 (rgI (-1) (h0f10.toInt - 1)))] _ := hT
      refine lv_istore (lv' := [(5, .int r6), (4, .int h0f10), (0, .ref h0), (1, .ref h1), (2, .int x2), (3, .int x3)]) hx hb dX4_append_86 hl (by decide) rfl (fun ls hl => ?_)
      refine lv_aload_n hx hb dX4_append_88 rfl (lv_at hl 2 rfl) ?_
      refine tz_get (ci := 3) (v := .ref h8) (C := RX4) (F := TX4) (N := 12) hx hb hU iX4 hown hK hT 5 rfl rfl 6 (by decide) w160 (fun _ h9 => h9) rfl dX4_append_89 ?_
      refine lv_iload hx hb dX4_append_92 (lv_at hl 1 rfl) ?_
      refine lv_aload_n hx hb dX4_append_94 rfl (lv_at hl 2 rfl) ?_
      refine tz_get (ci := 3) (v := .ref h7) (C := RX4) (F := TX4) (N := 12) hx hb hU iX4 hown hK hT 5 rfl rfl 5 (by decide) w159 (fun _ h9 => h9) rfl dX4_append_95 ?_
      refine lv_iload hx hb dX4_append_98 (lv_at hl 0 rfl) ?_
      refine tz_iald hx hb hK hT 7 rfl (by omega) dX4_append_100 (fun v7 e_v7 => ?_)
      have e_v7 := rg_get e_v7
      refine tz_iastP hx hb hK hT hS 4 (pfI (h0f10.toInt + 1)) rfl (by omega) (pf_put (by omega) (by omega)) dX4_append_101 (fun H locs hT hS => ?_)
      have hT : TP D A [(h2, aJ (k 1) 12000 anJ), (h3, aI (k 0) 400 anI), (h4, aI (k 0) 400 anI), (h5, aI (k 0) 400 anI), (h8, aI (k 0) 400 (pfI (h0f10.toInt + 1))), (h0, ob 3 [.ref h2, .ref h3, .ref h4, .ref h5, .ref h6, .ref h7, .ref h8, .ref h9, .int h0f8, .int h0f9, .int h0f10, .int h0f11]), (h1, aJ (k 1) 9 anJ), (h7, aI (k 0) 1024 (rgI (-1) (h0f10.toInt - 1)))] _ := hT
      refine lv_aload_n hx hb dX4_append_102 rfl (lv_at hl 2 rfl) ?_
      refine tz_get (ci := 3) (v := .ref h7) (C := RX4) (F := TX4) (N := 12) hx hb hU iX4 hown hK hT 5 rfl rfl 5 (by decide) w159 (fun _ h9 => h9) rfl dX4_append_103 ?_
      refine lv_iload hx hb dX4_append_106 (lv_at hl 0 rfl) ?_
      refine lv_iload hx hb dX4_append_108 (lv_at hl 1 rfl) ?_
      refine tz_iastP hx hb hK hT hS 7 (rgI (-1) (h0f10.toInt + 1 - 1)) rfl (by omega) (rg_put2 (by omega)) dX4_append_110 (fun H locs hT hS => ?_)
      have hT : TP D A [(h2, aJ (k 1) 12000 anJ), (h3, aI (k 0) 400 anI), (h4, aI (k 0) 400 anI), (h5, aI (k 0) 400 anI), (h8, aI (k 0) 400 (pfI (h0f10.toInt + 1))), (h0, ob 3 [.ref h2, .ref h3, .ref h4, .ref h5, .ref h6, .ref h7, .ref h8, .ref h9, .int h0f8, .int h0f9, .int h0f10, .int h0f11]), (h1, aJ (k 1) 9 anJ), (h7, aI (k 0) 1024 (rgI (-1) (h0f10.toInt + 1 - 1)))] _ := hT
      refine lv_aload_n hx hb dX4_append_111 rfl (lv_at hl 2 rfl) ?_
      refine lv_dup hx hb dX4_append_112 rfl ?_
      refine tz_get (ci := 3) (v := .int h0f10) (C := RX4) (F := TX4) (N := 12) hx hb hU iX4 hown hK hT 5 rfl rfl 10 (by decide) w164 (fun _ h9 => h9) rfl dX4_append_113 ?_
      refine lv_iconst (v := 1) hx hb dX4_append_116 (by decide) ?_
      refine lv_iadd hx hb dX4_append_117 (lv_topi (fun v8 e_v8 => ?_))
      have e_v8 := ai_add e_v8 rfl li_1 (by omega)
      refine tz_put (ci := 3) (v := .int v8) (ty := .int) (C := RX4) (F := TX4) (N := 12) hx hb hU iX4 tyX4 tyX4_ok nmX4 hown hK hT hS 5 rfl rfl 10 (by decide) w164 (fun _ h9 => h9) rfl (by decide +kernel) rfl rfl (Nat.le_of_ble_eq_true rfl) dX4_append_118 (fun H locs hT hS => ?_)
      have hT : TP D A [(h2, aJ (k 1) 12000 anJ), (h3, aI (k 0) 400 anI), (h4, aI (k 0) 400 anI), (h5, aI (k 0) 400 anI), (h8, aI (k 0) 400 (pfI (h0f10.toInt + 1))), (h0, ob 3 [.ref h2, .ref h3, .ref h4, .ref h5, .ref h6, .ref h7, .ref h8, .ref h9, .int h0f8, .int h0f9, .int v8, .int h0f11]), (h1, aJ (k 1) 9 anJ), (h7, aI (k 0) 1024 (rgI (-1) (h0f10.toInt + 1 - 1)))] _ := hT
      refine lv_iload hx hb dX4_append_121 (lv_at hl 1 rfl) ?_
      have hT := hT.wk (q := 4) (P' := aI (k 0) 400 (pfI (v8.toInt))) rfl (pf_eq (by omega))
      have hT : TP D A [(h2, aJ (k 1) 12000 anJ), (h3, aI (k 0) 400 anI), (h4, aI (k 0) 400 anI), (h5, aI (k 0) 400 anI), (h8, aI (k 0) 400 (pfI (v8.toInt))), (h0, ob 3 [.ref h2, .ref h3, .ref h4, .ref h5, .ref h6, .ref h7, .ref h8, .ref h9, .int h0f8, .int h0f9, .int v8, .int h0f11]), (h1, aJ (k 1) 9 anJ), (h7, aI (k 0) 1024 (rgI (-1) (h0f10.toInt + 1 - 1)))] _ := hT
      have hT := hT.wk (q := 7) (P' := aI (k 0) 1024 (rgI (-1) (v8.toInt - 1))) rfl (sl_eq (by omega))
      have hT : TP D A [(h2, aJ (k 1) 12000 anJ), (h3, aI (k 0) 400 anI), (h4, aI (k 0) 400 anI), (h5, aI (k 0) 400 anI), (h8, aI (k 0) 400 (pfI (v8.toInt))), (h0, ob 3 [.ref h2, .ref h3, .ref h4, .ref h5, .ref h6, .ref h7, .ref h8, .ref h9, .int h0f8, .int h0f9, .int v8, .int h0f11]), (h1, aJ (k 1) 9 anJ), (h7, aI (k 0) 1024 (rgI (-1) (v8.toInt - 1)))] _ := hT
      exact tz_retI (B := B_cX4_append_aa194 D k h0 h1 h2 h3 h4 h5 h7 h8 h6 h9 x2 x3 h0f8 h0f9 h0f10 h0f11) (v := h0f10) hQ hx hb hr hlocks hS (Nat.le_of_ble_eq_true rfl) (Nat.le_of_ble_eq_true rfl) dX4_append_123 (⟨v8, (by omega), (by omega), (hT.sub [5, 6, 0, 1, 2, 3, 7, 4] (by decide) rfl)⟩)
    · skip
      have hT := J _ hT1
      have hT : TP D A [(h1, aJ (k 1) 9 anJ), (h2, aJ (k 1) 12000 anJ), (h3, aI (k 0) 400 anI), (h4, aI (k 0) 400 anI), (h5, aI (k 0) 400 anI), (h7, aI (k 0) 1024 (rgI (-1) (h0f10.toInt - 1))), (h8, aI (k 0) 400 (pfI (h0f10.toInt))), (h0, ob 3 [.ref h2, .ref h3, .ref h4, .ref h5, .ref h6, .ref h7, .ref h8, .ref h9, .int h0f8, .int h0f9, .int h0f10, .int h0f11])] _ := hT
      exfalso; omega
  · skip
    have c_1 := ni_nlt c_1 rfl rfl
    refine lv_iconst (v := (-1)) hx hb dX4_append_11 (by decide) ?_
    exact tz_retI (B := B_cX4_append_aa194 D k h0 h1 h2 h3 h4 h5 h7 h8 h6 h9 x2 x3 h0f8 h0f9 h0f10 h0f11) (v := (-1)) hQ hx hb hr hlocks hS (Nat.le_of_ble_eq_true rfl) (Nat.le_of_ble_eq_true rfl) dX4_append_12 (⟨h0f10, (by have := li_m1; omega), (by have := li_m1; omega), hT⟩)
abbrev Rm_cX7_addUp_f1aff : Room := { frames := 0, cells := 0, slots := 0, locals := 0 }
abbrev B_cX7_addUp_f1aff (D : va_G) (k : Nat → ClassId) (h0 h1 : Nat) (x1 : Int32) (x4 : Int32) (x5 : Int32) (x6 : Int32) (A : Nat → Prop) (r : Int64) (H : Heap) : Prop := TP D A [(h0, aJ (k 1) 12000 anJ), (h1, aJ (k 1) 36 anJ)] H
set_option maxHeartbeats 4000000 in
set_option maxRecDepth 100000 in
theorem cX7_addUp_f1aff (l : Launch) (D : va_G) (k : Nat → ClassId) (sz : Nat) (h0 h1 : Nat) (x1 : Int32) (x4 : Int32) (x5 : Int32) (x6 : Int32) (b_x1 : 0 ≤ x1.toInt ∧ x1.toInt ≤ 3597) (b_x4 : 0 ≤ x4.toInt ∧ x4.toInt ≤ 29) (b_x5 : 1 ≤ x5.toInt ∧ x5.toInt ≤ 3) (b_x6 : 1 ≤ x6.toInt ∧ x6.toInt ≤ 3) : Met l yX7_addUp (Cond.code yX7_addUp cX7_addUp 10 (some .long) :: uw) Rm_cX7_addUp_f1aff (pT D k sz [.ref h0, .int x1, .int 1, .ref h1, .int x4, .int x5, .int x6] [(h0, aJ (k 1) 12000 anJ), (h1, aJ (k 1) 36 anJ)]) (qL (B_cX7_addUp_f1aff D k h0 h1 x1 x4 x5 x6 (zA [h0, h1] sz)) (zA [h0, h1] sz)) 0 0 (zA [h0, h1] sz) := by
  refine tz_begin (as := [h0, h1]) (Qc := fun A => qL (B_cX7_addUp_f1aff D k h0 h1 x1 x4 x5 x6 A) A) (by decide +kernel) rfl (Nat.le_of_ble_eq_true rfl) ?_
  intro p e s m args below meth c ls A Q hx hb hr hml hown hlocks hin hU hK hT hS hA hl hQ
  have hl : lv_has ls 10 [(0, .ref h0), (1, .int x1), (2, .int 1), (3, .ref h1), (4, .int x4), (5, .int x5), (6, .int x6)] := hl
  have hT : TP D A [(h0, aJ (k 1) 12000 anJ), (h1, aJ (k 1) 36 anJ)] s.heap := hT
  refine lv_lconst (v := 0) hx hb dX7_addUp_0 (by decide) ?_
  refine lv_lstore (lv' := [(7, .long 0), (0, .ref h0), (1, .int x1), (2, .int 1), (3, .ref h1), (4, .int x4), (5, .int x5), (6, .int x6)]) hx hb dX7_addUp_1 hl (by decide) rfl (fun ls hl => ?_)
  refine lv_iconst (v := 0) hx hb dX7_addUp_3 (by decide) ?_
  refine lv_istore (lv' := [(9, .int 0), (7, .long 0), (0, .ref h0), (1, .int x1), (2, .int 1), (3, .ref h1), (4, .int x4), (5, .int x5), (6, .int x6)]) hx hb dX7_addUp_4 hl (by decide) rfl (fun ls hl => ?_)
  have lp6_7 : ∀ (n : Nat) (y5 : Int32) (y6 : Int64) (H : Heap) (locs : List Loc) (ls : Array Slot), (0 ≤ y5.toInt ∧ y5.toInt ≤ 3) → (x6.toInt + (-1) * y5.toInt + 1).toNat < n → TP D A [(h0, aJ (k 1) 12000 anJ), (h1, aJ (k 1) 36 anJ)] H → va_S A s.heap H locs → lv_has ls 10 [(0, .ref h0), (1, .int x1), (2, .int 1), (3, .ref h1), (4, .int x4), (5, .int x5), (6, .int x6), (7, .long y6), (9, .int y5)] → W p l e Rm_cX7_addUp_f1aff s m args below meth c H locs 0 0 Q (F0 m 6 ls []) := by
    intro n
    induction n with
    | zero => intro y5 y6 H locs ls b_y5 hm hT hS hl; exact absurd hm (Nat.not_lt_zero _)
    | succ n ih =>
      intro y5 y6 H locs ls b_y5 hm hT hS hl
      have ih6_7 := ih
      clear ih
      refine lv_iload hx hb dX7_addUp_6 (lv_at hl 8 rfl) ?_
      refine lv_iload hx hb dX7_addUp_8 (lv_at hl 6 rfl) ?_
      refine lv_icmp_ge (tgt := 43) hx hb dX7_addUp_10 (by decide) (fun c_8 => ?_) (fun c_8 => ?_)
      · skip
        have c_8 := ni_le c_8 rfl rfl
        refine lv_lload hx hb dX7_addUp_43 (lv_at hl 7 rfl) ?_
        exact tz_retL (B := B_cX7_addUp_f1aff D k h0 h1 x1 x4 x5 x6) (v := y6) hQ hx hb hr hlocks hS (Nat.le_of_ble_eq_true rfl) (Nat.le_of_ble_eq_true rfl) dX7_addUp_45 (hT)
      · skip
        have c_8 := ni_nle c_8 rfl rfl
        refine lv_lload hx hb dX7_addUp_13 (lv_at hl 7 rfl) ?_
        refine lv_aload_n hx hb dX7_addUp_15 rfl (lv_at hl 0 rfl) ?_
        refine lv_iload_n hx hb dX7_addUp_16 rfl (lv_at hl 1 rfl) ?_
        refine lv_iload hx hb dX7_addUp_17 (lv_at hl 8 rfl) ?_
        refine lv_iload_n hx hb dX7_addUp_19 rfl (lv_at hl 2 rfl) ?_
        refine lv_imul hx hb dX7_addUp_20 (lv_topi (fun v9 e_v9 => ?_))
        have e_v9 := ai_mul e_v9 rfl li_1 (by omega)
        refine lv_iadd hx hb dX7_addUp_21 (lv_topi (fun v10 e_v10 => ?_))
        have e_v10 := ai_add e_v10 rfl rfl (by omega)
        refine tz_lald hx hb hK hT 0 rfl (by omega) dX7_addUp_22 (fun v11 e_v11 => ?_)
        clear e_v11
        refine lv_aload_n hx hb dX7_addUp_23 rfl (lv_at hl 3 rfl) ?_
        refine lv_iload hx hb dX7_addUp_24 (lv_at hl 4 rfl) ?_
        refine lv_iload hx hb dX7_addUp_26 (lv_at hl 8 rfl) ?_
        refine lv_iload hx hb dX7_addUp_28 (lv_at hl 5 rfl) ?_
        refine lv_imul hx hb dX7_addUp_30 (lv_topi (fun v12 e_v12 => ?_))
        have e_v12 := ai_mm (la := 0) (ua := 2) (lb := 1) (ub := 3) e_v12 rfl rfl (by omega) (by decide)
        refine lv_iadd hx hb dX7_addUp_31 (lv_topi (fun v13 e_v13 => ?_))
        have e_v13 := ai_add e_v13 rfl rfl (by omega)
        refine tz_lald hx hb hK hT 1 rfl (by omega) dX7_addUp_32 (fun v14 e_v14 => ?_)
        clear e_v14
        refine lv_lmul hx hb dX7_addUp_33 (lv_topl (fun v15 e_v15 => ?_))
        refine lv_ladd hx hb dX7_addUp_34 (lv_topl (fun v16 e_v16 => ?_))
        refine lv_lstore (lv' := [(7, .long v16), (0, .ref h0), (1, .int x1), (2, .int 1), (3, .ref h1), (4, .int x4), (5, .int x5), (6, .int x6), (9, .int y5)]) hx hb dX7_addUp_35 hl (by decide) rfl (fun ls hl => ?_)
        obtain ⟨v17, e_v17⟩ : ∃ x : Int32, x = y5 + Int32.ofInt 1 := ⟨_, rfl⟩
        have f_v17 := e_v17.symm
        have e_v17 : v17.toInt = y5.toInt + 1 := ai_add e_v17 rfl (show (Int32.ofInt 1).toInt = 1 from (by decide +kernel)) (by omega)
        refine lv_iinc (v := v17) (lv' := [(9, .int v17), (7, .long v16), (0, .ref h0), (1, .int x1), (2, .int 1), (3, .ref h1), (4, .int x4), (5, .int x5), (6, .int x6)]) hx hb dX7_addUp_37 hl (k := 8) rfl f_v17 (by decide) rfl (fun ls hl => ?_)
        refine lv_goto (tgt := 6) hx hb dX7_addUp_40 (by decide) ?_
        exact ih6_7 v17 v16 _ _ _ (by omega)  (by omega) hT hS (lv_sub hl [2, 3, 4, 5, 6, 7, 8, 1, 0] rfl)
  exact lp6_7 ((x6.toInt + (-1) * (0 : Int32).toInt + 1).toNat + 1) (0) (0) _ _ _ (by have := li_0; have := ll_0; omega)  (Nat.lt_succ_self _) hT hS (lv_sub hl [2, 3, 4, 5, 6, 7, 8, 1, 0] rfl)
abbrev Rm_cX7_multiply_1e2c2 : Room := { frames := 1, cells := 0, slots := 0, locals := 29 }
abbrev B_cX7_multiply_1e2c2 (D : va_G) (k : Nat → ClassId) (h0 h1 h2 : Nat) (x1 : Int32) (x3 : Int32) (x5 : Int32) (A : Nat → Prop) (H : Heap) : Prop := TP D A [(h0, aJ (k 1) 12000 anJ), (h1, aJ (k 1) 36 anJ), (h2, aJ (k 1) 60 anJ)] H
set_option maxHeartbeats 4000000 in
set_option maxRecDepth 100000 in
theorem cX7_multiply_1e2c2 (l : Launch) (D : va_G) (k : Nat → ClassId) (sz : Nat) (h0 h1 h2 : Nat) (x1 : Int32) (x3 : Int32) (x5 : Int32) (b_x1 : 0 ≤ x1.toInt ∧ x1.toInt ≤ 3591) (b_x3 : 0 ≤ x3.toInt ∧ x3.toInt ≤ 27) (b_x5 : 1 ≤ x5.toInt ∧ x5.toInt ≤ 3) : Met l yX7_multiply (Cond.code yX7_multiply cX7_multiply 8 none :: uw) Rm_cX7_multiply_1e2c2 (pT D k sz [.ref h0, .int x1, .ref h1, .int x3, .ref h2, .int x5] [(h0, aJ (k 1) 12000 anJ), (h1, aJ (k 1) 36 anJ), (h2, aJ (k 1) 60 anJ)]) (qV (B_cX7_multiply_1e2c2 D k h0 h1 h2 x1 x3 x5 (zA [h0, h1, h2] sz)) (zA [h0, h1, h2] sz)) 0 0 (zA [h0, h1, h2] sz) := by
  refine tz_begin (as := [h0, h1, h2]) (Qc := fun A => qV (B_cX7_multiply_1e2c2 D k h0 h1 h2 x1 x3 x5 A) A) (by decide +kernel) rfl (Nat.le_of_ble_eq_true rfl) ?_
  intro p e s m args below meth c ls A Q hx hb hr hml hown hlocks hin hU hK hT hS hA hl hQ
  have hl : lv_has ls 8 [(0, .ref h0), (1, .int x1), (2, .ref h1), (3, .int x3), (4, .ref h2), (5, .int x5)] := hl
  have hT : TP D A [(h0, aJ (k 1) 12000 anJ), (h1, aJ (k 1) 36 anJ), (h2, aJ (k 1) 60 anJ)] s.heap := hT
  refine lv_iconst (v := 0) hx hb dX7_multiply_0 (by decide) ?_
  refine lv_istore (lv' := [(6, .int 0), (0, .ref h0), (1, .int x1), (2, .ref h1), (3, .int x3), (4, .ref h2), (5, .int x5)]) hx hb dX7_multiply_1 hl (by decide) rfl (fun ls hl => ?_)
  have lp3_4 : ∀ (n : Nat) (y3 : Int32) (H : Heap) (locs : List Loc) (ls : Array Slot), (0 ≤ y3.toInt ∧ y3.toInt ≤ 3) → (x5.toInt + (-1) * y3.toInt + 1).toNat < n → TP D A [(h0, aJ (k 1) 12000 anJ), (h1, aJ (k 1) 36 anJ), (h2, aJ (k 1) 60 anJ)] H → va_S A s.heap H locs → lv_has ls 8 [(0, .ref h0), (1, .int x1), (2, .ref h1), (3, .int x3), (4, .ref h2), (5, .int x5), (6, .int y3)] → W p l e Rm_cX7_multiply_1e2c2 s m args below meth c H locs 0 0 Q (F0 m 3 ls []) := by
    intro n
    induction n with
    | zero => intro y3 H locs ls b_y3 hm hT hS hl; exact absurd hm (Nat.not_lt_zero _)
    | succ n ih =>
      intro y3 H locs ls b_y3 hm hT hS hl
      have ih3_4 := ih
      clear ih
      refine lv_iload hx hb dX7_multiply_3 (lv_at hl 6 rfl) ?_
      refine lv_iload hx hb dX7_multiply_5 (lv_at hl 5 rfl) ?_
      refine lv_icmp_ge (tgt := 64) hx hb dX7_multiply_7 (by decide) (fun c_5 => ?_) (fun c_5 => ?_)
      · skip
        have c_5 := ni_le c_5 rfl rfl
        exact tz_retV (B := B_cX7_multiply_1e2c2 D k h0 h1 h2 x1 x3 x5) hQ hx hb hr hlocks hS (Nat.le_of_ble_eq_true rfl) (Nat.le_of_ble_eq_true rfl) dX7_multiply_64 (hT)
      · skip
        have c_5 := ni_nle c_5 rfl rfl
        refine lv_iconst (v := 0) hx hb dX7_multiply_10 (by decide) ?_
        refine lv_istore (lv' := [(7, .int 0), (0, .ref h0), (1, .int x1), (2, .ref h1), (3, .int x3), (4, .ref h2), (5, .int x5), (6, .int y3)]) hx hb dX7_multiply_11 hl (by decide) rfl (fun ls hl => ?_)
        have lp13_9 : ∀ (n : Nat) (y8 : Int32) (H : Heap) (locs : List Loc) (ls : Array Slot), (0 ≤ y8.toInt ∧ y8.toInt ≤ 3) → (x5.toInt + (-1) * y8.toInt + 1).toNat < n → TP D A [(h0, aJ (k 1) 12000 anJ), (h1, aJ (k 1) 36 anJ), (h2, aJ (k 1) 60 anJ)] H → va_S A s.heap H locs → lv_has ls 8 [(0, .ref h0), (1, .int x1), (2, .ref h1), (3, .int x3), (4, .ref h2), (5, .int x5), (6, .int y3), (7, .int y8)] → W p l e Rm_cX7_multiply_1e2c2 s m args below meth c H locs 0 0 Q (F0 m 13 ls []) := by
          intro n
          induction n with
          | zero => intro y8 H locs ls b_y8 hm hT hS hl; exact absurd hm (Nat.not_lt_zero _)
          | succ n ih =>
            intro y8 H locs ls b_y8 hm hT hS hl
            have ih13_9 := ih
            clear ih
            refine lv_iload hx hb dX7_multiply_13 (lv_at hl 7 rfl) ?_
            refine lv_iload hx hb dX7_multiply_15 (lv_at hl 5 rfl) ?_
            refine lv_icmp_ge (tgt := 58) hx hb dX7_multiply_17 (by decide) (fun c_10 => ?_) (fun c_10 => ?_)
            · skip
              have c_10 := ni_le c_10 rfl rfl
              obtain ⟨v11, e_v11⟩ : ∃ x : Int32, x = y3 + Int32.ofInt 1 := ⟨_, rfl⟩
              have f_v11 := e_v11.symm
              have e_v11 : v11.toInt = y3.toInt + 1 := ai_add e_v11 rfl (show (Int32.ofInt 1).toInt = 1 from (by decide +kernel)) (by omega)
              refine lv_iinc (v := v11) (lv' := [(6, .int v11), (0, .ref h0), (1, .int x1), (2, .ref h1), (3, .int x3), (4, .ref h2), (5, .int x5), (7, .int y8)]) hx hb dX7_multiply_58 hl (k := 6) rfl f_v11 (by decide) rfl (fun ls hl => ?_)
              refine lv_goto (tgt := 3) hx hb dX7_multiply_61 (by decide) ?_
              exact ih3_4 v11 _ _ _ (by omega)  (by omega) hT hS (lv_sub hl [1, 2, 3, 4, 5, 6, 0] rfl)
            · skip
              have c_10 := ni_nle c_10 rfl rfl
              refine lv_aload hx hb dX7_multiply_20 (lv_at hl 4 rfl) ?_
              refine lv_iload hx hb dX7_multiply_22 (lv_at hl 6 rfl) ?_
              refine lv_iload hx hb dX7_multiply_24 (lv_at hl 5 rfl) ?_
              refine lv_imul hx hb dX7_multiply_26 (lv_topi (fun v12 e_v12 => ?_))
              have e_v12 := ai_mm (la := 0) (ua := 2) (lb := 1) (ub := 3) e_v12 rfl rfl (by omega) (by decide)
              refine lv_iload hx hb dX7_multiply_27 (lv_at hl 7 rfl) ?_
              refine lv_iadd hx hb dX7_multiply_29 (lv_topi (fun v13 e_v13 => ?_))
              have e_v13 := ai_add e_v13 rfl rfl (by omega)
              refine lv_aload_n hx hb dX7_multiply_30 rfl (lv_at hl 0 rfl) ?_
              refine lv_iload_n hx hb dX7_multiply_31 rfl (lv_at hl 1 rfl) ?_
              refine lv_iload hx hb dX7_multiply_32 (lv_at hl 6 rfl) ?_
              refine lv_iload hx hb dX7_multiply_34 (lv_at hl 5 rfl) ?_
              refine lv_imul hx hb dX7_multiply_36 (lv_topi (fun v14 e_v14 => ?_))
              have e_v14 := ai_mm (la := 0) (ua := 2) (lb := 1) (ub := 3) e_v14 rfl rfl (by omega) (by decide)
              refine lv_iadd hx hb dX7_multiply_37 (lv_topi (fun v15 e_v15 => ?_))
              have e_v15 := ai_add e_v15 rfl rfl (by omega)
              refine lv_iconst (v := 1) hx hb dX7_multiply_38 (by decide) ?_
              refine lv_aload_n hx hb dX7_multiply_39 rfl (lv_at hl 2 rfl) ?_
              refine lv_iload_n hx hb dX7_multiply_40 rfl (lv_at hl 3 rfl) ?_
              refine lv_iload hx hb dX7_multiply_41 (lv_at hl 7 rfl) ?_
              refine lv_iadd hx hb dX7_multiply_43 (lv_topi (fun v16 e_v16 => ?_))
              have e_v16 := ai_add e_v16 rfl rfl (by omega)
              refine lv_iload hx hb dX7_multiply_44 (lv_at hl 5 rfl) ?_
              refine lv_iload hx hb dX7_multiply_46 (lv_at hl 5 rfl) ?_
              refine tcL (Tc := [(h0, aJ (k 1) 12000 anJ), (h1, aJ (k 1) 36 anJ)]) (Tr := [(h2, aJ (k 1) 60 anJ)]) (as := [h0, h1]) (zcS (As := [.ref h0, .int v15, .int 1, .ref h1, .int v16, .int x5, .int x5]) (rest := [.int v13, .ref h2]) (Tc := [(h0, aJ (k 1) 12000 anJ), (h1, aJ (k 1) 36 anJ)]) hx hb hml hown hU hK hT [0, 1] rfl (by decide) (cX7_addUp_f1aff l D k _ h0 h1 v15 v16 x5 x5 (by omega) (by omega) (by omega) (by omega)) w366 w364 w365 w74 hdX7_addUp ⟨rfl, rfl⟩ ⟨Nat.le_of_ble_eq_true rfl, Nat.le_of_ble_eq_true rfl⟩ rfl hl.1 (Nat.le_of_ble_eq_true rfl) dX7_multiply_48 ⟨Nat.le_of_ble_eq_true rfl, Nat.le_of_ble_eq_true rfl⟩) hT hS hA [0, 1] [2] rfl rfl rfl (by decide) (by decide) (fun r17 H locs hB J hS => ?_)
              have hT1 := hB
              have hT := J _ hT1
              have hT : TP D A [(h2, aJ (k 1) 60 anJ), (h0, aJ (k 1) 12000 anJ), (h1, aJ (k 1) 36 anJ)] _ := hT
              refine tz_last hx hb hK hT hS 0 rfl (by omega) (fun _ _ => trivial) dX7_multiply_51 (fun H locs hT hS => ?_)
              obtain ⟨v18, e_v18⟩ : ∃ x : Int32, x = y8 + Int32.ofInt 1 := ⟨_, rfl⟩
              have f_v18 := e_v18.symm
              have e_v18 : v18.toInt = y8.toInt + 1 := ai_add e_v18 rfl (show (Int32.ofInt 1).toInt = 1 from (by decide +kernel)) (by omega)
              refine lv_iinc (v := v18) (lv' := [(7, .int v18), (0, .ref h0), (1, .int x1), (2, .ref h1), (3, .int x3), (4, .ref h2), (5, .int x5), (6, .int y3)]) hx hb dX7_multiply_52 hl (k := 7) rfl f_v18 (by decide) rfl (fun ls hl => ?_)
              refine lv_goto (tgt := 13) hx hb dX7_multiply_55 (by decide) ?_
              exact ih13_9 v18 _ _ _ (by omega)  (by omega) (hT.sub [1, 2, 0] (by decide) rfl) hS (lv_sub hl [1, 2, 3, 4, 5, 6, 7, 0] rfl)
        exact lp13_9 ((x5.toInt + (-1) * (0 : Int32).toInt + 1).toNat + 1) (0) _ _ _ (by have := li_0; omega)  (Nat.lt_succ_self _) hT hS (lv_sub hl [1, 2, 3, 4, 5, 6, 7, 0] rfl)
  exact lp3_4 ((x5.toInt + (-1) * (0 : Int32).toInt + 1).toNat + 1) (0) _ _ _ (by have := li_0; omega)  (Nat.lt_succ_self _) hT hS (lv_sub hl [1, 2, 3, 4, 5, 6, 0] rfl)
abbrev Rm_cJ9_floorMod_f86c9_e6271 : Room := { frames := 0, cells := 0, slots := 0, locals := 0 }
abbrev B_cJ9_floorMod_f86c9_e6271 (D : va_G) (k : Nat → ClassId) (x0 : Int64) (x1 : Int64) (A : Nat → Prop) (r : Int64) (H : Heap) : Prop := TP D A [] H
set_option maxHeartbeats 4000000 in
set_option maxRecDepth 100000 in
theorem cJ9_floorMod_f86c9_e6271 (l : Launch) (D : va_G) (k : Nat → ClassId) (sz : Nat) (x0 : Int64) (x1 : Int64) (b_x1 : 2 ≤ x1.toInt ∧ x1.toInt ≤ 7) : Met l yJ9_floorMod_f86c9 (Cond.code yJ9_floorMod_f86c9 cJ9_floorMod_f86c9 6 (some .long) :: uw) Rm_cJ9_floorMod_f86c9_e6271 (pT D k sz [.long x0, .long x1] []) (qL (B_cJ9_floorMod_f86c9_e6271 D k x0 x1 (zA [] sz)) (zA [] sz)) 0 0 (zA [] sz) := by
  refine tz_beginF (as := []) (Qc := fun A => qL (B_cJ9_floorMod_f86c9_e6271 D k x0 x1 A) A) (by decide +kernel) rfl (Nat.le_of_ble_eq_true rfl) ?_
  intro p e s m args below meth c ls A Q hx hb hr hml hown hlocks hin hU hK hT hS hA hl hQ
  have hl : lv_has ls 6 [(0, .long x0), (2, .long x1)] := hl
  have hT : TP D A [] s.heap := hT
  refine lv_lload_n hx hb dJ9_floorMod_f86c9_0 rfl (lv_at hl 0 rfl) ?_
  refine lv_lload_n hx hb dJ9_floorMod_f86c9_1 rfl (lv_at hl 1 rfl) ?_
  refine lv_lrem hx hb dJ9_floorMod_f86c9_2 (nz64 (y := x1.toInt) rfl (by omega)) (lv_topl (fun v1 e_v1 => ?_))
  have e_v1 := al_rem e_v1 (nz64 (y := x1.toInt) rfl (by omega))
  refine lv_lstore (lv' := [(4, .long v1), (0, .long x0), (2, .long x1)]) hx hb dJ9_floorMod_f86c9_3 hl (by decide) rfl (fun ls hl => ?_)
  refine lv_lload_n hx hb dJ9_floorMod_f86c9_5 rfl (lv_at hl 1 rfl) ?_
  refine lv_lload_n hx hb dJ9_floorMod_f86c9_6 rfl (lv_at hl 2 rfl) ?_
  refine lv_lxor hx hb dJ9_floorMod_f86c9_7 (lv_topl (fun v2 e_v2 => ?_))
  refine lv_lconst (v := 0) hx hb dJ9_floorMod_f86c9_8 (by decide) ?_
  refine W.lcmp hx hb dJ9_floorMod_f86c9_9 ?_
  refine lv_if_ge (tgt := 25) hx hb dJ9_floorMod_f86c9_10 (by decide) (fun c_3 => ?_) (fun c_3 => ?_)
  · skip
    have c_3 := nl_ge c_3 rfl ll_0
    refine lv_lload hx hb dJ9_floorMod_f86c9_25 (lv_at hl 0 rfl) ?_
    exact tz_retL (B := B_cJ9_floorMod_f86c9_e6271 D k x0 x1) (v := v1) hQ hx hb hr hlocks hS (Nat.le_of_ble_eq_true rfl) (Nat.le_of_ble_eq_true rfl) dJ9_floorMod_f86c9_27 (hT)
  · skip
    have c_3 := nl_nge c_3 rfl ll_0
    refine lv_lload hx hb dJ9_floorMod_f86c9_13 (lv_at hl 0 rfl) ?_
    refine lv_lconst (v := 0) hx hb dJ9_floorMod_f86c9_15 (by decide) ?_
    refine W.lcmp hx hb dJ9_floorMod_f86c9_16 ?_
    refine lv_if_eq (tgt := 25) hx hb dJ9_floorMod_f86c9_17 (by decide) (fun c_4 => ?_) (fun c_4 => ?_)
    · skip
      have c_4 := nl_eq c_4 rfl ll_0
      refine lv_lload hx hb dJ9_floorMod_f86c9_25 (lv_at hl 0 rfl) ?_
      exact tz_retL (B := B_cJ9_floorMod_f86c9_e6271 D k x0 x1) (v := v1) hQ hx hb hr hlocks hS (Nat.le_of_ble_eq_true rfl) (Nat.le_of_ble_eq_true rfl) dJ9_floorMod_f86c9_27 (hT)
    · skip
      have c_4 := nl_ne c_4 rfl ll_0
      refine lv_lload hx hb dJ9_floorMod_f86c9_20 (lv_at hl 0 rfl) ?_
      refine lv_lload_n hx hb dJ9_floorMod_f86c9_22 rfl (lv_at hl 2 rfl) ?_
      refine lv_ladd hx hb dJ9_floorMod_f86c9_23 (lv_topl (fun v5 e_v5 => ?_))
      exact tz_retL (B := B_cJ9_floorMod_f86c9_e6271 D k x0 x1) (v := v5) hQ hx hb hr hlocks hS (Nat.le_of_ble_eq_true rfl) (Nat.le_of_ble_eq_true rfl) dJ9_floorMod_f86c9_24 (hT)
abbrev Rm_cX7_reduce_06f23 : Room := { frames := 1, cells := 0, slots := 0, locals := 25 }
abbrev B_cX7_reduce_06f23 (D : va_G) (k : Nat → ClassId) (h0 : Nat) (x1 : Int32) (x2 : Int32) (A : Nat → Prop) (H : Heap) : Prop := TP D A [(h0, aJ (k 1) 60 anJ)] H
set_option maxHeartbeats 4000000 in
set_option maxRecDepth 100000 in
theorem cX7_reduce_06f23 (l : Launch) (D : va_G) (k : Nat → ClassId) (sz : Nat) (h0 : Nat) (x1 : Int32) (x2 : Int32) (b_x1 : 1 ≤ x1.toInt ∧ x1.toInt ≤ 9) (b_x2 : 2 ≤ x2.toInt ∧ x2.toInt ≤ 7) : Met l yX7_reduce (Cond.code yX7_reduce cX7_reduce 4 none :: uw) Rm_cX7_reduce_06f23 (pT D k sz [.ref h0, .int x1, .int x2] [(h0, aJ (k 1) 60 anJ)]) (qV (B_cX7_reduce_06f23 D k h0 x1 x2 (zA [h0] sz)) (zA [h0] sz)) 0 0 (zA [h0] sz) := by
  refine tz_begin (as := [h0]) (Qc := fun A => qV (B_cX7_reduce_06f23 D k h0 x1 x2 A) A) (by decide +kernel) rfl (Nat.le_of_ble_eq_true rfl) ?_
  intro p e s m args below meth c ls A Q hx hb hr hml hown hlocks hin hU hK hT hS hA hl hQ
  have hl : lv_has ls 4 [(0, .ref h0), (1, .int x1), (2, .int x2)] := hl
  have hT : TP D A [(h0, aJ (k 1) 60 anJ)] s.heap := hT
  refine lv_iload_n hx hb dX7_reduce_0 rfl (lv_at hl 2 rfl) ?_
  refine lv_if_gt (tgt := 5) hx hb dX7_reduce_1 (by decide) (fun c_1 => ?_) (fun c_1 => ?_)
  · skip
    have c_1 := ni_lt c_1 li_0 rfl
    refine lv_iconst (v := 0) hx hb dX7_reduce_5 (by decide) ?_
    refine lv_istore_n (lv' := [(3, .int 0), (0, .ref h0), (1, .int x1), (2, .int x2)]) hx hb dX7_reduce_6 rfl hl (by decide) rfl (fun ls hl => ?_)
    have lp7_9 : ∀ (n : Nat) (y8 : Int32) (H : Heap) (locs : List Loc) (ls : Array Slot), (0 ≤ y8.toInt ∧ y8.toInt ≤ 9) → (x1.toInt + (-1) * y8.toInt + 1).toNat < n → TP D A [(h0, aJ (k 1) 60 anJ)] H → va_S A s.heap H locs → lv_has ls 4 [(0, .ref h0), (1, .int x1), (2, .int x2), (3, .int y8)] → W p l e Rm_cX7_reduce_06f23 s m args below meth c H locs 0 0 Q (F0 m 7 ls []) := by
      intro n
      induction n with
      | zero => intro y8 H locs ls b_y8 hm hT hS hl; exact absurd hm (Nat.not_lt_zero _)
      | succ n ih =>
        intro y8 H locs ls b_y8 hm hT hS hl
        have ih7_9 := ih
        clear ih
        refine lv_iload_n hx hb dX7_reduce_7 rfl (lv_at hl 3 rfl) ?_
        refine lv_iload_n hx hb dX7_reduce_8 rfl (lv_at hl 1 rfl) ?_
        refine lv_icmp_ge (tgt := 29) hx hb dX7_reduce_9 (by decide) (fun c_10 => ?_) (fun c_10 => ?_)
        · skip
          have c_10 := ni_le c_10 rfl rfl
          exact tz_retV (B := B_cX7_reduce_06f23 D k h0 x1 x2) hQ hx hb hr hlocks hS (Nat.le_of_ble_eq_true rfl) (Nat.le_of_ble_eq_true rfl) dX7_reduce_29 (hT)
        · skip
          have c_10 := ni_nle c_10 rfl rfl
          refine lv_aload_n hx hb dX7_reduce_12 rfl (lv_at hl 0 rfl) ?_
          refine lv_iload_n hx hb dX7_reduce_13 rfl (lv_at hl 3 rfl) ?_
          refine lv_aload_n hx hb dX7_reduce_14 rfl (lv_at hl 0 rfl) ?_
          refine lv_iload_n hx hb dX7_reduce_15 rfl (lv_at hl 3 rfl) ?_
          refine tz_lald hx hb hK hT 0 rfl (by omega) dX7_reduce_16 (fun v11 e_v11 => ?_)
          clear e_v11
          refine lv_iload_n hx hb dX7_reduce_17 rfl (lv_at hl 2 rfl) ?_
          obtain ⟨v12, e_v12⟩ : ∃ x : Int64, x2.toInt64 = x := ⟨_, rfl⟩
          refine lv_i2l (v := v12) hx hb dX7_reduce_18 e_v12 ?_
          have e_v12 := ai_i2l e_v12 rfl
          refine tcL (Tc := []) (Tr := [(h0, aJ (k 1) 60 anJ)]) (as := []) (zcS (As := [.long v11, .long v12]) (rest := [.int y8, .ref h0]) (Tc := []) hx hb hml hown hU hK hT [] rfl (by decide) (cJ9_floorMod_f86c9_e6271 l D k _ v11 v12 (by omega)) w549 w547 w548 w77 hdJ9_floorMod_f86c9 ⟨rfl, rfl⟩ ⟨Nat.le_of_ble_eq_true rfl, Nat.le_of_ble_eq_true rfl⟩ rfl hl.1 (Nat.le_of_ble_eq_true rfl) dX7_reduce_19 ⟨Nat.le_of_ble_eq_true rfl, Nat.le_of_ble_eq_true rfl⟩) hT hS hA [] [0] rfl rfl rfl (by decide) (by decide) (fun r13 H locs hB J hS => ?_)
          have hT1 := hB
          have hT := J _ hT1
          have hT : TP D A [(h0, aJ (k 1) 60 anJ)] _ := hT
          refine tz_last hx hb hK hT hS 0 rfl (by omega) (fun _ _ => trivial) dX7_reduce_22 (fun H locs hT hS => ?_)
          obtain ⟨v14, e_v14⟩ : ∃ x : Int32, x = y8 + Int32.ofInt 1 := ⟨_, rfl⟩
          have f_v14 := e_v14.symm
          have e_v14 : v14.toInt = y8.toInt + 1 := ai_add e_v14 rfl (show (Int32.ofInt 1).toInt = 1 from (by decide +kernel)) (by omega)
          refine lv_iinc (v := v14) (lv' := [(3, .int v14), (0, .ref h0), (1, .int x1), (2, .int x2)]) hx hb dX7_reduce_23 hl (k := 3) rfl f_v14 (by decide) rfl (fun ls hl => ?_)
          refine lv_goto (tgt := 7) hx hb dX7_reduce_26 (by decide) ?_
          exact ih7_9 v14 _ _ _ (by omega)  (by omega) hT hS (lv_sub hl [1, 2, 3, 0] rfl)
    exact lp7_9 ((x1.toInt + (-1) * (0 : Int32).toInt + 1).toNat + 1) (0) _ _ _ (by have := li_0; omega)  (Nat.lt_succ_self _) hT hS (lv_sub hl [1, 2, 3, 0] rfl)
  · skip
    have c_1 := ni_nlt c_1 li_0 rfl
    exfalso; omega
abbrev Rm_cX2_go_a0f55 : Room := { frames := 2, cells := 0, slots := 0, locals := 56 }
abbrev B_cX2_go_a0f55 (D : va_G) (k : Nat → ClassId) (h0 h1 h2 h3 h4 : Nat) (x2 : Int32) (x3 : Int32) (h0f1 : Int32) (h3f0 : Int32) (h3f1 : Int32) (h3f2 : Int32) (A : Nat → Prop) (r : Int32) (H : Heap) : Prop := 1 = r ∧ TP D A [(h0, ob 2 [.ref h3, .int h0f1]), (h1, aJ (k 1) 12000 anJ), (h2, aJ (k 1) 60 anJ), (h3, ob 4 [.int h3f0, .int h3f1, .int h3f2, .ref h4]), (h4, aJ (k 1) 36 anJ)] H
set_option maxHeartbeats 4000000 in
set_option maxRecDepth 100000 in
theorem cX2_go_a0f55 (l : Launch) (D : va_G) (k : Nat → ClassId) (sz : Nat) (h0 h1 h2 h3 h4 : Nat) (x2 : Int32) (x3 : Int32) (h0f1 : Int32) (h3f0 : Int32) (h3f1 : Int32) (h3f2 : Int32) (b_x2 : 0 ≤ x2.toInt ∧ x2.toInt ≤ 3591) (b_x3 : 0 ≤ x3.toInt ∧ x3.toInt ≤ 3) (b_h0f1 : 2 ≤ h0f1.toInt ∧ h0f1.toInt ≤ 7) (b_h3f0 : 1 ≤ h3f0.toInt ∧ h3f0.toInt ≤ 3) (b_h3f1 : 0 ≤ h3f1.toInt ∧ h3f1.toInt ≤ 4) : Met l yX2_go (Cond.code yX2_go cX2_go 5 (some .boolean) :: uw) Rm_cX2_go_a0f55 (pT D k sz [.ref h0, .ref h1, .int x2, .int x3, .ref h2] [(h0, ob 2 [.ref h3, .int h0f1]), (h1, aJ (k 1) 12000 anJ), (h2, aJ (k 1) 60 anJ), (h3, ob 4 [.int h3f0, .int h3f1, .int h3f2, .ref h4]), (h4, aJ (k 1) 36 anJ)]) (qI (B_cX2_go_a0f55 D k h0 h1 h2 h3 h4 x2 x3 h0f1 h3f0 h3f1 h3f2 (zA [h0, h1, h2, h3, h4] sz)) (zA [h0, h1, h2, h3, h4] sz)) 0 0 (zA [h0, h1, h2, h3, h4] sz) := by
  refine tz_begin (as := [h0, h1, h2, h3, h4]) (Qc := fun A => qI (B_cX2_go_a0f55 D k h0 h1 h2 h3 h4 x2 x3 h0f1 h3f0 h3f1 h3f2 A) A) (by decide +kernel) rfl (Nat.le_of_ble_eq_true rfl) ?_
  intro p e s m args below meth c ls A Q hx hb hr hml hown hlocks hin hU hK hT hS hA hl hQ
  have hl : lv_has ls 5 [(0, .ref h0), (1, .ref h1), (2, .int x2), (3, .int x3), (4, .ref h2)] := hl
  have hT : TP D A [(h0, ob 2 [.ref h3, .int h0f1]), (h1, aJ (k 1) 12000 anJ), (h2, aJ (k 1) 60 anJ), (h3, ob 4 [.int h3f0, .int h3f1, .int h3f2, .ref h4]), (h4, aJ (k 1) 36 anJ)] s.heap := hT
  refine lv_aload_n hx hb dX2_go_0 rfl (lv_at hl 1 rfl) ?_
  refine lv_iload_n hx hb dX2_go_1 rfl (lv_at hl 2 rfl) ?_
  refine lv_aload_n hx hb dX2_go_2 rfl (lv_at hl 0 rfl) ?_
  refine tz_get (ci := 2) (v := .ref h3) (C := RX2) (F := TX2) (N := 2) hx hb hU iX2 hown hK hT 0 rfl rfl 0 (by decide) w204 (fun _ h9 => h9) rfl dX2_go_3 ?_
  refine tz_get (ci := 4) (v := .ref h4) (C := RX5) (F := TX5) (N := 4) hx hb hU iX5 hown hK hT 3 rfl rfl 3 (by decide) w102 (fun _ h9 => h9) rfl dX2_go_6 ?_
  refine lv_iload_n hx hb dX2_go_9 rfl (lv_at hl 3 rfl) ?_
  refine lv_bipush (v := 9) hx hb dX2_go_10 (by decide) ?_
  refine lv_imul hx hb dX2_go_12 (lv_topi (fun v1 e_v1 => ?_))
  have e_v1 := ai_mul e_v1 rfl li_9 (by omega)
  refine lv_aload hx hb dX2_go_13 (lv_at hl 4 rfl) ?_
  refine lv_aload_n hx hb dX2_go_15 rfl (lv_at hl 0 rfl) ?_
  refine tz_get (ci := 2) (v := .ref h3) (C := RX2) (F := TX2) (N := 2) hx hb hU iX2 hown hK hT 0 rfl rfl 0 (by decide) w204 (fun _ h9 => h9) rfl dX2_go_16 ?_
  refine tz_get (ci := 4) (v := .int h3f0) (C := RX5) (F := TX5) (N := 4) hx hb hU iX5 hown hK hT 3 rfl rfl 0 (by decide) w95 (fun _ h9 => h9) rfl dX2_go_19 ?_
  refine tcV (Tc := [(h1, aJ (k 1) 12000 anJ), (h4, aJ (k 1) 36 anJ), (h2, aJ (k 1) 60 anJ)]) (Tr := [(h0, ob 2 [.ref h3, .int h0f1]), (h3, ob 4 [.int h3f0, .int h3f1, .int h3f2, .ref h4])]) (as := [h1, h4, h2]) (zcS (As := [.ref h1, .int x2, .ref h4, .int v1, .ref h2, .int h3f0]) (rest := []) (Tc := [(h1, aJ (k 1) 12000 anJ), (h4, aJ (k 1) 36 anJ), (h2, aJ (k 1) 60 anJ)]) hx hb hml hown hU hK hT [1, 4, 2] rfl (by decide) (cX7_multiply_1e2c2 l D k _ h1 h4 h2 x2 v1 h3f0 (by omega) (by omega) (by omega)) w363 w542 w362 w74 hdX7_multiply ⟨rfl, rfl⟩ ⟨Nat.le_of_ble_eq_true rfl, Nat.le_of_ble_eq_true rfl⟩ rfl hl.1 (Nat.le_of_ble_eq_true rfl) dX2_go_22 ⟨Nat.le_of_ble_eq_true rfl, Nat.le_of_ble_eq_true rfl⟩) hT hS hA [1, 4, 2] [0, 3] rfl rfl rfl (by decide) (by decide) (fun H locs hB J hS => ?_)
  have hT1 := hB
  have hT := J _ hT1
  have hT : TP D A [(h0, ob 2 [.ref h3, .int h0f1]), (h3, ob 4 [.int h3f0, .int h3f1, .int h3f2, .ref h4]), (h1, aJ (k 1) 12000 anJ), (h4, aJ (k 1) 36 anJ), (h2, aJ (k 1) 60 anJ)] _ := hT
  refine lv_aload_n hx hb dX2_go_25 rfl (lv_at hl 0 rfl) ?_
  refine tz_get (ci := 2) (v := .int h0f1) (C := RX2) (F := TX2) (N := 2) hx hb hU iX2 hown hK hT 0 rfl rfl 1 (by decide) w205 (fun _ h9 => h9) rfl dX2_go_26 ?_
  refine lv_if_le (tgt := 50) hx hb dX2_go_29 (by decide) (fun c_3 => ?_) (fun c_3 => ?_)
  · skip
    have c_3 := ni_le c_3 rfl li_0
    exfalso; omega
  · skip
    have c_3 := ni_nle c_3 rfl li_0
    refine lv_aload hx hb dX2_go_32 (lv_at hl 4 rfl) ?_
    refine lv_aload_n hx hb dX2_go_34 rfl (lv_at hl 0 rfl) ?_
    refine tz_get (ci := 2) (v := .ref h3) (C := RX2) (F := TX2) (N := 2) hx hb hU iX2 hown hK hT 0 rfl rfl 0 (by decide) w204 (fun _ h9 => h9) rfl dX2_go_35 ?_
    refine tcI (Tc := [(h3, ob 4 [.int h3f0, .int h3f1, .int h3f2, .ref h4])]) (Tr := [(h0, ob 2 [.ref h3, .int h0f1]), (h1, aJ (k 1) 12000 anJ), (h4, aJ (k 1) 36 anJ), (h2, aJ (k 1) 60 anJ)]) (as := [h3]) (zcV (q0 := 1) (ci := 4) (As := []) (rest := [.ref h2]) (Tc := [(h3, ob 4 [.int h3f0, .int h3f1, .int h3f2, .ref h4])]) hx hb hml hown hU hK hT rfl rfl [1] rfl (by decide) (cX5_cellCount_642c9 l D k _ h3 h4 h3f0 h3f1 h3f2 (by omega) (by omega)) w385 w543 w383 w384 w64 hdX5_cellCount ⟨rfl, rfl⟩ ⟨Nat.le_of_ble_eq_true rfl, Nat.le_of_ble_eq_true rfl⟩ rfl hl.1 (Nat.le_of_ble_eq_true rfl) dX2_go_38 ⟨Nat.le_of_ble_eq_true rfl, Nat.le_of_ble_eq_true rfl⟩) hT hS hA [1] [0, 2, 3, 4] rfl rfl rfl (by decide) (by decide) (fun r4 H locs hB J hS => ?_)
    obtain ⟨b_r4, hT1⟩ := hB
    have hT := J _ hT1
    have hT : TP D A [(h0, ob 2 [.ref h3, .int h0f1]), (h1, aJ (k 1) 12000 anJ), (h4, aJ (k 1) 36 anJ), (h2, aJ (k 1) 60 anJ), (h3, ob 4 [.int h3f0, .int h3f1, .int h3f2, .ref h4])] _ := hT
    refine lv_aload_n hx hb dX2_go_41 rfl (lv_at hl 0 rfl) ?_
    refine tz_get (ci := 2) (v := .int h0f1) (C := RX2) (F := TX2) (N := 2) hx hb hU iX2 hown hK hT 0 rfl rfl 1 (by decide) w205 (fun _ h9 => h9) rfl dX2_go_42 ?_
    refine tcV (Tc := [(h2, aJ (k 1) 60 anJ)]) (Tr := [(h0, ob 2 [.ref h3, .int h0f1]), (h1, aJ (k 1) 12000 anJ), (h4, aJ (k 1) 36 anJ), (h3, ob 4 [.int h3f0, .int h3f1, .int h3f2, .ref h4])]) (as := [h2]) (zcS (As := [.ref h2, .int r4, .int h0f1]) (rest := []) (Tc := [(h2, aJ (k 1) 60 anJ)]) hx hb hml hown hU hK hT [3] rfl (by decide) (cX7_reduce_06f23 l D k _ h2 r4 h0f1 (by omega) (by omega)) w546 w544 w545 w74 hdX7_reduce ⟨rfl, rfl⟩ ⟨Nat.le_of_ble_eq_true rfl, Nat.le_of_ble_eq_true rfl⟩ rfl hl.1 (Nat.le_of_ble_eq_true rfl) dX2_go_45 ⟨Nat.le_of_ble_eq_true rfl, Nat.le_of_ble_eq_true rfl⟩) hT hS hA [3] [0, 1, 2, 4] rfl rfl rfl (by decide) (by decide) (fun H locs hB J hS => ?_)
    have hT1 := hB
    have hT := J _ hT1
    have hT : TP D A [(h0, ob 2 [.ref h3, .int h0f1]), (h1, aJ (k 1) 12000 anJ), (h4, aJ (k 1) 36 anJ), (h3, ob 4 [.int h3f0, .int h3f1, .int h3f2, .ref h4]), (h2, aJ (k 1) 60 anJ)] _ := hT
    refine lv_iconst (v := 1) hx hb dX2_go_48 (by decide) ?_
    exact tz_retZ (B := B_cX2_go_a0f55 D k h0 h1 h2 h3 h4 x2 x3 h0f1 h3f0 h3f1 h3f2) (v := 1) hQ hx hb hr hlocks hS (Nat.le_of_ble_eq_true rfl) (Nat.le_of_ble_eq_true rfl) dX2_go_49 (by have := li_1; omega) (⟨rfl, (hT.sub [0, 1, 4, 3, 2] (by decide) rfl)⟩)
abbrev Rm_cX4_slotOf_77940 : Room := { frames := 0, cells := 0, slots := 0, locals := 0 }
abbrev B_cX4_slotOf_77940 (D : va_G) (k : Nat → ClassId) (h0 h1 h7 h2 h3 h4 h5 h6 h8 : Nat) (h0f8 : Int32) (h0f9 : Int32) (h0f10 : Int32) (h0f11 : Int32) (A : Nat → Prop) (r : Int32) (H : Heap) : Prop := (0 ≤ r.toInt ∧ r.toInt ≤ 1023) ∧ TP D A [(h0, ob 3 [.ref h2, .ref h3, .ref h4, .ref h5, .ref h6, .ref h7, .ref h8, .ref h1, .int h0f8, .int h0f9, .int h0f10, .int h0f11]), (h1, aJ (k 1) 60 anJ), (h7, aI (k 0) 1024 (rgI (-1) (h0f10.toInt - 1)))] H
set_option maxHeartbeats 4000000 in
set_option maxRecDepth 100000 in
theorem cX4_slotOf_77940 (l : Launch) (D : va_G) (k : Nat → ClassId) (sz : Nat) (h0 h1 h7 h2 h3 h4 h5 h6 h8 : Nat) (h0f8 : Int32) (h0f9 : Int32) (h0f10 : Int32) (h0f11 : Int32) (b_h0f8 : 1 ≤ h0f8.toInt ∧ h0f8.toInt ≤ 9) (b_h0f9 : 400 ≤ h0f9.toInt ∧ h0f9.toInt ≤ 400) (b_h0f10 : 1 ≤ h0f10.toInt ∧ h0f10.toInt ≤ 400) (b_h0f11 : 0 ≤ h0f11.toInt ∧ h0f11.toInt ≤ 1) : Met l yX4_slotOf (Cond.code yX4_slotOf cX4_slotOf 5 (some .int) :: uw) Rm_cX4_slotOf_77940 (pT D k sz [.ref h0, .ref h1] [(h0, ob 3 [.ref h2, .ref h3, .ref h4, .ref h5, .ref h6, .ref h7, .ref h8, .ref h1, .int h0f8, .int h0f9, .int h0f10, .int h0f11]), (h1, aJ (k 1) 60 anJ), (h7, aI (k 0) 1024 (rgI (-1) (h0f10.toInt - 1)))]) (qI (B_cX4_slotOf_77940 D k h0 h1 h7 h2 h3 h4 h5 h6 h8 h0f8 h0f9 h0f10 h0f11 (zA [h0, h1, h7] sz)) (zA [h0, h1, h7] sz)) 0 0 (zA [h0, h1, h7] sz) := by
  refine tz_begin (as := [h0, h1, h7]) (Qc := fun A => qI (B_cX4_slotOf_77940 D k h0 h1 h7 h2 h3 h4 h5 h6 h8 h0f8 h0f9 h0f10 h0f11 A) A) (by decide +kernel) rfl (Nat.le_of_ble_eq_true rfl) ?_
  intro p e s m args below meth c ls A Q hx hb hr hml hown hlocks hin hU hK hT hS hA hl hQ
  have hl : lv_has ls 5 [(0, .ref h0), (1, .ref h1)] := hl
  have hT : TP D A [(h0, ob 3 [.ref h2, .ref h3, .ref h4, .ref h5, .ref h6, .ref h7, .ref h8, .ref h1, .int h0f8, .int h0f9, .int h0f10, .int h0f11]), (h1, aJ (k 1) 60 anJ), (h7, aI (k 0) 1024 (rgI (-1) (h0f10.toInt - 1)))] s.heap := hT
  refine lv_lconst (v := 0) hx hb dX4_slotOf_0 (by decide) ?_
  refine lv_lstore_n (lv' := [(2, .long 0), (0, .ref h0), (1, .ref h1)]) hx hb dX4_slotOf_1 rfl hl (by decide) rfl (fun ls hl => ?_)
  refine lv_iconst (v := 0) hx hb dX4_slotOf_2 (by decide) ?_
  refine lv_istore (lv' := [(4, .int 0), (2, .long 0), (0, .ref h0), (1, .ref h1)]) hx hb dX4_slotOf_3 hl (by decide) rfl (fun ls hl => ?_)
  have lp5_15 : ∀ (n : Nat) (y13 : Int32) (y14 : Int64) (H : Heap) (locs : List Loc) (ls : Array Slot), (0 ≤ y13.toInt ∧ y13.toInt ≤ 9) → (h0f8.toInt + (-1) * y13.toInt + 1).toNat < n → TP D A [(h0, ob 3 [.ref h2, .ref h3, .ref h4, .ref h5, .ref h6, .ref h7, .ref h8, .ref h1, .int h0f8, .int h0f9, .int h0f10, .int h0f11]), (h1, aJ (k 1) 60 anJ), (h7, aI (k 0) 1024 (rgI (-1) (h0f10.toInt - 1)))] H → va_S A s.heap H locs → lv_has ls 5 [(0, .ref h0), (1, .ref h1), (2, .long y14), (4, .int y13)] → W p l e Rm_cX4_slotOf_77940 s m args below meth c H locs 0 0 Q (F0 m 5 ls []) := by
    intro n
    induction n with
    | zero => intro y13 y14 H locs ls b_y13 hm hT hS hl; exact absurd hm (Nat.not_lt_zero _)
    | succ n ih =>
      intro y13 y14 H locs ls b_y13 hm hT hS hl
      have ih5_15 := ih
      clear ih
      refine lv_iload hx hb dX4_slotOf_5 (lv_at hl 3 rfl) ?_
      refine lv_aload_n hx hb dX4_slotOf_7 rfl (lv_at hl 0 rfl) ?_
      refine tz_get (ci := 3) (v := .int h0f8) (C := RX4) (F := TX4) (N := 12) hx hb hU iX4 hown hK hT 0 rfl rfl 8 (by decide) w162 (fun _ h9 => h9) rfl dX4_slotOf_8 ?_
      refine lv_icmp_ge (tgt := 31) hx hb dX4_slotOf_11 (by decide) (fun c_16 => ?_) (fun c_16 => ?_)
      · skip
        have c_16 := ni_le c_16 rfl rfl
        refine lv_lload_n hx hb dX4_slotOf_31 rfl (lv_at hl 2 rfl) ?_
        refine lv_lload_n hx hb dX4_slotOf_32 rfl (lv_at hl 2 rfl) ?_
        refine lv_bipush (v := 32) hx hb dX4_slotOf_33 (by decide) ?_
        refine lv_lushr hx hb dX4_slotOf_35 rfl (lv_topl (fun v17 _ => ?_))
        refine lv_lxor hx hb dX4_slotOf_36 (lv_topl (fun v18 e_v18 => ?_))
        refine lv_lstore_n (lv' := [(2, .long v18), (0, .ref h0), (1, .ref h1), (4, .int y13)]) hx hb dX4_slotOf_37 rfl hl (by decide) rfl (fun ls hl => ?_)
        refine lv_lload_n hx hb dX4_slotOf_38 rfl (lv_at hl 0 rfl) ?_
        refine lv_lload_n hx hb dX4_slotOf_39 rfl (lv_at hl 0 rfl) ?_
        refine lv_bipush (v := 16) hx hb dX4_slotOf_40 (by decide) ?_
        refine lv_lushr hx hb dX4_slotOf_42 rfl (lv_topl (fun v19 _ => ?_))
        refine lv_lxor hx hb dX4_slotOf_43 (lv_topl (fun v20 e_v20 => ?_))
        refine lv_lstore_n (lv' := [(2, .long v20), (0, .ref h0), (1, .ref h1), (4, .int y13)]) hx hb dX4_slotOf_44 rfl hl (by decide) rfl (fun ls hl => ?_)
        refine lv_lload_n hx hb dX4_slotOf_45 rfl (lv_at hl 0 rfl) ?_
        refine lv_l2i hx hb dX4_slotOf_46 rfl (lv_topi (fun v21 _ => ?_))
        refine lv_aload_n hx hb dX4_slotOf_47 rfl (lv_at hl 1 rfl) ?_
        refine tz_get (ci := 3) (v := .ref h7) (C := RX4) (F := TX4) (N := 12) hx hb hU iX4 hown hK hT 0 rfl rfl 5 (by decide) w159 (fun _ h9 => h9) rfl dX4_slotOf_48 ?_
        refine tz_aleni (v := 1024) hx hb hK hT 2 rfl (by decide +kernel) dX4_slotOf_51 ?_
        refine lv_iconst (v := 1) hx hb dX4_slotOf_52 (by decide) ?_
        refine lv_isub hx hb dX4_slotOf_53 (sv_i (v := 1023) (by decide +kernel) ?_)
        refine lv_iand hx hb dX4_slotOf_54 (lv_topi (fun v22 e_v22 => ?_))
        have e_v22 := ai_and 10 e_v22 (by decide +kernel) (by decide)
        exact tz_retI (B := B_cX4_slotOf_77940 D k h0 h1 h7 h2 h3 h4 h5 h6 h8 h0f8 h0f9 h0f10 h0f11) (v := v22) hQ hx hb hr hlocks hS (Nat.le_of_ble_eq_true rfl) (Nat.le_of_ble_eq_true rfl) dX4_slotOf_55 (⟨(by omega), hT⟩)
      · skip
        have c_16 := ni_nle c_16 rfl rfl
        refine lv_lload_n hx hb dX4_slotOf_14 rfl (lv_at hl 2 rfl) ?_
        refine lv_ldc2 hx hb hown (hU _ w515) dX4_slotOf_15 ?_
        refine lv_lmul hx hb dX4_slotOf_18 (lv_topl (fun v23 e_v23 => ?_))
        refine lv_aload_n hx hb dX4_slotOf_19 rfl (lv_at hl 1 rfl) ?_
        refine lv_iload hx hb dX4_slotOf_20 (lv_at hl 3 rfl) ?_
        refine tz_lald hx hb hK hT 1 rfl (by omega) dX4_slotOf_22 (fun v24 e_v24 => ?_)
        clear e_v24
        refine lv_ladd hx hb dX4_slotOf_23 (lv_topl (fun v25 e_v25 => ?_))
        refine lv_lstore_n (lv' := [(2, .long v25), (0, .ref h0), (1, .ref h1), (4, .int y13)]) hx hb dX4_slotOf_24 rfl hl (by decide) rfl (fun ls hl => ?_)
        obtain ⟨v26, e_v26⟩ : ∃ x : Int32, x = y13 + Int32.ofInt 1 := ⟨_, rfl⟩
        have f_v26 := e_v26.symm
        have e_v26 : v26.toInt = y13.toInt + 1 := ai_add e_v26 rfl (show (Int32.ofInt 1).toInt = 1 from (by decide +kernel)) (by omega)
        refine lv_iinc (v := v26) (lv' := [(4, .int v26), (2, .long v25), (0, .ref h0), (1, .ref h1)]) hx hb dX4_slotOf_25 hl (k := 3) rfl f_v26 (by decide) rfl (fun ls hl => ?_)
        refine lv_goto (tgt := 5) hx hb dX4_slotOf_28 (by decide) ?_
        exact ih5_15 v26 v25 _ _ _ (by omega)  (by omega) hT hS (lv_sub hl [2, 3, 1, 0] rfl)
  exact lp5_15 ((h0f8.toInt + (-1) * (0 : Int32).toInt + 1).toNat + 1) (0) (0) _ _ _ (by have := li_0; have := ll_0; omega)  (Nat.lt_succ_self _) hT hS (lv_sub hl [2, 3, 1, 0] rfl)
abbrev Rm_cX4_isRow_0bddc : Room := { frames := 1, cells := 0, slots := 0, locals := 21 }
abbrev B_cX4_isRow_0bddc (D : va_G) (k : Nat → ClassId) (h0 h1 h2 h3 h4 h5 h6 h7 h8 : Nat) (x1 : Int32) (h0f8 : Int32) (h0f9 : Int32) (h0f10 : Int32) (h0f11 : Int32) (A : Nat → Prop) (r : Int32) (H : Heap) : Prop := (0 ≤ r.toInt ∧ r.toInt ≤ 1) ∧ TP D A [(h0, ob 3 [.ref h2, .ref h3, .ref h4, .ref h5, .ref h6, .ref h7, .ref h8, .ref h1, .int h0f8, .int h0f9, .int h0f10, .int h0f11]), (h1, aJ (k 1) 60 anJ), (h2, aJ (k 1) 12000 anJ)] H
set_option maxHeartbeats 4000000 in
set_option maxRecDepth 100000 in
theorem cX4_isRow_0bddc (l : Launch) (D : va_G) (k : Nat → ClassId) (sz : Nat) (h0 h1 h2 h3 h4 h5 h6 h7 h8 : Nat) (x1 : Int32) (h0f8 : Int32) (h0f9 : Int32) (h0f10 : Int32) (h0f11 : Int32) (b_x1 : 0 ≤ x1.toInt ∧ x1.toInt ≤ 399) (b_h0f8 : 1 ≤ h0f8.toInt ∧ h0f8.toInt ≤ 9) (b_h0f9 : 400 ≤ h0f9.toInt ∧ h0f9.toInt ≤ 400) (b_h0f10 : 1 ≤ h0f10.toInt ∧ h0f10.toInt ≤ 400) (b_h0f11 : 0 ≤ h0f11.toInt ∧ h0f11.toInt ≤ 1) : Met l yX4_isRow (Cond.code yX4_isRow cX4_isRow 5 (some .boolean) :: uw) Rm_cX4_isRow_0bddc (pT D k sz [.ref h0, .int x1, .ref h1] [(h0, ob 3 [.ref h2, .ref h3, .ref h4, .ref h5, .ref h6, .ref h7, .ref h8, .ref h1, .int h0f8, .int h0f9, .int h0f10, .int h0f11]), (h1, aJ (k 1) 60 anJ), (h2, aJ (k 1) 12000 anJ)]) (qI (B_cX4_isRow_0bddc D k h0 h1 h2 h3 h4 h5 h6 h7 h8 x1 h0f8 h0f9 h0f10 h0f11 (zA [h0, h1, h2] sz)) (zA [h0, h1, h2] sz)) 0 0 (zA [h0, h1, h2] sz) := by
  refine tz_begin (as := [h0, h1, h2]) (Qc := fun A => qI (B_cX4_isRow_0bddc D k h0 h1 h2 h3 h4 h5 h6 h7 h8 x1 h0f8 h0f9 h0f10 h0f11 A) A) (by decide +kernel) rfl (Nat.le_of_ble_eq_true rfl) ?_
  intro p e s m args below meth c ls A Q hx hb hr hml hown hlocks hin hU hK hT hS hA hl hQ
  have hl : lv_has ls 5 [(0, .ref h0), (1, .int x1), (2, .ref h1)] := hl
  have hT : TP D A [(h0, ob 3 [.ref h2, .ref h3, .ref h4, .ref h5, .ref h6, .ref h7, .ref h8, .ref h1, .int h0f8, .int h0f9, .int h0f10, .int h0f11]), (h1, aJ (k 1) 60 anJ), (h2, aJ (k 1) 12000 anJ)] s.heap := hT
  refine lv_aload_n hx hb dX4_isRow_0 rfl (lv_at hl 0 rfl) ?_
  refine lv_iload_n hx hb dX4_isRow_1 rfl (lv_at hl 1 rfl) ?_
  refine tcI (Tc := [(h0, ob 3 [.ref h2, .ref h3, .ref h4, .ref h5, .ref h6, .ref h7, .ref h8, .ref h1, .int h0f8, .int h0f9, .int h0f10, .int h0f11])]) (Tr := [(h1, aJ (k 1) 60 anJ), (h2, aJ (k 1) 12000 anJ)]) (as := [h0]) (zcV (q0 := 0) (ci := 3) (As := [.int x1]) (rest := []) (Tc := [(h0, ob 3 [.ref h2, .ref h3, .ref h4, .ref h5, .ref h6, .ref h7, .ref h8, .ref h1, .int h0f8, .int h0f9, .int h0f10, .int h0f11])]) hx hb hml hown hU hK hT rfl rfl [0] rfl (by decide) (cX4_start_4cfb7 l D k _ h0 h2 h3 h4 h5 h6 h7 h8 h1 x1 h0f8 h0f9 h0f10 h0f11 (by omega) (by omega) (by omega) (by omega) (by omega)) w505 w502 w503 w504 w66 hdX4_start ⟨rfl, rfl⟩ ⟨Nat.le_of_ble_eq_true rfl, Nat.le_of_ble_eq_true rfl⟩ rfl hl.1 (Nat.le_of_ble_eq_true rfl) dX4_isRow_2 ⟨Nat.le_of_ble_eq_true rfl, Nat.le_of_ble_eq_true rfl⟩) hT hS hA [0] [1, 2] rfl rfl rfl (by decide) (by decide) (fun r1 H locs hB J hS => ?_)
  obtain ⟨b_r1, hT1⟩ := hB
  have hT := J _ hT1
  have hT : TP D A [(h1, aJ (k 1) 60 anJ), (h2, aJ (k 1) 12000 anJ), (h0, ob 3 [.ref h2, .ref h3, .ref h4, .ref h5, .ref h6, .ref h7, .ref h8, .ref h1, .int h0f8, .int h0f9, .int h0f10, .int h0f11])] _ := hT
  refine lv_istore_n (lv' := [(3, .int r1), (0, .ref h0), (1, .int x1), (2, .ref h1)]) hx hb dX4_isRow_5 rfl hl (by decide) rfl (fun ls hl => ?_)
  refine lv_iconst (v := 0) hx hb dX4_isRow_6 (by decide) ?_
  refine lv_istore (lv' := [(4, .int 0), (3, .int r1), (0, .ref h0), (1, .int x1), (2, .ref h1)]) hx hb dX4_isRow_7 hl (by decide) rfl (fun ls hl => ?_)
  have lp9_9 : ∀ (n : Nat) (y8 : Int32) (H : Heap) (locs : List Loc) (ls : Array Slot), (0 ≤ y8.toInt ∧ y8.toInt ≤ 9) → (h0f8.toInt + (-1) * y8.toInt + 1).toNat < n → TP D A [(h1, aJ (k 1) 60 anJ), (h2, aJ (k 1) 12000 anJ), (h0, ob 3 [.ref h2, .ref h3, .ref h4, .ref h5, .ref h6, .ref h7, .ref h8, .ref h1, .int h0f8, .int h0f9, .int h0f10, .int h0f11])] H → va_S A s.heap H locs → lv_has ls 5 [(0, .ref h0), (2, .ref h1), (3, .int r1), (4, .int y8)] → W p l e Rm_cX4_isRow_0bddc s m args below meth c H locs 0 0 Q (F0 m 9 ls []) := by
    intro n
    induction n with
    | zero => intro y8 H locs ls b_y8 hm hT hS hl; exact absurd hm (Nat.not_lt_zero _)
    | succ n ih =>
      intro y8 H locs ls b_y8 hm hT hS hl
      have ih9_9 := ih
      clear ih
      refine lv_iload hx hb dX4_isRow_9 (lv_at hl 3 rfl) ?_
      refine lv_aload_n hx hb dX4_isRow_11 rfl (lv_at hl 0 rfl) ?_
      refine tz_get (ci := 3) (v := .int h0f8) (C := RX4) (F := TX4) (N := 12) hx hb hU iX4 hown hK hT 2 rfl rfl 8 (by decide) w162 (fun _ h9 => h9) rfl dX4_isRow_12 ?_
      refine lv_icmp_ge (tgt := 43) hx hb dX4_isRow_15 (by decide) (fun c_10 => ?_) (fun c_10 => ?_)
      · skip
        have c_10 := ni_le c_10 rfl rfl
        refine lv_iconst (v := 1) hx hb dX4_isRow_43 (by decide) ?_
        exact tz_retZ (B := B_cX4_isRow_0bddc D k h0 h1 h2 h3 h4 h5 h6 h7 h8 x1 h0f8 h0f9 h0f10 h0f11) (v := 1) hQ hx hb hr hlocks hS (Nat.le_of_ble_eq_true rfl) (Nat.le_of_ble_eq_true rfl) dX4_isRow_44 (by have := li_1; omega) (⟨(by have := li_1; omega), (hT.sub [2, 0, 1] (by decide) rfl)⟩)
      · skip
        have c_10 := ni_nle c_10 rfl rfl
        refine lv_aload_n hx hb dX4_isRow_18 rfl (lv_at hl 0 rfl) ?_
        refine tz_get (ci := 3) (v := .ref h2) (C := RX4) (F := TX4) (N := 12) hx hb hU iX4 hown hK hT 2 rfl rfl 0 (by decide) w149 (fun _ h9 => h9) rfl dX4_isRow_19 ?_
        refine lv_iload_n hx hb dX4_isRow_22 rfl (lv_at hl 2 rfl) ?_
        refine lv_iload hx hb dX4_isRow_23 (lv_at hl 3 rfl) ?_
        refine lv_iadd hx hb dX4_isRow_25 (lv_topi (fun v11 e_v11 => ?_))
        have e_v11 := ai_add e_v11 rfl rfl (by omega)
        refine tz_lald hx hb hK hT 1 rfl (by omega) dX4_isRow_26 (fun v12 e_v12 => ?_)
        clear e_v12
        refine lv_aload_n hx hb dX4_isRow_27 rfl (lv_at hl 1 rfl) ?_
        refine lv_iload hx hb dX4_isRow_28 (lv_at hl 3 rfl) ?_
        refine tz_lald hx hb hK hT 0 rfl (by omega) dX4_isRow_30 (fun v13 e_v13 => ?_)
        clear e_v13
        refine W.lcmp hx hb dX4_isRow_31 ?_
        refine lv_if_eq (tgt := 37) hx hb dX4_isRow_32 (by decide) (fun c_14 => ?_) (fun c_14 => ?_)
        · skip
          have c_14 := nl_eq c_14 rfl rfl
          obtain ⟨v15, e_v15⟩ : ∃ x : Int32, x = y8 + Int32.ofInt 1 := ⟨_, rfl⟩
          have f_v15 := e_v15.symm
          have e_v15 : v15.toInt = y8.toInt + 1 := ai_add e_v15 rfl (show (Int32.ofInt 1).toInt = 1 from (by decide +kernel)) (by omega)
          refine lv_iinc (v := v15) (lv' := [(4, .int v15), (0, .ref h0), (2, .ref h1), (3, .int r1)]) hx hb dX4_isRow_37 hl (k := 3) rfl f_v15 (by decide) rfl (fun ls hl => ?_)
          refine lv_goto (tgt := 9) hx hb dX4_isRow_40 (by decide) ?_
          exact ih9_9 v15 _ _ _ (by omega)  (by omega) hT hS (lv_sub hl [1, 2, 3, 0] rfl)
        · skip
          have c_14 := nl_ne c_14 rfl rfl
          refine lv_iconst (v := 0) hx hb dX4_isRow_35 (by decide) ?_
          exact tz_retZ (B := B_cX4_isRow_0bddc D k h0 h1 h2 h3 h4 h5 h6 h7 h8 x1 h0f8 h0f9 h0f10 h0f11) (v := 0) hQ hx hb hr hlocks hS (Nat.le_of_ble_eq_true rfl) (Nat.le_of_ble_eq_true rfl) dX4_isRow_36 (by have := li_0; omega) (⟨(by have := li_0; omega), (hT.sub [2, 0, 1] (by decide) rfl)⟩)
  exact lp9_9 ((h0f8.toInt + (-1) * (0 : Int32).toInt + 1).toNat + 1) (0) _ _ _ (by have := li_0; omega)  (Nat.lt_succ_self _) hT hS (lv_sub hl [2, 4, 1, 0] rfl)
abbrev Rm_cX4_search_4a917 : Room := { frames := 2, cells := 0, slots := 0, locals := 45 }
abbrev B_cX4_search_4a917 (D : va_G) (k : Nat → ClassId) (h0 h1 h2 h7 h8 h3 h4 h5 h6 : Nat) (h0f8 : Int32) (h0f9 : Int32) (h0f10 : Int32) (h0f11 : Int32) (A : Nat → Prop) (r : Int32) (H : Heap) : Prop := ((-1) ≤ r.toInt ∧ r.toInt ≤ 399) ∧ TP D A [(h0, ob 3 [.ref h2, .ref h3, .ref h4, .ref h5, .ref h6, .ref h7, .ref h8, .ref h1, .int h0f8, .int h0f9, .int h0f10, .int h0f11]), (h1, aJ (k 1) 60 anJ), (h2, aJ (k 1) 12000 anJ), (h7, aI (k 0) 1024 (rgI (-1) (h0f10.toInt - 1))), (h8, aI (k 0) 400 (pfI (h0f10.toInt)))] H
set_option maxHeartbeats 4000000 in
set_option maxRecDepth 100000 in
theorem cX4_search_4a917 (l : Launch) (D : va_G) (k : Nat → ClassId) (sz : Nat) (h0 h1 h2 h7 h8 h3 h4 h5 h6 : Nat) (h0f8 : Int32) (h0f9 : Int32) (h0f10 : Int32) (h0f11 : Int32) (b_h0f8 : 1 ≤ h0f8.toInt ∧ h0f8.toInt ≤ 9) (b_h0f9 : 400 ≤ h0f9.toInt ∧ h0f9.toInt ≤ 400) (b_h0f10 : 1 ≤ h0f10.toInt ∧ h0f10.toInt ≤ 400) (b_h0f11 : 0 ≤ h0f11.toInt ∧ h0f11.toInt ≤ 1) : Met l yX4_search (Cond.code yX4_search cX4_search 4 (some .int) :: uw) Rm_cX4_search_4a917 (pT D k sz [.ref h0, .ref h1] [(h0, ob 3 [.ref h2, .ref h3, .ref h4, .ref h5, .ref h6, .ref h7, .ref h8, .ref h1, .int h0f8, .int h0f9, .int h0f10, .int h0f11]), (h1, aJ (k 1) 60 anJ), (h2, aJ (k 1) 12000 anJ), (h7, aI (k 0) 1024 (rgI (-1) (h0f10.toInt - 1))), (h8, aI (k 0) 400 (pfI (h0f10.toInt)))]) (qI (B_cX4_search_4a917 D k h0 h1 h2 h7 h8 h3 h4 h5 h6 h0f8 h0f9 h0f10 h0f11 (zA [h0, h1, h2, h7, h8] sz)) (zA [h0, h1, h2, h7, h8] sz)) 0 0 (zA [h0, h1, h2, h7, h8] sz) := by
  refine tz_begin (as := [h0, h1, h2, h7, h8]) (Qc := fun A => qI (B_cX4_search_4a917 D k h0 h1 h2 h7 h8 h3 h4 h5 h6 h0f8 h0f9 h0f10 h0f11 A) A) (by decide +kernel) rfl (Nat.le_of_ble_eq_true rfl) ?_
  intro p e s m args below meth c ls A Q hx hb hr hml hown hlocks hin hU hK hT hS hA hl hQ
  have hl : lv_has ls 4 [(0, .ref h0), (1, .ref h1)] := hl
  have hT : TP D A [(h0, ob 3 [.ref h2, .ref h3, .ref h4, .ref h5, .ref h6, .ref h7, .ref h8, .ref h1, .int h0f8, .int h0f9, .int h0f10, .int h0f11]), (h1, aJ (k 1) 60 anJ), (h2, aJ (k 1) 12000 anJ), (h7, aI (k 0) 1024 (rgI (-1) (h0f10.toInt - 1))), (h8, aI (k 0) 400 (pfI (h0f10.toInt)))] s.heap := hT
  refine lv_aload_n hx hb dX4_search_0 rfl (lv_at hl 0 rfl) ?_
  refine tz_get (ci := 3) (v := .ref h7) (C := RX4) (F := TX4) (N := 12) hx hb hU iX4 hown hK hT 0 rfl rfl 5 (by decide) w159 (fun _ h9 => h9) rfl dX4_search_1 ?_
  refine lv_aload_n hx hb dX4_search_4 rfl (lv_at hl 0 rfl) ?_
  refine lv_aload_n hx hb dX4_search_5 rfl (lv_at hl 1 rfl) ?_
  refine tcI (Tc := [(h0, ob 3 [.ref h2, .ref h3, .ref h4, .ref h5, .ref h6, .ref h7, .ref h8, .ref h1, .int h0f8, .int h0f9, .int h0f10, .int h0f11]), (h1, aJ (k 1) 60 anJ), (h7, aI (k 0) 1024 (rgI (-1) (h0f10.toInt - 1)))]) (Tr := [(h2, aJ (k 1) 12000 anJ), (h8, aI (k 0) 400 (pfI (h0f10.toInt)))]) (as := [h0, h1, h7]) (zcV (q0 := 0) (ci := 3) (As := [.ref h1]) (rest := [.ref h7]) (Tc := [(h0, ob 3 [.ref h2, .ref h3, .ref h4, .ref h5, .ref h6, .ref h7, .ref h8, .ref h1, .int h0f8, .int h0f9, .int h0f10, .int h0f11]), (h1, aJ (k 1) 60 anJ), (h7, aI (k 0) 1024 (rgI (-1) (h0f10.toInt - 1)))]) hx hb hml hown hU hK hT rfl rfl [0, 1, 3] rfl (by decide) (cX4_slotOf_77940 l D k _ h0 h1 h7 h2 h3 h4 h5 h6 h8 h0f8 h0f9 h0f10 h0f11 (by omega) (by omega) (by omega) (by omega)) w514 w511 w513 w11 w66 hdX4_slotOf ⟨rfl, rfl⟩ ⟨Nat.le_of_ble_eq_true rfl, Nat.le_of_ble_eq_true rfl⟩ rfl hl.1 (Nat.le_of_ble_eq_true rfl) dX4_search_6 ⟨Nat.le_of_ble_eq_true rfl, Nat.le_of_ble_eq_true rfl⟩) hT hS hA [0, 1, 3] [2, 4] rfl rfl rfl (by decide) (by decide) (fun r1 H locs hB J hS => ?_)
  obtain ⟨b_r1, hT1⟩ := hB
  have hT := J _ hT1
  have hT : TP D A [(h2, aJ (k 1) 12000 anJ), (h8, aI (k 0) 400 (pfI (h0f10.toInt))), (h0, ob 3 [.ref h2, .ref h3, .ref h4, .ref h5, .ref h6, .ref h7, .ref h8, .ref h1, .int h0f8, .int h0f9, .int h0f10, .int h0f11]), (h1, aJ (k 1) 60 anJ), (h7, aI (k 0) 1024 (rgI (-1) (h0f10.toInt - 1)))] _ := hT
  refine tz_iald hx hb hK hT 4 rfl (by omega) dX4_search_9 (fun v2 e_v2 => ?_)
  have e_v2 := rg_get e_v2
  refine lv_istore_n (lv' := [(2, .int v2), (0, .ref h0), (1, .ref h1)]) hx hb dX4_search_10 rfl hl (by decide) rfl (fun ls hl => ?_)
  refine lv_iconst (v := 0) hx hb dX4_search_11 (by decide) ?_
  refine lv_istore_n (lv' := [(3, .int 0), (2, .int v2), (0, .ref h0), (1, .ref h1)]) hx hb dX4_search_12 rfl hl (by decide) rfl (fun ls hl => ?_)
  have lp13_51 : ∀ (n : Nat) (y49 : Int32) (y50 : Int32) (H : Heap) (locs : List Loc) (ls : Array Slot), (0 ≤ y49.toInt ∧ y49.toInt ≤ 400) → ((-1) ≤ y50.toInt ∧ y50.toInt ≤ 399) → (y50.toInt < h0f10.toInt) → (h0f10.toInt + (-1) * y49.toInt + 1).toNat < n → TP D A [(h2, aJ (k 1) 12000 anJ), (h8, aI (k 0) 400 (pfI (h0f10.toInt))), (h0, ob 3 [.ref h2, .ref h3, .ref h4, .ref h5, .ref h6, .ref h7, .ref h8, .ref h1, .int h0f8, .int h0f9, .int h0f10, .int h0f11]), (h1, aJ (k 1) 60 anJ), (h7, aI (k 0) 1024 (rgI (-1) (h0f10.toInt - 1)))] H → va_S A s.heap H locs → lv_has ls 4 [(0, .ref h0), (1, .ref h1), (2, .int y50), (3, .int y49)] → W p l e Rm_cX4_search_4a917 s m args below meth c H locs 0 0 Q (F0 m 13 ls []) := by
    intro n
    induction n with
    | zero => intro y49 y50 H locs ls b_y49 b_y50 x_0 hm hT hS hl; exact absurd hm (Nat.not_lt_zero _)
    | succ n ih =>
      intro y49 y50 H locs ls b_y49 b_y50 x_0 hm hT hS hl
      have ih13_51 := ih
      clear ih
      refine lv_iload_n hx hb dX4_search_13 rfl (lv_at hl 3 rfl) ?_
      refine lv_aload_n hx hb dX4_search_14 rfl (lv_at hl 0 rfl) ?_
      refine tz_get (ci := 3) (v := .int h0f10) (C := RX4) (F := TX4) (N := 12) hx hb hU iX4 hown hK hT 2 rfl rfl 10 (by decide) w164 (fun _ h9 => h9) rfl dX4_search_15 ?_
      refine lv_icmp_ge (tgt := 49) hx hb dX4_search_18 (by decide) (fun c_52 => ?_) (fun c_52 => ?_)
      · skip
        have c_52 := ni_le c_52 rfl rfl
        refine lv_iconst (v := (-1)) hx hb dX4_search_49 (by decide) ?_
        exact tz_retI (B := B_cX4_search_4a917 D k h0 h1 h2 h7 h8 h3 h4 h5 h6 h0f8 h0f9 h0f10 h0f11) (v := (-1)) hQ hx hb hr hlocks hS (Nat.le_of_ble_eq_true rfl) (Nat.le_of_ble_eq_true rfl) dX4_search_50 (⟨(by have := li_m1; omega), (hT.sub [2, 3, 0, 4, 1] (by decide) rfl)⟩)
      · skip
        have c_52 := ni_nle c_52 rfl rfl
        refine lv_iload_n hx hb dX4_search_21 rfl (lv_at hl 2 rfl) ?_
        refine lv_if_lt (tgt := 49) hx hb dX4_search_22 (by decide) (fun c_53 => ?_) (fun c_53 => ?_)
        · skip
          have c_53 := ni_lt c_53 rfl li_0
          refine lv_iconst (v := (-1)) hx hb dX4_search_49 (by decide) ?_
          exact tz_retI (B := B_cX4_search_4a917 D k h0 h1 h2 h7 h8 h3 h4 h5 h6 h0f8 h0f9 h0f10 h0f11) (v := (-1)) hQ hx hb hr hlocks hS (Nat.le_of_ble_eq_true rfl) (Nat.le_of_ble_eq_true rfl) dX4_search_50 (⟨(by have := li_m1; omega), (hT.sub [2, 3, 0, 4, 1] (by decide) rfl)⟩)
        · skip
          have c_53 := ni_nlt c_53 rfl li_0
          refine lv_aload_n hx hb dX4_search_25 rfl (lv_at hl 0 rfl) ?_
          refine lv_iload_n hx hb dX4_search_26 rfl (lv_at hl 2 rfl) ?_
          refine lv_aload_n hx hb dX4_search_27 rfl (lv_at hl 1 rfl) ?_
          refine tcI (Tc := [(h0, ob 3 [.ref h2, .ref h3, .ref h4, .ref h5, .ref h6, .ref h7, .ref h8, .ref h1, .int h0f8, .int h0f9, .int h0f10, .int h0f11]), (h1, aJ (k 1) 60 anJ), (h2, aJ (k 1) 12000 anJ)]) (Tr := [(h8, aI (k 0) 400 (pfI (h0f10.toInt))), (h7, aI (k 0) 1024 (rgI (-1) (h0f10.toInt - 1)))]) (as := [h0, h1, h2]) (zcV (q0 := 2) (ci := 3) (As := [.int y50, .ref h1]) (rest := []) (Tc := [(h0, ob 3 [.ref h2, .ref h3, .ref h4, .ref h5, .ref h6, .ref h7, .ref h8, .ref h1, .int h0f8, .int h0f9, .int h0f10, .int h0f11]), (h1, aJ (k 1) 60 anJ), (h2, aJ (k 1) 12000 anJ)]) hx hb hml hown hU hK hT rfl rfl [2, 3, 0] rfl (by decide) (cX4_isRow_0bddc l D k _ h0 h1 h2 h3 h4 h5 h6 h7 h8 y50 h0f8 h0f9 h0f10 h0f11 (by omega) (by omega) (by omega) (by omega) (by omega)) w559 w556 w558 w13 w66 hdX4_isRow ⟨rfl, rfl⟩ ⟨Nat.le_of_ble_eq_true rfl, Nat.le_of_ble_eq_true rfl⟩ rfl hl.1 (Nat.le_of_ble_eq_true rfl) dX4_search_28 ⟨Nat.le_of_ble_eq_true rfl, Nat.le_of_ble_eq_true rfl⟩) hT hS hA [2, 3, 0] [1, 4] rfl rfl rfl (by decide) (by decide) (fun r54 H locs hB J hS => ?_)
          obtain ⟨b_r54, hT1⟩ := hB
          have hT := J _ hT1
          have hT : TP D A [(h8, aI (k 0) 400 (pfI (h0f10.toInt))), (h7, aI (k 0) 1024 (rgI (-1) (h0f10.toInt - 1))), (h0, ob 3 [.ref h2, .ref h3, .ref h4, .ref h5, .ref h6, .ref h7, .ref h8, .ref h1, .int h0f8, .int h0f9, .int h0f10, .int h0f11]), (h1, aJ (k 1) 60 anJ), (h2, aJ (k 1) 12000 anJ)] _ := hT
          refine lv_if_eq (tgt := 36) hx hb dX4_search_31 (by decide) (fun c_55 => ?_) (fun c_55 => ?_)
          · skip
            have c_55 := ni_eq c_55 rfl li_0
            refine lv_aload_n hx hb dX4_search_36 rfl (lv_at hl 0 rfl) ?_
            refine tz_get (ci := 3) (v := .ref h8) (C := RX4) (F := TX4) (N := 12) hx hb hU iX4 hown hK hT 2 rfl rfl 6 (by decide) w160 (fun _ h9 => h9) rfl dX4_search_37 ?_
            refine lv_iload_n hx hb dX4_search_40 rfl (lv_at hl 2 rfl) ?_
            refine tz_iald hx hb hK hT 0 rfl (by omega) dX4_search_41 (fun v56 e_v56 => ?_)
            have e_v56 := pf_get e_v56 (by omega)
            refine lv_istore_n (lv' := [(2, .int v56), (0, .ref h0), (1, .ref h1), (3, .int y49)]) hx hb dX4_search_42 rfl hl (by decide) rfl (fun ls hl => ?_)
            obtain ⟨v57, e_v57⟩ : ∃ x : Int32, x = y49 + Int32.ofInt 1 := ⟨_, rfl⟩
            have f_v57 := e_v57.symm
            have e_v57 : v57.toInt = y49.toInt + 1 := ai_add e_v57 rfl (show (Int32.ofInt 1).toInt = 1 from (by decide +kernel)) (by omega)
            refine lv_iinc (v := v57) (lv' := [(3, .int v57), (2, .int v56), (0, .ref h0), (1, .ref h1)]) hx hb dX4_search_43 hl (k := 3) rfl f_v57 (by decide) rfl (fun ls hl => ?_)
            refine lv_goto (tgt := 13) hx hb dX4_search_46 (by decide) ?_
            exact ih13_51 v57 v56 _ _ _ (by omega) (by omega) (by omega) (by omega) (hT.sub [4, 0, 2, 3, 1] (by decide) rfl) hS (lv_sub hl [2, 3, 1, 0] rfl)
          · skip
            have c_55 := ni_ne c_55 rfl li_0
            refine lv_iload_n hx hb dX4_search_34 rfl (lv_at hl 2 rfl) ?_
            exact tz_retI (B := B_cX4_search_4a917 D k h0 h1 h2 h7 h8 h3 h4 h5 h6 h0f8 h0f9 h0f10 h0f11) (v := y50) hQ hx hb hr hlocks hS (Nat.le_of_ble_eq_true rfl) (Nat.le_of_ble_eq_true rfl) dX4_search_35 (⟨(by omega), (hT.sub [2, 3, 4, 1, 0] (by decide) rfl)⟩)
  exact lp13_51 ((h0f10.toInt + (-1) * (0 : Int32).toInt + 1).toNat + 1) (0) v2 _ _ _ (by have := li_0; omega) (by have := li_0; omega) (by have := li_0; omega) (Nat.lt_succ_self _) hT hS (lv_sub hl [2, 3, 1, 0] rfl)
abbrev Rm_cX4_append_fdc74 : Room := { frames := 1, cells := 0, slots := 0, locals := 26 }
abbrev B_cX4_append_fdc74 (D : va_G) (k : Nat → ClassId) (h0 h1 h2 h3 h4 h5 h7 h8 h6 : Nat) (x2 : Int32) (x3 : Int32) (h0f8 : Int32) (h0f9 : Int32) (h0f10 : Int32) (h0f11 : Int32) (A : Nat → Prop) (r : Int32) (H : Heap) : Prop := ∃ o0 : Int32, (2 ≤ o0.toInt ∧ o0.toInt ≤ 400) ∧ ((-1) ≤ r.toInt ∧ r.toInt ≤ 399) ∧ TP D A [(h0, ob 3 [.ref h2, .ref h3, .ref h4, .ref h5, .ref h6, .ref h7, .ref h8, .ref h1, .int h0f8, .int h0f9, .int o0, .int h0f11]), (h1, aJ (k 1) 60 anJ), (h2, aJ (k 1) 12000 anJ), (h3, aI (k 0) 400 anI), (h4, aI (k 0) 400 anI), (h5, aI (k 0) 400 anI), (h7, aI (k 0) 1024 (rgI (-1) (o0.toInt - 1))), (h8, aI (k 0) 400 (pfI (o0.toInt)))] H
set_option maxHeartbeats 4000000 in
set_option maxRecDepth 100000 in
theorem cX4_append_fdc74 (l : Launch) (D : va_G) (k : Nat → ClassId) (sz : Nat) (h0 h1 h2 h3 h4 h5 h7 h8 h6 : Nat) (x2 : Int32) (x3 : Int32) (h0f8 : Int32) (h0f9 : Int32) (h0f10 : Int32) (h0f11 : Int32) (b_x2 : 0 ≤ x2.toInt ∧ x2.toInt ≤ 399) (b_x3 : 0 ≤ x3.toInt ∧ x3.toInt ≤ 3) (b_h0f8 : 1 ≤ h0f8.toInt ∧ h0f8.toInt ≤ 9) (b_h0f9 : 400 ≤ h0f9.toInt ∧ h0f9.toInt ≤ 400) (b_h0f10 : 1 ≤ h0f10.toInt ∧ h0f10.toInt ≤ 400) (b_h0f11 : 0 ≤ h0f11.toInt ∧ h0f11.toInt ≤ 1) : Met l yX4_append (Cond.code yX4_append cX4_append 6 (some .int) :: uw) Rm_cX4_append_fdc74 (pT D k sz [.ref h0, .ref h1, .int x2, .int x3] [(h0, ob 3 [.ref h2, .ref h3, .ref h4, .ref h5, .ref h6, .ref h7, .ref h8, .ref h1, .int h0f8, .int h0f9, .int h0f10, .int h0f11]), (h1, aJ (k 1) 60 anJ), (h2, aJ (k 1) 12000 anJ), (h3, aI (k 0) 400 anI), (h4, aI (k 0) 400 anI), (h5, aI (k 0) 400 anI), (h7, aI (k 0) 1024 (rgI (-1) (h0f10.toInt - 1))), (h8, aI (k 0) 400 (pfI (h0f10.toInt)))]) (qI (B_cX4_append_fdc74 D k h0 h1 h2 h3 h4 h5 h7 h8 h6 x2 x3 h0f8 h0f9 h0f10 h0f11 (zA [h0, h1, h2, h3, h4, h5, h7, h8] sz)) (zA [h0, h1, h2, h3, h4, h5, h7, h8] sz)) 0 0 (zA [h0, h1, h2, h3, h4, h5, h7, h8] sz) := by
  refine tz_begin (as := [h0, h1, h2, h3, h4, h5, h7, h8]) (Qc := fun A => qI (B_cX4_append_fdc74 D k h0 h1 h2 h3 h4 h5 h7 h8 h6 x2 x3 h0f8 h0f9 h0f10 h0f11 A) A) (by decide +kernel) rfl (Nat.le_of_ble_eq_true rfl) ?_
  intro p e s m args below meth c ls A Q hx hb hr hml hown hlocks hin hU hK hT hS hA hl hQ
  have hl : lv_has ls 6 [(0, .ref h0), (1, .ref h1), (2, .int x2), (3, .int x3)] := hl
  have hT : TP D A [(h0, ob 3 [.ref h2, .ref h3, .ref h4, .ref h5, .ref h6, .ref h7, .ref h8, .ref h1, .int h0f8, .int h0f9, .int h0f10, .int h0f11]), (h1, aJ (k 1) 60 anJ), (h2, aJ (k 1) 12000 anJ), (h3, aI (k 0) 400 anI), (h4, aI (k 0) 400 anI), (h5, aI (k 0) 400 anI), (h7, aI (k 0) 1024 (rgI (-1) (h0f10.toInt - 1))), (h8, aI (k 0) 400 (pfI (h0f10.toInt)))] s.heap := hT
  refine lv_aload_n hx hb dX4_append_0 rfl (lv_at hl 0 rfl) ?_
  refine tz_get (ci := 3) (v := .int h0f10) (C := RX4) (F := TX4) (N := 12) hx hb hU iX4 hown hK hT 0 rfl rfl 10 (by decide) w164 (fun _ h9 => h9) rfl dX4_append_1 ?_
  refine lv_aload_n hx hb dX4_append_4 rfl (lv_at hl 0 rfl) ?_
  refine tz_get (ci := 3) (v := .int h0f9) (C := RX4) (F := TX4) (N := 12) hx hb hU iX4 hown hK hT 0 rfl rfl 9 (by decide) w163 (fun _ h9 => h9) rfl dX4_append_5 ?_
  refine lv_icmp_lt (tgt := 13) hx hb dX4_append_8 (by decide) (fun c_1 => ?_) (fun c_1 => ?_)
  · skip
    have c_1 := ni_lt c_1 rfl rfl
    refine lv_aload_n hx hb dX4_append_13 rfl (lv_at hl 0 rfl) ?_
    refine tz_get (ci := 3) (v := .int h0f10) (C := RX4) (F := TX4) (N := 12) hx hb hU iX4 hown hK hT 0 rfl rfl 10 (by decide) w164 (fun _ h9 => h9) rfl dX4_append_14 ?_
    refine lv_istore (lv' := [(4, .int h0f10), (0, .ref h0), (1, .ref h1), (2, .int x2), (3, .int x3)]) hx hb dX4_append_17 hl (by decide) rfl (fun ls hl => ?_)
    refine lv_aload_n hx hb dX4_append_19 rfl (lv_at hl 2 rfl) ?_
    refine lv_iconst (v := 0) hx hb dX4_append_20 (by decide) ?_
    refine lv_aload_n hx hb dX4_append_21 rfl (lv_at hl 1 rfl) ?_
    refine tz_get (ci := 3) (v := .ref h2) (C := RX4) (F := TX4) (N := 12) hx hb hU iX4 hown hK hT 0 rfl rfl 0 (by decide) w149 (fun _ h9 => h9) rfl dX4_append_22 ?_
    refine lv_aload_n hx hb dX4_append_25 rfl (lv_at hl 1 rfl) ?_
    refine lv_iload hx hb dX4_append_26 (lv_at hl 0 rfl) ?_
    refine tcI (Tc := [(h0, ob 3 [.ref h2, .ref h3, .ref h4, .ref h5, .ref h6, .ref h7, .ref h8, .ref h1, .int h0f8, .int h0f9, .int h0f10, .int h0f11])]) (Tr := [(h1, aJ (k 1) 60 anJ), (h2, aJ (k 1) 12000 anJ), (h3, aI (k 0) 400 anI), (h4, aI (k 0) 400 anI), (h5, aI (k 0) 400 anI), (h7, aI (k 0) 1024 (rgI (-1) (h0f10.toInt - 1))), (h8, aI (k 0) 400 (pfI (h0f10.toInt)))]) (as := [h0]) (zcV (q0 := 0) (ci := 3) (As := [.int h0f10]) (rest := [.ref h2, .int 0, .ref h1]) (Tc := [(h0, ob 3 [.ref h2, .ref h3, .ref h4, .ref h5, .ref h6, .ref h7, .ref h8, .ref h1, .int h0f8, .int h0f9, .int h0f10, .int h0f11])]) hx hb hml hown hU hK hT rfl rfl [0] rfl (by decide) (cX4_start_4cfb7 l D k _ h0 h2 h3 h4 h5 h6 h7 h8 h1 h0f10 h0f8 h0f9 h0f10 h0f11 (by omega) (by omega) (by omega) (by omega) (by omega)) w505 w502 w503 w504 w66 hdX4_start ⟨rfl, rfl⟩ ⟨Nat.le_of_ble_eq_true rfl, Nat.le_of_ble_eq_true rfl⟩ rfl hl.1 (Nat.le_of_ble_eq_true rfl) dX4_append_28 ⟨Nat.le_of_ble_eq_true rfl, Nat.le_of_ble_eq_true rfl⟩) hT hS hA [0] [1, 2, 3, 4, 5, 6, 7] rfl rfl rfl (by decide) (by decide) (fun r2 H locs hB J hS => ?_)
    obtain ⟨b_r2, hT1⟩ := hB
    have hT := J _ hT1
    have hT : TP D A [(h1, aJ (k 1) 60 anJ), (h2, aJ (k 1) 12000 anJ), (h3, aI (k 0) 400 anI), (h4, aI (k 0) 400 anI), (h5, aI (k 0) 400 anI), (h7, aI (k 0) 1024 (rgI (-1) (h0f10.toInt - 1))), (h8, aI (k 0) 400 (pfI (h0f10.toInt))), (h0, ob 3 [.ref h2, .ref h3, .ref h4, .ref h5, .ref h6, .ref h7, .ref h8, .ref h1, .int h0f8, .int h0f9, .int h0f10, .int h0f11])] _ := hT
    refine lv_aload_n hx hb dX4_append_31 rfl (lv_at hl 1 rfl) ?_
    refine tz_get (ci := 3) (v := .int h0f8) (C := RX4) (F := TX4) (N := 12) hx hb hU iX4 hown hK hT 7 rfl rfl 8 (by decide) w162 (fun _ h9 => h9) rfl dX4_append_32 ?_
    refine tz_copyl hx hb (by rw [hml]; exact hl.1.symm) hown hU w506 w348 w347 w75 hK hT hS 0 1 rfl rfl (by have := li_0; omega) (fun _ _ _ _ => trivial) (Nat.le_of_ble_eq_true rfl) (Nat.le_of_ble_eq_true rfl) dX4_append_35 (fun H locs hT hS => ?_)
    refine lv_aload_n hx hb dX4_append_38 rfl (lv_at hl 1 rfl) ?_
    refine tz_get (ci := 3) (v := .ref h3) (C := RX4) (F := TX4) (N := 12) hx hb hU iX4 hown hK hT 7 rfl rfl 1 (by decide) w151 (fun _ h9 => h9) rfl dX4_append_39 ?_
    refine lv_iload hx hb dX4_append_42 (lv_at hl 0 rfl) ?_
    refine lv_iload_n hx hb dX4_append_44 rfl (lv_at hl 3 rfl) ?_
    refine tz_iast hx hb hK hT hS 2 rfl (by omega) (fun _ _ => trivial) dX4_append_45 (fun H locs hT hS => ?_)
    refine lv_aload_n hx hb dX4_append_46 rfl (lv_at hl 1 rfl) ?_
    refine tz_get (ci := 3) (v := .ref h4) (C := RX4) (F := TX4) (N := 12) hx hb hU iX4 hown hK hT 7 rfl rfl 2 (by decide) w153 (fun _ h9 => h9) rfl dX4_append_47 ?_
    refine lv_iload hx hb dX4_append_50 (lv_at hl 0 rfl) ?_
    refine lv_iload_n hx hb dX4_append_52 rfl (lv_at hl 4 rfl) ?_
    refine tz_iast hx hb hK hT hS 3 rfl (by omega) (fun _ _ => trivial) dX4_append_53 (fun H locs hT hS => ?_)
    refine lv_aload_n hx hb dX4_append_54 rfl (lv_at hl 1 rfl) ?_
    refine tz_get (ci := 3) (v := .ref h5) (C := RX4) (F := TX4) (N := 12) hx hb hU iX4 hown hK hT 7 rfl rfl 3 (by decide) w155 (fun _ h9 => h9) rfl dX4_append_55 ?_
    refine lv_iload hx hb dX4_append_58 (lv_at hl 0 rfl) ?_
    refine lv_aload_n hx hb dX4_append_60 rfl (lv_at hl 1 rfl) ?_
    refine lv_iload_n hx hb dX4_append_61 rfl (lv_at hl 3 rfl) ?_
    refine tcI (Tc := [(h0, ob 3 [.ref h2, .ref h3, .ref h4, .ref h5, .ref h6, .ref h7, .ref h8, .ref h1, .int h0f8, .int h0f9, .int h0f10, .int h0f11])]) (Tr := [(h1, aJ (k 1) 60 anJ), (h2, aJ (k 1) 12000 anJ), (h3, aI (k 0) 400 anI), (h4, aI (k 0) 400 anI), (h5, aI (k 0) 400 anI), (h7, aI (k 0) 1024 (rgI (-1) (h0f10.toInt - 1))), (h8, aI (k 0) 400 (pfI (h0f10.toInt)))]) (as := [h0]) (zcV (q0 := 7) (ci := 3) (As := [.int x2]) (rest := [.int h0f10, .ref h5]) (Tc := [(h0, ob 3 [.ref h2, .ref h3, .ref h4, .ref h5, .ref h6, .ref h7, .ref h8, .ref h1, .int h0f8, .int h0f9, .int h0f10, .int h0f11])]) hx hb hml hown hU hK hT rfl rfl [7] rfl (by decide) (cX4_has_0fe2d l D k _ h0 h2 h3 h4 h5 h6 h7 h8 h1 x2 h0f8 h0f9 h0f10 h0f11 (by omega) (by omega) (by omega) (by omega) (by omega)) w510 w507 w508 w509 w66 hdX4_has ⟨rfl, rfl⟩ ⟨Nat.le_of_ble_eq_true rfl, Nat.le_of_ble_eq_true rfl⟩ rfl hl.1 (Nat.le_of_ble_eq_true rfl) dX4_append_62 ⟨Nat.le_of_ble_eq_true rfl, Nat.le_of_ble_eq_true rfl⟩) hT hS hA [7] [0, 1, 2, 3, 4, 5, 6] rfl rfl rfl (by decide) (by decide) (fun r3 H locs hB J hS => ?_)
    rcases hB with ⟨rfl, hT1⟩ | ⟨c_4, c_5, rfl, hT1⟩
    · skip
      have hT := J _ hT1
      have hT : TP D A [(h1, aJ (k 1) 60 anJ), (h2, aJ (k 1) 12000 anJ), (h3, aI (k 0) 400 anI), (h4, aI (k 0) 400 anI), (h5, aI (k 0) 400 anI), (h7, aI (k 0) 1024 (rgI (-1) (h0f10.toInt - 1))), (h8, aI (k 0) 400 (pfI (h0f10.toInt))), (h0, ob 3 [.ref h2, .ref h3, .ref h4, .ref h5, .ref h6, .ref h7, .ref h8, .ref h1, .int h0f8, .int h0f9, .int h0f10, .int h0f11])] _ := hT
      refine lv_if_eq (tgt := 79) hx hb dX4_append_65 (by decide) (fun _ => ?_) (fun cc => absurd (by decide +kernel) cc)
      refine lv_iconst (v := 0) hx hb dX4_append_79 (by decide) ?_
      refine tz_iast hx hb hK hT hS 4 rfl (by omega) (fun _ _ => trivial) dX4_append_80 (fun H locs hT hS => ?_)
      refine lv_aload_n hx hb dX4_append_81 rfl (lv_at hl 1 rfl) ?_
      refine lv_aload_n hx hb dX4_append_82 rfl (lv_at hl 2 rfl) ?_
      refine tcI (Tc := [(h0, ob 3 [.ref h2, .ref h3, .ref h4, .ref h5, .ref h6, .ref h7, .ref h8, .ref h1, .int h0f8, .int h0f9, .int h0f10, .int h0f11]), (h1, aJ (k 1) 60 anJ), (h7, aI (k 0) 1024 (rgI (-1) (h0f10.toInt - 1)))]) (Tr := [(h2, aJ (k 1) 12000 anJ), (h3, aI (k 0) 400 anI), (h4, aI (k 0) 400 anI), (h5, aI (k 0) 400 anI), (h8, aI (k 0) 400 (pfI (h0f10.toInt)))]) (as := [h0, h1, h7]) (zcV (q0 := 7) (ci := 3) (As := [.ref h1]) (rest := []) (Tc := [(h0, ob 3 [.ref h2, .ref h3, .ref h4, .ref h5, .ref h6, .ref h7, .ref h8, .ref h1, .int h0f8, .int h0f9, .int h0f10, .int h0f11]), (h1, aJ (k 1) 60 anJ), (h7, aI (k 0) 1024 (rgI (-1) (h0f10.toInt - 1)))]) hx hb hml hown hU hK hT rfl rfl [7, 0, 5] rfl (by decide) (cX4_slotOf_77940 l D k _ h0 h1 h7 h2 h3 h4 h5 h6 h8 h0f8 h0f9 h0f10 h0f11 (by omega) (by omega) (by omega) (by omega)) w514 w511 w513 w11 w66 hdX4_slotOf ⟨rfl, rfl⟩ ⟨Nat.le_of_ble_eq_true rfl, Nat.le_of_ble_eq_true rfl⟩ rfl hl.1 (Nat.le_of_ble_eq_true rfl) dX4_append_83 ⟨Nat.le_of_ble_eq_true rfl, Nat.le_of_ble_eq_true rfl⟩) hT hS hA [7, 0, 5] [1, 2, 3, 4, 6] rfl rfl rfl (by decide) (by decide) (fun r6 H locs hB J hS => ?_)
      obtain ⟨b_r6, hT1⟩ := hB
      have hT := J _ hT1
      have hT : TP D A [(h2, aJ (k 1) 12000 anJ), (h3, aI (k 0) 400 anI), (h4, aI (k 0) 400 anI), (h5, aI (k 0) 400 anI), (h8, aI (k 0) 400 (pfI (h0f10.toInt))), (h0, ob 3 [.ref h2, .ref h3, .ref h4, .ref h5, .ref h6, .ref h7, .ref h8, .ref h1, .int h0f8, .int h0f9, .int h0f10, .int h0f11]), (h1, aJ (k 1) 60 anJ), (h7, aI (k 0) 1024 (rgI (-1) (h0f10.toInt - 1)))] _ := hT
      refine lv_istore (lv' := [(5, .int r6), (4, .int h0f10), (0, .ref h0), (1, .ref h1), (2, .int x2), (3, .int x3)]) hx hb dX4_append_86 hl (by decide) rfl (fun ls hl => ?_)
      refine lv_aload_n hx hb dX4_append_88 rfl (lv_at hl 2 rfl) ?_
      refine tz_get (ci := 3) (v := .ref h8) (C := RX4) (F := TX4) (N := 12) hx hb hU iX4 hown hK hT 5 rfl rfl 6 (by decide) w160 (fun _ h9 => h9) rfl dX4_append_89 ?_
      refine lv_iload hx hb dX4_append_92 (lv_at hl 1 rfl) ?_
      refine lv_aload_n hx hb dX4_append_94 rfl (lv_at hl 2 rfl) ?_
      refine tz_get (ci := 3) (v := .ref h7) (C := RX4) (F := TX4) (N := 12) hx hb hU iX4 hown hK hT 5 rfl rfl 5 (by decide) w159 (fun _ h9 => h9) rfl dX4_append_95 ?_
      refine lv_iload hx hb dX4_append_98 (lv_at hl 0 rfl) ?_
      refine tz_iald hx hb hK hT 7 rfl (by omega) dX4_append_100 (fun v7 e_v7 => ?_)
      have e_v7 := rg_get e_v7
      refine tz_iastP hx hb hK hT hS 4 (pfI (h0f10.toInt + 1)) rfl (by omega) (pf_put (by omega) (by omega)) dX4_append_101 (fun H locs hT hS => ?_)
      have hT : TP D A [(h2, aJ (k 1) 12000 anJ), (h3, aI (k 0) 400 anI), (h4, aI (k 0) 400 anI), (h5, aI (k 0) 400 anI), (h8, aI (k 0) 400 (pfI (h0f10.toInt + 1))), (h0, ob 3 [.ref h2, .ref h3, .ref h4, .ref h5, .ref h6, .ref h7, .ref h8, .ref h1, .int h0f8, .int h0f9, .int h0f10, .int h0f11]), (h1, aJ (k 1) 60 anJ), (h7, aI (k 0) 1024 (rgI (-1) (h0f10.toInt - 1)))] _ := hT
      refine lv_aload_n hx hb dX4_append_102 rfl (lv_at hl 2 rfl) ?_
      refine tz_get (ci := 3) (v := .ref h7) (C := RX4) (F := TX4) (N := 12) hx hb hU iX4 hown hK hT 5 rfl rfl 5 (by decide) w159 (fun _ h9 => h9) rfl dX4_append_103 ?_
      refine lv_iload hx hb dX4_append_106 (lv_at hl 0 rfl) ?_
      refine lv_iload hx hb dX4_append_108 (lv_at hl 1 rfl) ?_
      refine tz_iastP hx hb hK hT hS 7 (rgI (-1) (h0f10.toInt + 1 - 1)) rfl (by omega) (rg_put2 (by omega)) dX4_append_110 (fun H locs hT hS => ?_)
      have hT : TP D A [(h2, aJ (k 1) 12000 anJ), (h3, aI (k 0) 400 anI), (h4, aI (k 0) 400 anI), (h5, aI (k 0) 400 anI), (h8, aI (k 0) 400 (pfI (h0f10.toInt + 1))), (h0, ob 3 [.ref h2, .ref h3, .ref h4, .ref h5, .ref h6, .ref h7, .ref h8, .ref h1, .int h0f8, .int h0f9, .int h0f10, .int h0f11]), (h1, aJ (k 1) 60 anJ), (h7, aI (k 0) 1024 (rgI (-1) (h0f10.toInt + 1 - 1)))] _ := hT
      refine lv_aload_n hx hb dX4_append_111 rfl (lv_at hl 2 rfl) ?_
      refine lv_dup hx hb dX4_append_112 rfl ?_
      refine tz_get (ci := 3) (v := .int h0f10) (C := RX4) (F := TX4) (N := 12) hx hb hU iX4 hown hK hT 5 rfl rfl 10 (by decide) w164 (fun _ h9 => h9) rfl dX4_append_113 ?_
      refine lv_iconst (v := 1) hx hb dX4_append_116 (by decide) ?_
      refine lv_iadd hx hb dX4_append_117 (lv_topi (fun v8 e_v8 => ?_))
      have e_v8 := ai_add e_v8 rfl li_1 (by omega)
      refine tz_put (ci := 3) (v := .int v8) (ty := .int) (C := RX4) (F := TX4) (N := 12) hx hb hU iX4 tyX4 tyX4_ok nmX4 hown hK hT hS 5 rfl rfl 10 (by decide) w164 (fun _ h9 => h9) rfl (by decide +kernel) rfl rfl (Nat.le_of_ble_eq_true rfl) dX4_append_118 (fun H locs hT hS => ?_)
      have hT : TP D A [(h2, aJ (k 1) 12000 anJ), (h3, aI (k 0) 400 anI), (h4, aI (k 0) 400 anI), (h5, aI (k 0) 400 anI), (h8, aI (k 0) 400 (pfI (h0f10.toInt + 1))), (h0, ob 3 [.ref h2, .ref h3, .ref h4, .ref h5, .ref h6, .ref h7, .ref h8, .ref h1, .int h0f8, .int h0f9, .int v8, .int h0f11]), (h1, aJ (k 1) 60 anJ), (h7, aI (k 0) 1024 (rgI (-1) (h0f10.toInt + 1 - 1)))] _ := hT
      refine lv_iload hx hb dX4_append_121 (lv_at hl 1 rfl) ?_
      have hT := hT.wk (q := 4) (P' := aI (k 0) 400 (pfI (v8.toInt))) rfl (pf_eq (by omega))
      have hT : TP D A [(h2, aJ (k 1) 12000 anJ), (h3, aI (k 0) 400 anI), (h4, aI (k 0) 400 anI), (h5, aI (k 0) 400 anI), (h8, aI (k 0) 400 (pfI (v8.toInt))), (h0, ob 3 [.ref h2, .ref h3, .ref h4, .ref h5, .ref h6, .ref h7, .ref h8, .ref h1, .int h0f8, .int h0f9, .int v8, .int h0f11]), (h1, aJ (k 1) 60 anJ), (h7, aI (k 0) 1024 (rgI (-1) (h0f10.toInt + 1 - 1)))] _ := hT
      have hT := hT.wk (q := 7) (P' := aI (k 0) 1024 (rgI (-1) (v8.toInt - 1))) rfl (sl_eq (by omega))
      have hT : TP D A [(h2, aJ (k 1) 12000 anJ), (h3, aI (k 0) 400 anI), (h4, aI (k 0) 400 anI), (h5, aI (k 0) 400 anI), (h8, aI (k 0) 400 (pfI (v8.toInt))), (h0, ob 3 [.ref h2, .ref h3, .ref h4, .ref h5, .ref h6, .ref h7, .ref h8, .ref h1, .int h0f8, .int h0f9, .int v8, .int h0f11]), (h1, aJ (k 1) 60 anJ), (h7, aI (k 0) 1024 (rgI (-1) (v8.toInt - 1)))] _ := hT
      exact tz_retI (B := B_cX4_append_fdc74 D k h0 h1 h2 h3 h4 h5 h7 h8 h6 x2 x3 h0f8 h0f9 h0f10 h0f11) (v := h0f10) hQ hx hb hr hlocks hS (Nat.le_of_ble_eq_true rfl) (Nat.le_of_ble_eq_true rfl) dX4_append_123 (⟨v8, (by omega), (by omega), (hT.sub [5, 6, 0, 1, 2, 3, 7, 4] (by decide) rfl)⟩)
    · skip
      have hT := J _ hT1
      have hT : TP D A [(h1, aJ (k 1) 60 anJ), (h2, aJ (k 1) 12000 anJ), (h3, aI (k 0) 400 anI), (h4, aI (k 0) 400 anI), (h5, aI (k 0) 400 anI), (h7, aI (k 0) 1024 (rgI (-1) (h0f10.toInt - 1))), (h8, aI (k 0) 400 (pfI (h0f10.toInt))), (h0, ob 3 [.ref h2, .ref h3, .ref h4, .ref h5, .ref h6, .ref h7, .ref h8, .ref h1, .int h0f8, .int h0f9, .int h0f10, .int h0f11])] _ := hT
      refine lv_if_eq (tgt := 79) hx hb dX4_append_65 (by decide) (fun cc => absurd cc (by decide +kernel)) (fun _ => ?_)
      refine lv_aload_n hx hb dX4_append_68 rfl (lv_at hl 1 rfl) ?_
      refine tz_get (ci := 3) (v := .ref h5) (C := RX4) (F := TX4) (N := 12) hx hb hU iX4 hown hK hT 7 rfl rfl 3 (by decide) w155 (fun _ h9 => h9) rfl dX4_append_69 ?_
      refine lv_iload_n hx hb dX4_append_72 rfl (lv_at hl 3 rfl) ?_
      refine tz_iald hx hb hK hT 4 rfl (by omega) dX4_append_73 (fun v9 e_v9 => ?_)
      clear e_v9
      refine lv_iconst (v := 1) hx hb dX4_append_74 (by decide) ?_
      refine lv_iadd hx hb dX4_append_75 (lv_topi (fun v10 e_v10 => ?_))
      refine lv_goto (tgt := 80) hx hb dX4_append_76 (by decide) ?_
      refine tz_iast hx hb hK hT hS 4 rfl (by omega) (fun _ _ => trivial) dX4_append_80 (fun H locs hT hS => ?_)
      refine lv_aload_n hx hb dX4_append_81 rfl (lv_at hl 1 rfl) ?_
      refine lv_aload_n hx hb dX4_append_82 rfl (lv_at hl 2 rfl) ?_
      refine tcI (Tc := [(h0, ob 3 [.ref h2, .ref h3, .ref h4, .ref h5, .ref h6, .ref h7, .ref h8, .ref h1, .int h0f8, .int h0f9, .int h0f10, .int h0f11]), (h1, aJ (k 1) 60 anJ), (h7, aI (k 0) 1024 (rgI (-1) (h0f10.toInt - 1)))]) (Tr := [(h2, aJ (k 1) 12000 anJ), (h3, aI (k 0) 400 anI), (h4, aI (k 0) 400 anI), (h5, aI (k 0) 400 anI), (h8, aI (k 0) 400 (pfI (h0f10.toInt)))]) (as := [h0, h1, h7]) (zcV (q0 := 7) (ci := 3) (As := [.ref h1]) (rest := []) (Tc := [(h0, ob 3 [.ref h2, .ref h3, .ref h4, .ref h5, .ref h6, .ref h7, .ref h8, .ref h1, .int h0f8, .int h0f9, .int h0f10, .int h0f11]), (h1, aJ (k 1) 60 anJ), (h7, aI (k 0) 1024 (rgI (-1) (h0f10.toInt - 1)))]) hx hb hml hown hU hK hT rfl rfl [7, 0, 5] rfl (by decide) (cX4_slotOf_77940 l D k _ h0 h1 h7 h2 h3 h4 h5 h6 h8 h0f8 h0f9 h0f10 h0f11 (by omega) (by omega) (by omega) (by omega)) w514 w511 w513 w11 w66 hdX4_slotOf ⟨rfl, rfl⟩ ⟨Nat.le_of_ble_eq_true rfl, Nat.le_of_ble_eq_true rfl⟩ rfl hl.1 (Nat.le_of_ble_eq_true rfl) dX4_append_83 ⟨Nat.le_of_ble_eq_true rfl, Nat.le_of_ble_eq_true rfl⟩) hT hS hA [7, 0, 5] [1, 2, 3, 4, 6] rfl rfl rfl (by decide) (by decide) (fun r11 H locs hB J hS => ?_)
      obtain ⟨b_r11, hT1⟩ := hB
      have hT := J _ hT1
      have hT : TP D A [(h2, aJ (k 1) 12000 anJ), (h3, aI (k 0) 400 anI), (h4, aI (k 0) 400 anI), (h5, aI (k 0) 400 anI), (h8, aI (k 0) 400 (pfI (h0f10.toInt))), (h0, ob 3 [.ref h2, .ref h3, .ref h4, .ref h5, .ref h6, .ref h7, .ref h8, .ref h1, .int h0f8, .int h0f9, .int h0f10, .int h0f11]), (h1, aJ (k 1) 60 anJ), (h7, aI (k 0) 1024 (rgI (-1) (h0f10.toInt - 1)))] _ := hT
      refine lv_istore (lv' := [(5, .int r11), (4, .int h0f10), (0, .ref h0), (1, .ref h1), (2, .int x2), (3, .int x3)]) hx hb dX4_append_86 hl (by decide) rfl (fun ls hl => ?_)
      refine lv_aload_n hx hb dX4_append_88 rfl (lv_at hl 2 rfl) ?_
      refine tz_get (ci := 3) (v := .ref h8) (C := RX4) (F := TX4) (N := 12) hx hb hU iX4 hown hK hT 5 rfl rfl 6 (by decide) w160 (fun _ h9 => h9) rfl dX4_append_89 ?_
      refine lv_iload hx hb dX4_append_92 (lv_at hl 1 rfl) ?_
      refine lv_aload_n hx hb dX4_append_94 rfl (lv_at hl 2 rfl) ?_
      refine tz_get (ci := 3) (v := .ref h7) (C := RX4) (F := TX4) (N := 12) hx hb hU iX4 hown hK hT 5 rfl rfl 5 (by decide) w159 (fun _ h9 => h9) rfl dX4_append_95 ?_
      refine lv_iload hx hb dX4_append_98 (lv_at hl 0 rfl) ?_
      refine tz_iald hx hb hK hT 7 rfl (by omega) dX4_append_100 (fun v12 e_v12 => ?_)
      have e_v12 := rg_get e_v12
      refine tz_iastP hx hb hK hT hS 4 (pfI (h0f10.toInt + 1)) rfl (by omega) (pf_put (by omega) (by omega)) dX4_append_101 (fun H locs hT hS => ?_)
      have hT : TP D A [(h2, aJ (k 1) 12000 anJ), (h3, aI (k 0) 400 anI), (h4, aI (k 0) 400 anI), (h5, aI (k 0) 400 anI), (h8, aI (k 0) 400 (pfI (h0f10.toInt + 1))), (h0, ob 3 [.ref h2, .ref h3, .ref h4, .ref h5, .ref h6, .ref h7, .ref h8, .ref h1, .int h0f8, .int h0f9, .int h0f10, .int h0f11]), (h1, aJ (k 1) 60 anJ), (h7, aI (k 0) 1024 (rgI (-1) (h0f10.toInt - 1)))] _ := hT
      refine lv_aload_n hx hb dX4_append_102 rfl (lv_at hl 2 rfl) ?_
      refine tz_get (ci := 3) (v := .ref h7) (C := RX4) (F := TX4) (N := 12) hx hb hU iX4 hown hK hT 5 rfl rfl 5 (by decide) w159 (fun _ h9 => h9) rfl dX4_append_103 ?_
      refine lv_iload hx hb dX4_append_106 (lv_at hl 0 rfl) ?_
      refine lv_iload hx hb dX4_append_108 (lv_at hl 1 rfl) ?_
      refine tz_iastP hx hb hK hT hS 7 (rgI (-1) (h0f10.toInt + 1 - 1)) rfl (by omega) (rg_put2 (by omega)) dX4_append_110 (fun H locs hT hS => ?_)
      have hT : TP D A [(h2, aJ (k 1) 12000 anJ), (h3, aI (k 0) 400 anI), (h4, aI (k 0) 400 anI), (h5, aI (k 0) 400 anI), (h8, aI (k 0) 400 (pfI (h0f10.toInt + 1))), (h0, ob 3 [.ref h2, .ref h3, .ref h4, .ref h5, .ref h6, .ref h7, .ref h8, .ref h1, .int h0f8, .int h0f9, .int h0f10, .int h0f11]), (h1, aJ (k 1) 60 anJ), (h7, aI (k 0) 1024 (rgI (-1) (h0f10.toInt + 1 - 1)))] _ := hT
      refine lv_aload_n hx hb dX4_append_111 rfl (lv_at hl 2 rfl) ?_
      refine lv_dup hx hb dX4_append_112 rfl ?_
      refine tz_get (ci := 3) (v := .int h0f10) (C := RX4) (F := TX4) (N := 12) hx hb hU iX4 hown hK hT 5 rfl rfl 10 (by decide) w164 (fun _ h9 => h9) rfl dX4_append_113 ?_
      refine lv_iconst (v := 1) hx hb dX4_append_116 (by decide) ?_
      refine lv_iadd hx hb dX4_append_117 (lv_topi (fun v13 e_v13 => ?_))
      have e_v13 := ai_add e_v13 rfl li_1 (by omega)
      refine tz_put (ci := 3) (v := .int v13) (ty := .int) (C := RX4) (F := TX4) (N := 12) hx hb hU iX4 tyX4 tyX4_ok nmX4 hown hK hT hS 5 rfl rfl 10 (by decide) w164 (fun _ h9 => h9) rfl (by decide +kernel) rfl rfl (Nat.le_of_ble_eq_true rfl) dX4_append_118 (fun H locs hT hS => ?_)
      have hT : TP D A [(h2, aJ (k 1) 12000 anJ), (h3, aI (k 0) 400 anI), (h4, aI (k 0) 400 anI), (h5, aI (k 0) 400 anI), (h8, aI (k 0) 400 (pfI (h0f10.toInt + 1))), (h0, ob 3 [.ref h2, .ref h3, .ref h4, .ref h5, .ref h6, .ref h7, .ref h8, .ref h1, .int h0f8, .int h0f9, .int v13, .int h0f11]), (h1, aJ (k 1) 60 anJ), (h7, aI (k 0) 1024 (rgI (-1) (h0f10.toInt + 1 - 1)))] _ := hT
      refine lv_iload hx hb dX4_append_121 (lv_at hl 1 rfl) ?_
      have hT := hT.wk (q := 4) (P' := aI (k 0) 400 (pfI (v13.toInt))) rfl (pf_eq (by omega))
      have hT : TP D A [(h2, aJ (k 1) 12000 anJ), (h3, aI (k 0) 400 anI), (h4, aI (k 0) 400 anI), (h5, aI (k 0) 400 anI), (h8, aI (k 0) 400 (pfI (v13.toInt))), (h0, ob 3 [.ref h2, .ref h3, .ref h4, .ref h5, .ref h6, .ref h7, .ref h8, .ref h1, .int h0f8, .int h0f9, .int v13, .int h0f11]), (h1, aJ (k 1) 60 anJ), (h7, aI (k 0) 1024 (rgI (-1) (h0f10.toInt + 1 - 1)))] _ := hT
      have hT := hT.wk (q := 7) (P' := aI (k 0) 1024 (rgI (-1) (v13.toInt - 1))) rfl (sl_eq (by omega))
      have hT : TP D A [(h2, aJ (k 1) 12000 anJ), (h3, aI (k 0) 400 anI), (h4, aI (k 0) 400 anI), (h5, aI (k 0) 400 anI), (h8, aI (k 0) 400 (pfI (v13.toInt))), (h0, ob 3 [.ref h2, .ref h3, .ref h4, .ref h5, .ref h6, .ref h7, .ref h8, .ref h1, .int h0f8, .int h0f9, .int v13, .int h0f11]), (h1, aJ (k 1) 60 anJ), (h7, aI (k 0) 1024 (rgI (-1) (v13.toInt - 1)))] _ := hT
      exact tz_retI (B := B_cX4_append_fdc74 D k h0 h1 h2 h3 h4 h5 h7 h8 h6 x2 x3 h0f8 h0f9 h0f10 h0f11) (v := h0f10) hQ hx hb hr hlocks hS (Nat.le_of_ble_eq_true rfl) (Nat.le_of_ble_eq_true rfl) dX4_append_123 (⟨v13, (by omega), (by omega), (hT.sub [5, 6, 0, 1, 2, 3, 7, 4] (by decide) rfl)⟩)
  · skip
    have c_1 := ni_nlt c_1 rfl rfl
    refine lv_iconst (v := (-1)) hx hb dX4_append_11 (by decide) ?_
    exact tz_retI (B := B_cX4_append_fdc74 D k h0 h1 h2 h3 h4 h5 h7 h8 h6 x2 x3 h0f8 h0f9 h0f10 h0f11) (v := (-1)) hQ hx hb hr hlocks hS (Nat.le_of_ble_eq_true rfl) (Nat.le_of_ble_eq_true rfl) dX4_append_12 (⟨h0f10, (by have := li_m1; omega), (by have := li_m1; omega), hT⟩)
abbrev Rm_cX4_lead_2f125 : Room := { frames := 3, cells := 0, slots := 0, locals := 80 }
abbrev B_cX4_lead_2f125 (D : va_G) (k : Nat → ClassId) (h0 h1 h2 h3 h4 h5 h7 h8 h9 h10 h11 h6 : Nat) (x2 : Int32) (x3 : Int32) (h0f8 : Int32) (h0f9 : Int32) (h0f10 : Int32) (h0f11 : Int32) (h1f1 : Int32) (h10f0 : Int32) (h10f1 : Int32) (h10f2 : Int32) (A : Nat → Prop) (r : Int32) (H : Heap) : Prop := ∃ o0 : Int32, (1 ≤ o0.toInt ∧ o0.toInt ≤ 400) ∧ ((-1) ≤ r.toInt ∧ r.toInt ≤ 399) ∧ TP D A [(h0, ob 3 [.ref h2, .ref h3, .ref h4, .ref h5, .ref h6, .ref h7, .ref h8, .ref h9, .int h0f8, .int h0f9, .int o0, .int h0f11]), (h1, ob 2 [.ref h10, .int h1f1]), (h2, aJ (k 1) 12000 anJ), (h3, aI (k 0) 400 anI), (h4, aI (k 0) 400 anI), (h5, aI (k 0) 400 anI), (h7, aI (k 0) 1024 (rgI (-1) (o0.toInt - 1))), (h8, aI (k 0) 400 (pfI (o0.toInt))), (h9, aJ (k 1) 60 anJ), (h10, ob 4 [.int h10f0, .int h10f1, .int h10f2, .ref h11]), (h11, aJ (k 1) 36 anJ)] H
set_option maxHeartbeats 4000000 in
set_option maxRecDepth 100000 in
theorem cX4_lead_2f125 (l : Launch) (D : va_G) (k : Nat → ClassId) (sz : Nat) (h0 h1 h2 h3 h4 h5 h7 h8 h9 h10 h11 h6 : Nat) (x2 : Int32) (x3 : Int32) (h0f8 : Int32) (h0f9 : Int32) (h0f10 : Int32) (h0f11 : Int32) (h1f1 : Int32) (h10f0 : Int32) (h10f1 : Int32) (h10f2 : Int32) (b_x2 : 0 ≤ x2.toInt ∧ x2.toInt ≤ 399) (b_x3 : 0 ≤ x3.toInt ∧ x3.toInt ≤ 3) (b_h0f8 : 1 ≤ h0f8.toInt ∧ h0f8.toInt ≤ 9) (b_h0f9 : 400 ≤ h0f9.toInt ∧ h0f9.toInt ≤ 400) (b_h0f10 : 1 ≤ h0f10.toInt ∧ h0f10.toInt ≤ 400) (b_h0f11 : 0 ≤ h0f11.toInt ∧ h0f11.toInt ≤ 1) (b_h1f1 : 2 ≤ h1f1.toInt ∧ h1f1.toInt ≤ 7) (b_h10f0 : 1 ≤ h10f0.toInt ∧ h10f0.toInt ≤ 3) (b_h10f1 : 0 ≤ h10f1.toInt ∧ h10f1.toInt ≤ 4) : Met l yX4_lead (Cond.code yX4_lead cX4_lead 5 (some .int) :: uw) Rm_cX4_lead_2f125 (pT D k sz [.ref h0, .ref h1, .int x2, .int x3] [(h0, ob 3 [.ref h2, .ref h3, .ref h4, .ref h5, .ref h6, .ref h7, .ref h8, .ref h9, .int h0f8, .int h0f9, .int h0f10, .int h0f11]), (h1, ob 2 [.ref h10, .int h1f1]), (h2, aJ (k 1) 12000 anJ), (h3, aI (k 0) 400 anI), (h4, aI (k 0) 400 anI), (h5, aI (k 0) 400 anI), (h7, aI (k 0) 1024 (rgI (-1) (h0f10.toInt - 1))), (h8, aI (k 0) 400 (pfI (h0f10.toInt))), (h9, aJ (k 1) 60 anJ), (h10, ob 4 [.int h10f0, .int h10f1, .int h10f2, .ref h11]), (h11, aJ (k 1) 36 anJ)]) (qI (B_cX4_lead_2f125 D k h0 h1 h2 h3 h4 h5 h7 h8 h9 h10 h11 h6 x2 x3 h0f8 h0f9 h0f10 h0f11 h1f1 h10f0 h10f1 h10f2 (zA [h0, h1, h2, h3, h4, h5, h7, h8, h9, h10, h11] sz)) (zA [h0, h1, h2, h3, h4, h5, h7, h8, h9, h10, h11] sz)) 0 0 (zA [h0, h1, h2, h3, h4, h5, h7, h8, h9, h10, h11] sz) := by
  refine tz_begin (as := [h0, h1, h2, h3, h4, h5, h7, h8, h9, h10, h11]) (Qc := fun A => qI (B_cX4_lead_2f125 D k h0 h1 h2 h3 h4 h5 h7 h8 h9 h10 h11 h6 x2 x3 h0f8 h0f9 h0f10 h0f11 h1f1 h10f0 h10f1 h10f2 A) A) (by decide +kernel) rfl (Nat.le_of_ble_eq_true rfl) ?_
  intro p e s m args below meth c ls A Q hx hb hr hml hown hlocks hin hU hK hT hS hA hl hQ
  have hl : lv_has ls 5 [(0, .ref h0), (1, .ref h1), (2, .int x2), (3, .int x3)] := hl
  have hT : TP D A [(h0, ob 3 [.ref h2, .ref h3, .ref h4, .ref h5, .ref h6, .ref h7, .ref h8, .ref h9, .int h0f8, .int h0f9, .int h0f10, .int h0f11]), (h1, ob 2 [.ref h10, .int h1f1]), (h2, aJ (k 1) 12000 anJ), (h3, aI (k 0) 400 anI), (h4, aI (k 0) 400 anI), (h5, aI (k 0) 400 anI), (h7, aI (k 0) 1024 (rgI (-1) (h0f10.toInt - 1))), (h8, aI (k 0) 400 (pfI (h0f10.toInt))), (h9, aJ (k 1) 60 anJ), (h10, ob 4 [.int h10f0, .int h10f1, .int h10f2, .ref h11]), (h11, aJ (k 1) 36 anJ)] s.heap := hT
  refine lv_aload_n hx hb dX4_lead_0 rfl (lv_at hl 1 rfl) ?_
  refine lv_aload_n hx hb dX4_lead_1 rfl (lv_at hl 0 rfl) ?_
  refine tz_get (ci := 3) (v := .ref h2) (C := RX4) (F := TX4) (N := 12) hx hb hU iX4 hown hK hT 0 rfl rfl 0 (by decide) w149 (fun _ h9 => h9) rfl dX4_lead_2 ?_
  refine lv_aload_n hx hb dX4_lead_5 rfl (lv_at hl 0 rfl) ?_
  refine lv_iload_n hx hb dX4_lead_6 rfl (lv_at hl 2 rfl) ?_
  refine tcI (Tc := [(h0, ob 3 [.ref h2, .ref h3, .ref h4, .ref h5, .ref h6, .ref h7, .ref h8, .ref h9, .int h0f8, .int h0f9, .int h0f10, .int h0f11])]) (Tr := [(h1, ob 2 [.ref h10, .int h1f1]), (h2, aJ (k 1) 12000 anJ), (h3, aI (k 0) 400 anI), (h4, aI (k 0) 400 anI), (h5, aI (k 0) 400 anI), (h7, aI (k 0) 1024 (rgI (-1) (h0f10.toInt - 1))), (h8, aI (k 0) 400 (pfI (h0f10.toInt))), (h9, aJ (k 1) 60 anJ), (h10, ob 4 [.int h10f0, .int h10f1, .int h10f2, .ref h11]), (h11, aJ (k 1) 36 anJ)]) (as := [h0]) (zcV (q0 := 0) (ci := 3) (As := [.int x2]) (rest := [.ref h2, .ref h1]) (Tc := [(h0, ob 3 [.ref h2, .ref h3, .ref h4, .ref h5, .ref h6, .ref h7, .ref h8, .ref h9, .int h0f8, .int h0f9, .int h0f10, .int h0f11])]) hx hb hml hown hU hK hT rfl rfl [0] rfl (by decide) (cX4_start_4cfb7 l D k _ h0 h2 h3 h4 h5 h6 h7 h8 h9 x2 h0f8 h0f9 h0f10 h0f11 (by omega) (by omega) (by omega) (by omega) (by omega)) w505 w502 w503 w504 w66 hdX4_start ⟨rfl, rfl⟩ ⟨Nat.le_of_ble_eq_true rfl, Nat.le_of_ble_eq_true rfl⟩ rfl hl.1 (Nat.le_of_ble_eq_true rfl) dX4_lead_7 ⟨Nat.le_of_ble_eq_true rfl, Nat.le_of_ble_eq_true rfl⟩) hT hS hA [0] [1, 2, 3, 4, 5, 6, 7, 8, 9, 10] rfl rfl rfl (by decide) (by decide) (fun r1 H locs hB J hS => ?_)
  obtain ⟨b_r1, hT1⟩ := hB
  have hT := J _ hT1
  have hT : TP D A [(h1, ob 2 [.ref h10, .int h1f1]), (h2, aJ (k 1) 12000 anJ), (h3, aI (k 0) 400 anI), (h4, aI (k 0) 400 anI), (h5, aI (k 0) 400 anI), (h7, aI (k 0) 1024 (rgI (-1) (h0f10.toInt - 1))), (h8, aI (k 0) 400 (pfI (h0f10.toInt))), (h9, aJ (k 1) 60 anJ), (h10, ob 4 [.int h10f0, .int h10f1, .int h10f2, .ref h11]), (h11, aJ (k 1) 36 anJ), (h0, ob 3 [.ref h2, .ref h3, .ref h4, .ref h5, .ref h6, .ref h7, .ref h8, .ref h9, .int h0f8, .int h0f9, .int h0f10, .int h0f11])] _ := hT
  refine lv_iload_n hx hb dX4_lead_10 rfl (lv_at hl 3 rfl) ?_
  refine lv_aload_n hx hb dX4_lead_11 rfl (lv_at hl 0 rfl) ?_
  refine tz_get (ci := 3) (v := .ref h9) (C := RX4) (F := TX4) (N := 12) hx hb hU iX4 hown hK hT 10 rfl rfl 7 (by decide) w161 (fun _ h9 => h9) rfl dX4_lead_12 ?_
  refine tcI (Tc := [(h1, ob 2 [.ref h10, .int h1f1]), (h2, aJ (k 1) 12000 anJ), (h9, aJ (k 1) 60 anJ), (h10, ob 4 [.int h10f0, .int h10f1, .int h10f2, .ref h11]), (h11, aJ (k 1) 36 anJ)]) (Tr := [(h3, aI (k 0) 400 anI), (h4, aI (k 0) 400 anI), (h5, aI (k 0) 400 anI), (h7, aI (k 0) 1024 (rgI (-1) (h0f10.toInt - 1))), (h8, aI (k 0) 400 (pfI (h0f10.toInt))), (h0, ob 3 [.ref h2, .ref h3, .ref h4, .ref h5, .ref h6, .ref h7, .ref h8, .ref h9, .int h0f8, .int h0f9, .int h0f10, .int h0f11])]) (as := [h1, h2, h9, h10, h11]) (zcA (q0 := 0) (ci := 2) (As := [.ref h2, .int r1, .int x3, .ref h9]) (rest := []) (Tc := [(h1, ob 2 [.ref h10, .int h1f1]), (h2, aJ (k 1) 12000 anJ), (h9, aJ (k 1) 60 anJ), (h10, ob 4 [.int h10f0, .int h10f1, .int h10f2, .ref h11]), (h11, aJ (k 1) 36 anJ)]) hx hb hml hown hU hK hT rfl rfl [0, 1, 7, 8, 9] rfl (by decide) (cX2_go_a0f55 l D k _ h1 h2 h9 h10 h11 r1 x3 h1f1 h10f0 h10f1 h10f2 (by omega) (by omega) (by omega) (by omega) (by omega)) w541 w524 wStepSame w539 w540 w68 hdX2_go ⟨rfl, rfl⟩ ⟨Nat.le_of_ble_eq_true rfl, Nat.le_of_ble_eq_true rfl⟩ rfl hl.1 (Nat.le_of_ble_eq_true rfl) dX4_lead_15 ⟨Nat.le_of_ble_eq_true rfl, Nat.le_of_ble_eq_true rfl⟩ rfl) hT hS hA [0, 1, 7, 8, 9] [2, 3, 4, 5, 6, 10] rfl rfl rfl (by decide) (by decide) (fun r2 H locs hB J hS => ?_)
  obtain ⟨rfl, hT1⟩ := hB
  have hT := J _ hT1
  have hT : TP D A [(h3, aI (k 0) 400 anI), (h4, aI (k 0) 400 anI), (h5, aI (k 0) 400 anI), (h7, aI (k 0) 1024 (rgI (-1) (h0f10.toInt - 1))), (h8, aI (k 0) 400 (pfI (h0f10.toInt))), (h0, ob 3 [.ref h2, .ref h3, .ref h4, .ref h5, .ref h6, .ref h7, .ref h8, .ref h9, .int h0f8, .int h0f9, .int h0f10, .int h0f11]), (h1, ob 2 [.ref h10, .int h1f1]), (h2, aJ (k 1) 12000 anJ), (h9, aJ (k 1) 60 anJ), (h10, ob 4 [.int h10f0, .int h10f1, .int h10f2, .ref h11]), (h11, aJ (k 1) 36 anJ)] _ := hT
  refine lv_if_ne (tgt := 23) hx hb dX4_lead_18 (by decide) (fun _ => ?_) (fun cc => absurd cc (by decide +kernel))
  refine lv_aload_n hx hb dX4_lead_23 rfl (lv_at hl 0 rfl) ?_
  refine lv_aload_n hx hb dX4_lead_24 rfl (lv_at hl 0 rfl) ?_
  refine tz_get (ci := 3) (v := .ref h9) (C := RX4) (F := TX4) (N := 12) hx hb hU iX4 hown hK hT 5 rfl rfl 7 (by decide) w161 (fun _ h9 => h9) rfl dX4_lead_25 ?_
  refine tcI (Tc := [(h0, ob 3 [.ref h2, .ref h3, .ref h4, .ref h5, .ref h6, .ref h7, .ref h8, .ref h9, .int h0f8, .int h0f9, .int h0f10, .int h0f11]), (h9, aJ (k 1) 60 anJ), (h2, aJ (k 1) 12000 anJ), (h7, aI (k 0) 1024 (rgI (-1) (h0f10.toInt - 1))), (h8, aI (k 0) 400 (pfI (h0f10.toInt)))]) (Tr := [(h3, aI (k 0) 400 anI), (h4, aI (k 0) 400 anI), (h5, aI (k 0) 400 anI), (h1, ob 2 [.ref h10, .int h1f1]), (h10, ob 4 [.int h10f0, .int h10f1, .int h10f2, .ref h11]), (h11, aJ (k 1) 36 anJ)]) (as := [h0, h9, h2, h7, h8]) (zcV (q0 := 5) (ci := 3) (As := [.ref h9]) (rest := []) (Tc := [(h0, ob 3 [.ref h2, .ref h3, .ref h4, .ref h5, .ref h6, .ref h7, .ref h8, .ref h9, .int h0f8, .int h0f9, .int h0f10, .int h0f11]), (h9, aJ (k 1) 60 anJ), (h2, aJ (k 1) 12000 anJ), (h7, aI (k 0) 1024 (rgI (-1) (h0f10.toInt - 1))), (h8, aI (k 0) 400 (pfI (h0f10.toInt)))]) hx hb hml hown hU hK hT rfl rfl [5, 8, 7, 3, 4] rfl (by decide) (cX4_search_4a917 l D k _ h0 h9 h2 h7 h8 h3 h4 h5 h6 h0f8 h0f9 h0f10 h0f11 (by omega) (by omega) (by omega) (by omega)) w555 w552 w553 w554 w66 hdX4_search ⟨rfl, rfl⟩ ⟨Nat.le_of_ble_eq_true rfl, Nat.le_of_ble_eq_true rfl⟩ rfl hl.1 (Nat.le_of_ble_eq_true rfl) dX4_lead_28 ⟨Nat.le_of_ble_eq_true rfl, Nat.le_of_ble_eq_true rfl⟩) hT hS hA [5, 8, 7, 3, 4] [0, 1, 2, 6, 9, 10] rfl rfl rfl (by decide) (by decide) (fun r3 H locs hB J hS => ?_)
  obtain ⟨b_r3, hT1⟩ := hB
  have hT := J _ hT1
  have hT : TP D A [(h3, aI (k 0) 400 anI), (h4, aI (k 0) 400 anI), (h5, aI (k 0) 400 anI), (h1, ob 2 [.ref h10, .int h1f1]), (h10, ob 4 [.int h10f0, .int h10f1, .int h10f2, .ref h11]), (h11, aJ (k 1) 36 anJ), (h0, ob 3 [.ref h2, .ref h3, .ref h4, .ref h5, .ref h6, .ref h7, .ref h8, .ref h9, .int h0f8, .int h0f9, .int h0f10, .int h0f11]), (h9, aJ (k 1) 60 anJ), (h2, aJ (k 1) 12000 anJ), (h7, aI (k 0) 1024 (rgI (-1) (h0f10.toInt - 1))), (h8, aI (k 0) 400 (pfI (h0f10.toInt)))] _ := hT
  refine lv_istore (lv' := [(4, .int r3), (0, .ref h0), (1, .ref h1), (2, .int x2), (3, .int x3)]) hx hb dX4_lead_31 hl (by decide) rfl (fun ls hl => ?_)
  refine lv_iload hx hb dX4_lead_33 (lv_at hl 0 rfl) ?_
  refine lv_if_lt (tgt := 43) hx hb dX4_lead_35 (by decide) (fun c_4 => ?_) (fun c_4 => ?_)
  · skip
    have c_4 := ni_lt c_4 rfl li_0
    refine lv_aload_n hx hb dX4_lead_43 rfl (lv_at hl 1 rfl) ?_
    refine lv_aload_n hx hb dX4_lead_44 rfl (lv_at hl 1 rfl) ?_
    refine tz_get (ci := 3) (v := .ref h9) (C := RX4) (F := TX4) (N := 12) hx hb hU iX4 hown hK hT 6 rfl rfl 7 (by decide) w161 (fun _ h9 => h9) rfl dX4_lead_45 ?_
    refine lv_iload_n hx hb dX4_lead_48 rfl (lv_at hl 3 rfl) ?_
    refine lv_iload_n hx hb dX4_lead_49 rfl (lv_at hl 4 rfl) ?_
    refine tcI (Tc := [(h0, ob 3 [.ref h2, .ref h3, .ref h4, .ref h5, .ref h6, .ref h7, .ref h8, .ref h9, .int h0f8, .int h0f9, .int h0f10, .int h0f11]), (h9, aJ (k 1) 60 anJ), (h2, aJ (k 1) 12000 anJ), (h3, aI (k 0) 400 anI), (h4, aI (k 0) 400 anI), (h5, aI (k 0) 400 anI), (h7, aI (k 0) 1024 (rgI (-1) (h0f10.toInt - 1))), (h8, aI (k 0) 400 (pfI (h0f10.toInt)))]) (Tr := [(h1, ob 2 [.ref h10, .int h1f1]), (h10, ob 4 [.int h10f0, .int h10f1, .int h10f2, .ref h11]), (h11, aJ (k 1) 36 anJ)]) (as := [h0, h9, h2, h3, h4, h5, h7, h8]) (zcV (q0 := 6) (ci := 3) (As := [.ref h9, .int x2, .int x3]) (rest := []) (Tc := [(h0, ob 3 [.ref h2, .ref h3, .ref h4, .ref h5, .ref h6, .ref h7, .ref h8, .ref h9, .int h0f8, .int h0f9, .int h0f10, .int h0f11]), (h9, aJ (k 1) 60 anJ), (h2, aJ (k 1) 12000 anJ), (h3, aI (k 0) 400 anI), (h4, aI (k 0) 400 anI), (h5, aI (k 0) 400 anI), (h7, aI (k 0) 1024 (rgI (-1) (h0f10.toInt - 1))), (h8, aI (k 0) 400 (pfI (h0f10.toInt)))]) hx hb hml hown hU hK hT rfl rfl [6, 7, 8, 0, 1, 2, 9, 10] rfl (by decide) (cX4_append_fdc74 l D k _ h0 h9 h2 h3 h4 h5 h7 h8 h6 x2 x3 h0f8 h0f9 h0f10 h0f11 (by omega) (by omega) (by omega) (by omega) (by omega) (by omega)) w501 w560 w499 w500 w66 hdX4_append ⟨rfl, rfl⟩ ⟨Nat.le_of_ble_eq_true rfl, Nat.le_of_ble_eq_true rfl⟩ rfl hl.1 (Nat.le_of_ble_eq_true rfl) dX4_lead_50 ⟨Nat.le_of_ble_eq_true rfl, Nat.le_of_ble_eq_true rfl⟩) hT hS hA [6, 7, 8, 0, 1, 2, 9, 10] [3, 4, 5] rfl rfl rfl (by decide) (by decide) (fun r5 H locs hB J hS => ?_)
    obtain ⟨v6, b_v6, b_r5, hT1⟩ := hB
    have hT := J _ hT1
    have hT : TP D A [(h1, ob 2 [.ref h10, .int h1f1]), (h10, ob 4 [.int h10f0, .int h10f1, .int h10f2, .ref h11]), (h11, aJ (k 1) 36 anJ), (h0, ob 3 [.ref h2, .ref h3, .ref h4, .ref h5, .ref h6, .ref h7, .ref h8, .ref h9, .int h0f8, .int h0f9, .int v6, .int h0f11]), (h9, aJ (k 1) 60 anJ), (h2, aJ (k 1) 12000 anJ), (h3, aI (k 0) 400 anI), (h4, aI (k 0) 400 anI), (h5, aI (k 0) 400 anI), (h7, aI (k 0) 1024 (rgI (-1) (v6.toInt - 1))), (h8, aI (k 0) 400 (pfI (v6.toInt)))] _ := hT
    exact tz_retI (B := B_cX4_lead_2f125 D k h0 h1 h2 h3 h4 h5 h7 h8 h9 h10 h11 h6 x2 x3 h0f8 h0f9 h0f10 h0f11 h1f1 h10f0 h10f1 h10f2) (v := r5) hQ hx hb hr hlocks hS (Nat.le_of_ble_eq_true rfl) (Nat.le_of_ble_eq_true rfl) dX4_lead_53 (⟨v6, (by omega), (by omega), (hT.sub [3, 0, 5, 6, 7, 8, 9, 10, 4, 1, 2] (by decide) rfl)⟩)
  · skip
    have c_4 := ni_nlt c_4 rfl li_0
    refine lv_iload hx hb dX4_lead_38 (lv_at hl 0 rfl) ?_
    refine lv_goto (tgt := 53) hx hb dX4_lead_40 (by decide) ?_
    exact tz_retI (B := B_cX4_lead_2f125 D k h0 h1 h2 h3 h4 h5 h7 h8 h9 h10 h11 h6 x2 x3 h0f8 h0f9 h0f10 h0f11 h1f1 h10f0 h10f1 h10f2) (v := r3) hQ hx hb hr hlocks hS (Nat.le_of_ble_eq_true rfl) (Nat.le_of_ble_eq_true rfl) dX4_lead_53 (⟨h0f10, (by omega), (by omega), (hT.sub [6, 3, 8, 0, 1, 2, 9, 10, 7, 4, 5] (by decide) rfl)⟩)
abbrev Rm_cX4_spread_a044b : Room := { frames := 4, cells := 0, slots := 0, locals := 104 }
abbrev B_cX4_spread_a044b (D : va_G) (k : Nat → ClassId) (h0 h1 h2 h3 h4 h5 h6 h7 h8 h9 h10 h11 : Nat) (x2 : Int32) (h0f8 : Int32) (h0f9 : Int32) (h0f10 : Int32) (h0f11 : Int32) (h1f1 : Int32) (h10f0 : Int32) (h10f1 : Int32) (h10f2 : Int32) (A : Nat → Prop) (H : Heap) : Prop := ∃ o0 : Int32, ∃ o1 : Int32, (1 ≤ o0.toInt ∧ o0.toInt ≤ 400) ∧ (0 ≤ o1.toInt ∧ o1.toInt ≤ 1) ∧ TP D A [(h0, ob 3 [.ref h2, .ref h3, .ref h4, .ref h5, .ref h6, .ref h7, .ref h8, .ref h9, .int h0f8, .int h0f9, .int o0, .int o1]), (h1, ob 2 [.ref h10, .int h1f1]), (h2, aJ (k 1) 12000 anJ), (h3, aI (k 0) 400 anI), (h4, aI (k 0) 400 anI), (h5, aI (k 0) 400 anI), (h6, aI (k 0) 1600 anI), (h7, aI (k 0) 1024 (rgI (-1) (o0.toInt - 1))), (h8, aI (k 0) 400 (pfI (o0.toInt))), (h9, aJ (k 1) 60 anJ), (h10, ob 4 [.int h10f0, .int h10f1, .int h10f2, .ref h11]), (h11, aJ (k 1) 36 anJ)] H
set_option maxHeartbeats 4000000 in
set_option maxRecDepth 100000 in
theorem cX4_spread_a044b (l : Launch) (D : va_G) (k : Nat → ClassId) (sz : Nat) (h0 h1 h2 h3 h4 h5 h6 h7 h8 h9 h10 h11 : Nat) (x2 : Int32) (h0f8 : Int32) (h0f9 : Int32) (h0f10 : Int32) (h0f11 : Int32) (h1f1 : Int32) (h10f0 : Int32) (h10f1 : Int32) (h10f2 : Int32) (b_x2 : 0 ≤ x2.toInt ∧ x2.toInt ≤ 4) (b_h0f8 : 1 ≤ h0f8.toInt ∧ h0f8.toInt ≤ 9) (b_h0f9 : 400 ≤ h0f9.toInt ∧ h0f9.toInt ≤ 400) (b_h0f10 : 1 ≤ h0f10.toInt ∧ h0f10.toInt ≤ 400) (b_h0f11 : 0 ≤ h0f11.toInt ∧ h0f11.toInt ≤ 0) (b_h1f1 : 2 ≤ h1f1.toInt ∧ h1f1.toInt ≤ 7) (b_h10f0 : 1 ≤ h10f0.toInt ∧ h10f0.toInt ≤ 3) (b_h10f1 : 0 ≤ h10f1.toInt ∧ h10f1.toInt ≤ 4) : Met l yX4_spread (Cond.code yX4_spread cX4_spread 6 none :: uw) Rm_cX4_spread_a044b (pT D k sz [.ref h0, .ref h1, .int x2] [(h0, ob 3 [.ref h2, .ref h3, .ref h4, .ref h5, .ref h6, .ref h7, .ref h8, .ref h9, .int h0f8, .int h0f9, .int h0f10, .int h0f11]), (h1, ob 2 [.ref h10, .int h1f1]), (h2, aJ (k 1) 12000 anJ), (h3, aI (k 0) 400 anI), (h4, aI (k 0) 400 anI), (h5, aI (k 0) 400 anI), (h6, aI (k 0) 1600 anI), (h7, aI (k 0) 1024 (rgI (-1) (h0f10.toInt - 1))), (h8, aI (k 0) 400 (pfI (h0f10.toInt))), (h9, aJ (k 1) 60 anJ), (h10, ob 4 [.int h10f0, .int h10f1, .int h10f2, .ref h11]), (h11, aJ (k 1) 36 anJ)]) (qV (B_cX4_spread_a044b D k h0 h1 h2 h3 h4 h5 h6 h7 h8 h9 h10 h11 x2 h0f8 h0f9 h0f10 h0f11 h1f1 h10f0 h10f1 h10f2 (zA [h0, h1, h2, h3, h4, h5, h6, h7, h8, h9, h10, h11] sz)) (zA [h0, h1, h2, h3, h4, h5, h6, h7, h8, h9, h10, h11] sz)) 0 0 (zA [h0, h1, h2, h3, h4, h5, h6, h7, h8, h9, h10, h11] sz) := by
  refine tz_begin (as := [h0, h1, h2, h3, h4, h5, h6, h7, h8, h9, h10, h11]) (Qc := fun A => qV (B_cX4_spread_a044b D k h0 h1 h2 h3 h4 h5 h6 h7 h8 h9 h10 h11 x2 h0f8 h0f9 h0f10 h0f11 h1f1 h10f0 h10f1 h10f2 A) A) (by decide +kernel) rfl (Nat.le_of_ble_eq_true rfl) ?_
  intro p e s m args below meth c ls A Q hx hb hr hml hown hlocks hin hU hK hT hS hA hl hQ
  have hl : lv_has ls 6 [(0, .ref h0), (1, .ref h1), (2, .int x2)] := hl
  have hT : TP D A [(h0, ob 3 [.ref h2, .ref h3, .ref h4, .ref h5, .ref h6, .ref h7, .ref h8, .ref h9, .int h0f8, .int h0f9, .int h0f10, .int h0f11]), (h1, ob 2 [.ref h10, .int h1f1]), (h2, aJ (k 1) 12000 anJ), (h3, aI (k 0) 400 anI), (h4, aI (k 0) 400 anI), (h5, aI (k 0) 400 anI), (h6, aI (k 0) 1600 anI), (h7, aI (k 0) 1024 (rgI (-1) (h0f10.toInt - 1))), (h8, aI (k 0) 400 (pfI (h0f10.toInt))), (h9, aJ (k 1) 60 anJ), (h10, ob 4 [.int h10f0, .int h10f1, .int h10f2, .ref h11]), (h11, aJ (k 1) 36 anJ)] s.heap := hT
  refine lv_aload_n hx hb dX4_spread_0 rfl (lv_at hl 0 rfl) ?_
  refine lv_iconst (v := 1) hx hb dX4_spread_1 (by decide) ?_
  refine tz_put (ci := 3) (v := .int 1) (ty := .boolean) (C := RX4) (F := TX4) (N := 12) hx hb hU iX4 tyX4 tyX4_ok nmX4 hown hK hT hS 0 rfl rfl 11 (by decide) w167 (fun _ h9 => h9) rfl (by decide +kernel) rfl rfl (Nat.le_of_ble_eq_true rfl) dX4_spread_2 (fun H locs hT hS => ?_)
  have hT : TP D A [(h0, ob 3 [.ref h2, .ref h3, .ref h4, .ref h5, .ref h6, .ref h7, .ref h8, .ref h9, .int h0f8, .int h0f9, .int h0f10, .int 1]), (h1, ob 2 [.ref h10, .int h1f1]), (h2, aJ (k 1) 12000 anJ), (h3, aI (k 0) 400 anI), (h4, aI (k 0) 400 anI), (h5, aI (k 0) 400 anI), (h6, aI (k 0) 1600 anI), (h7, aI (k 0) 1024 (rgI (-1) (h0f10.toInt - 1))), (h8, aI (k 0) 400 (pfI (h0f10.toInt))), (h9, aJ (k 1) 60 anJ), (h10, ob 4 [.int h10f0, .int h10f1, .int h10f2, .ref h11]), (h11, aJ (k 1) 36 anJ)] _ := hT
  refine lv_iconst (v := 0) hx hb dX4_spread_5 (by decide) ?_
  refine lv_istore_n (lv' := [(3, .int 0), (0, .ref h0), (1, .ref h1), (2, .int x2)]) hx hb dX4_spread_6 rfl hl (by decide) rfl (fun ls hl => ?_)
  have lp7_76 : ∀ (n : Nat) (y73 : Int32) (y74 : Int32) (y75 : Int32) (H : Heap) (locs : List Loc) (ls : Array Slot), (0 ≤ y73.toInt ∧ y73.toInt ≤ 400) → (1 ≤ y74.toInt ∧ y74.toInt ≤ 400) → (0 ≤ y75.toInt ∧ y75.toInt ≤ 1) → (h0f9.toInt + (-1) * y73.toInt + 1).toNat < n → TP D A [(h0, ob 3 [.ref h2, .ref h3, .ref h4, .ref h5, .ref h6, .ref h7, .ref h8, .ref h9, .int h0f8, .int h0f9, .int y74, .int y75]), (h1, ob 2 [.ref h10, .int h1f1]), (h2, aJ (k 1) 12000 anJ), (h3, aI (k 0) 400 anI), (h4, aI (k 0) 400 anI), (h5, aI (k 0) 400 anI), (h6, aI (k 0) 1600 anI), (h7, aI (k 0) 1024 (rgI (-1) (y74.toInt - 1))), (h8, aI (k 0) 400 (pfI (y74.toInt))), (h9, aJ (k 1) 60 anJ), (h10, ob 4 [.int h10f0, .int h10f1, .int h10f2, .ref h11]), (h11, aJ (k 1) 36 anJ)] H → va_S A s.heap H locs → lv_has ls 6 [(0, .ref h0), (1, .ref h1), (2, .int x2), (3, .int y73)] → W p l e Rm_cX4_spread_a044b s m args below meth c H locs 0 0 Q (F0 m 7 ls []) := by
    intro n
    induction n with
    | zero => intro y73 y74 y75 H locs ls b_y73 b_y74 b_y75 hm hT hS hl; exact absurd hm (Nat.not_lt_zero _)
    | succ n ih =>
      intro y73 y74 y75 H locs ls b_y73 b_y74 b_y75 hm hT hS hl
      have ih7_76 := ih
      clear ih
      refine lv_iload_n hx hb dX4_spread_7 rfl (lv_at hl 3 rfl) ?_
      refine lv_aload_n hx hb dX4_spread_8 rfl (lv_at hl 0 rfl) ?_
      refine tz_get (ci := 3) (v := .int h0f9) (C := RX4) (F := TX4) (N := 12) hx hb hU iX4 hown hK hT 0 rfl rfl 9 (by decide) w163 (fun _ h9 => h9) rfl dX4_spread_9 ?_
      refine lv_icmp_ge (tgt := 96) hx hb dX4_spread_12 (by decide) (fun c_77 => ?_) (fun c_77 => ?_)
      · skip
        have c_77 := ni_le c_77 rfl rfl
        exact tz_retV (B := B_cX4_spread_a044b D k h0 h1 h2 h3 h4 h5 h6 h7 h8 h9 h10 h11 x2 h0f8 h0f9 h0f10 h0f11 h1f1 h10f0 h10f1 h10f2) hQ hx hb hr hlocks hS (Nat.le_of_ble_eq_true rfl) (Nat.le_of_ble_eq_true rfl) dX4_spread_96 (⟨y74, y75, (by omega), (by omega), hT⟩)
      · skip
        have c_77 := ni_nle c_77 rfl rfl
        refine lv_iload_n hx hb dX4_spread_15 rfl (lv_at hl 3 rfl) ?_
        refine lv_aload_n hx hb dX4_spread_16 rfl (lv_at hl 0 rfl) ?_
        refine tz_get (ci := 3) (v := .int y74) (C := RX4) (F := TX4) (N := 12) hx hb hU iX4 hown hK hT 0 rfl rfl 10 (by decide) w164 (fun _ h9 => h9) rfl dX4_spread_17 ?_
        refine lv_icmp_ge (tgt := 96) hx hb dX4_spread_20 (by decide) (fun c_78 => ?_) (fun c_78 => ?_)
        · skip
          have c_78 := ni_le c_78 rfl rfl
          exact tz_retV (B := B_cX4_spread_a044b D k h0 h1 h2 h3 h4 h5 h6 h7 h8 h9 h10 h11 x2 h0f8 h0f9 h0f10 h0f11 h1f1 h10f0 h10f1 h10f2) hQ hx hb hr hlocks hS (Nat.le_of_ble_eq_true rfl) (Nat.le_of_ble_eq_true rfl) dX4_spread_96 (⟨y74, y75, (by omega), (by omega), hT⟩)
        · skip
          have c_78 := ni_nle c_78 rfl rfl
          refine lv_iconst (v := 0) hx hb dX4_spread_23 (by decide) ?_
          refine lv_istore (lv' := [(4, .int 0), (0, .ref h0), (1, .ref h1), (2, .int x2), (3, .int y73)]) hx hb dX4_spread_24 hl (by decide) rfl (fun ls hl => ?_)
          have lp26_91 : ∀ (n : Nat) (y88 : Int32) (y89 : Int32) (y90 : Int32) (H : Heap) (locs : List Loc) (ls : Array Slot), (0 ≤ y88.toInt ∧ y88.toInt ≤ 4) → (1 ≤ y89.toInt ∧ y89.toInt ≤ 400) → (0 ≤ y90.toInt ∧ y90.toInt ≤ 1) → (x2.toInt + (-1) * y88.toInt + 1).toNat < n → TP D A [(h0, ob 3 [.ref h2, .ref h3, .ref h4, .ref h5, .ref h6, .ref h7, .ref h8, .ref h9, .int h0f8, .int h0f9, .int y89, .int y90]), (h1, ob 2 [.ref h10, .int h1f1]), (h2, aJ (k 1) 12000 anJ), (h3, aI (k 0) 400 anI), (h4, aI (k 0) 400 anI), (h5, aI (k 0) 400 anI), (h6, aI (k 0) 1600 anI), (h7, aI (k 0) 1024 (rgI (-1) (y89.toInt - 1))), (h8, aI (k 0) 400 (pfI (y89.toInt))), (h9, aJ (k 1) 60 anJ), (h10, ob 4 [.int h10f0, .int h10f1, .int h10f2, .ref h11]), (h11, aJ (k 1) 36 anJ)] H → va_S A s.heap H locs → lv_has ls 6 [(0, .ref h0), (1, .ref h1), (2, .int x2), (3, .int y73), (4, .int y88)] → W p l e Rm_cX4_spread_a044b s m args below meth c H locs 0 0 Q (F0 m 26 ls []) := by
            intro n
            induction n with
            | zero => intro y88 y89 y90 H locs ls b_y88 b_y89 b_y90 hm hT hS hl; exact absurd hm (Nat.not_lt_zero _)
            | succ n ih =>
              intro y88 y89 y90 H locs ls b_y88 b_y89 b_y90 hm hT hS hl
              have ih26_91 := ih
              clear ih
              refine lv_iload hx hb dX4_spread_26 (lv_at hl 4 rfl) ?_
              refine lv_iload_n hx hb dX4_spread_28 rfl (lv_at hl 2 rfl) ?_
              refine lv_icmp_ge (tgt := 71) hx hb dX4_spread_29 (by decide) (fun c_92 => ?_) (fun c_92 => ?_)
              · skip
                have c_92 := ni_le c_92 rfl rfl
                refine lv_aload_n hx hb dX4_spread_71 rfl (lv_at hl 0 rfl) ?_
                refine tz_get (ci := 3) (v := .int y90) (C := RX4) (F := TX4) (N := 12) hx hb hU iX4 hown hK hT 0 rfl rfl 11 (by decide) w167 (fun _ h9 => h9) rfl dX4_spread_72 ?_
                refine lv_if_ne (tgt := 90) hx hb dX4_spread_75 (by decide) (fun c_93 => ?_) (fun c_93 => ?_)
                · skip
                  have c_93 := ni_ne c_93 rfl li_0
                  obtain ⟨v94, e_v94⟩ : ∃ x : Int32, x = y73 + Int32.ofInt 1 := ⟨_, rfl⟩
                  have f_v94 := e_v94.symm
                  have e_v94 : v94.toInt = y73.toInt + 1 := ai_add e_v94 rfl (show (Int32.ofInt 1).toInt = 1 from (by decide +kernel)) (by omega)
                  refine lv_iinc (v := v94) (lv' := [(3, .int v94), (0, .ref h0), (1, .ref h1), (2, .int x2), (4, .int y88)]) hx hb dX4_spread_90 hl (k := 3) rfl f_v94 (by decide) rfl (fun ls hl => ?_)
                  refine lv_goto (tgt := 7) hx hb dX4_spread_93 (by decide) ?_
                  exact ih7_76 v94 y89 y90 _ _ _ (by omega) (by omega) (by omega)  (by omega) hT hS (lv_sub hl [1, 2, 3, 0] rfl)
                · skip
                  have c_93 := ni_eq c_93 rfl li_0
                  refine lv_aload_n hx hb dX4_spread_78 rfl (lv_at hl 0 rfl) ?_
                  refine tz_get (ci := 3) (v := .int y89) (C := RX4) (F := TX4) (N := 12) hx hb hU iX4 hown hK hT 0 rfl rfl 10 (by decide) w164 (fun _ h9 => h9) rfl dX4_spread_79 ?_
                  refine lv_aload_n hx hb dX4_spread_82 rfl (lv_at hl 0 rfl) ?_
                  refine tz_get (ci := 3) (v := .int h0f9) (C := RX4) (F := TX4) (N := 12) hx hb hU iX4 hown hK hT 0 rfl rfl 9 (by decide) w163 (fun _ h9 => h9) rfl dX4_spread_83 ?_
                  refine lv_icmp_ne (tgt := 90) hx hb dX4_spread_86 (by decide) (fun c_95 => ?_) (fun c_95 => ?_)
                  · skip
                    have c_95 := ni_ne c_95 rfl rfl
                    obtain ⟨v96, e_v96⟩ : ∃ x : Int32, x = y73 + Int32.ofInt 1 := ⟨_, rfl⟩
                    have f_v96 := e_v96.symm
                    have e_v96 : v96.toInt = y73.toInt + 1 := ai_add e_v96 rfl (show (Int32.ofInt 1).toInt = 1 from (by decide +kernel)) (by omega)
                    refine lv_iinc (v := v96) (lv' := [(3, .int v96), (0, .ref h0), (1, .ref h1), (2, .int x2), (4, .int y88)]) hx hb dX4_spread_90 hl (k := 3) rfl f_v96 (by decide) rfl (fun ls hl => ?_)
                    refine lv_goto (tgt := 7) hx hb dX4_spread_93 (by decide) ?_
                    exact ih7_76 v96 y89 y90 _ _ _ (by omega) (by omega) (by omega)  (by omega) hT hS (lv_sub hl [1, 2, 3, 0] rfl)
                  · skip
                    have c_95 := ni_eq c_95 rfl rfl
                    exact tz_retV (B := B_cX4_spread_a044b D k h0 h1 h2 h3 h4 h5 h6 h7 h8 h9 h10 h11 x2 h0f8 h0f9 h0f10 h0f11 h1f1 h10f0 h10f1 h10f2) hQ hx hb hr hlocks hS (Nat.le_of_ble_eq_true rfl) (Nat.le_of_ble_eq_true rfl) dX4_spread_89 (⟨y89, y90, (by omega), (by omega), hT⟩)
              · skip
                have c_92 := ni_nle c_92 rfl rfl
                refine lv_aload_n hx hb dX4_spread_32 rfl (lv_at hl 0 rfl) ?_
                refine lv_aload_n hx hb dX4_spread_33 rfl (lv_at hl 1 rfl) ?_
                refine lv_iload_n hx hb dX4_spread_34 rfl (lv_at hl 3 rfl) ?_
                refine lv_iload hx hb dX4_spread_35 (lv_at hl 4 rfl) ?_
                refine tcI (Tc := [(h0, ob 3 [.ref h2, .ref h3, .ref h4, .ref h5, .ref h6, .ref h7, .ref h8, .ref h9, .int h0f8, .int h0f9, .int y89, .int y90]), (h1, ob 2 [.ref h10, .int h1f1]), (h2, aJ (k 1) 12000 anJ), (h3, aI (k 0) 400 anI), (h4, aI (k 0) 400 anI), (h5, aI (k 0) 400 anI), (h7, aI (k 0) 1024 (rgI (-1) (y89.toInt - 1))), (h8, aI (k 0) 400 (pfI (y89.toInt))), (h9, aJ (k 1) 60 anJ), (h10, ob 4 [.int h10f0, .int h10f1, .int h10f2, .ref h11]), (h11, aJ (k 1) 36 anJ)]) (Tr := [(h6, aI (k 0) 1600 anI)]) (as := [h0, h1, h2, h3, h4, h5, h7, h8, h9, h10, h11]) (zcV (q0 := 0) (ci := 3) (As := [.ref h1, .int y73, .int y88]) (rest := []) (Tc := [(h0, ob 3 [.ref h2, .ref h3, .ref h4, .ref h5, .ref h6, .ref h7, .ref h8, .ref h9, .int h0f8, .int h0f9, .int y89, .int y90]), (h1, ob 2 [.ref h10, .int h1f1]), (h2, aJ (k 1) 12000 anJ), (h3, aI (k 0) 400 anI), (h4, aI (k 0) 400 anI), (h5, aI (k 0) 400 anI), (h7, aI (k 0) 1024 (rgI (-1) (y89.toInt - 1))), (h8, aI (k 0) 400 (pfI (y89.toInt))), (h9, aJ (k 1) 60 anJ), (h10, ob 4 [.int h10f0, .int h10f1, .int h10f2, .ref h11]), (h11, aJ (k 1) 36 anJ)]) hx hb hml hown hU hK hT rfl rfl [0, 1, 2, 3, 4, 5, 7, 8, 9, 10, 11] rfl (by decide) (cX4_lead_2f125 l D k _ h0 h1 h2 h3 h4 h5 h7 h8 h9 h10 h11 h6 y73 y88 h0f8 h0f9 y89 y90 h1f1 h10f0 h10f1 h10f2 (by omega) (by omega) (by omega) (by omega) (by omega) (by omega) (by omega) (by omega) (by omega)) w523 w520 w522 w12 w66 hdX4_lead ⟨rfl, rfl⟩ ⟨Nat.le_of_ble_eq_true rfl, Nat.le_of_ble_eq_true rfl⟩ rfl hl.1 (Nat.le_of_ble_eq_true rfl) dX4_spread_37 ⟨Nat.le_of_ble_eq_true rfl, Nat.le_of_ble_eq_true rfl⟩) hT hS hA [0, 1, 2, 3, 4, 5, 7, 8, 9, 10, 11] [6] rfl rfl rfl (by decide) (by decide) (fun r97 H locs hB J hS => ?_)
                obtain ⟨v98, b_v98, b_r97, hT1⟩ := hB
                have hT := J _ hT1
                have hT : TP D A [(h6, aI (k 0) 1600 anI), (h0, ob 3 [.ref h2, .ref h3, .ref h4, .ref h5, .ref h6, .ref h7, .ref h8, .ref h9, .int h0f8, .int h0f9, .int v98, .int y90]), (h1, ob 2 [.ref h10, .int h1f1]), (h2, aJ (k 1) 12000 anJ), (h3, aI (k 0) 400 anI), (h4, aI (k 0) 400 anI), (h5, aI (k 0) 400 anI), (h7, aI (k 0) 1024 (rgI (-1) (v98.toInt - 1))), (h8, aI (k 0) 400 (pfI (v98.toInt))), (h9, aJ (k 1) 60 anJ), (h10, ob 4 [.int h10f0, .int h10f1, .int h10f2, .ref h11]), (h11, aJ (k 1) 36 anJ)] _ := hT
                refine lv_istore (lv' := [(5, .int r97), (0, .ref h0), (1, .ref h1), (2, .int x2), (3, .int y73), (4, .int y88)]) hx hb dX4_spread_40 hl (by decide) rfl (fun ls hl => ?_)
                refine lv_aload_n hx hb dX4_spread_42 rfl (lv_at hl 1 rfl) ?_
                refine tz_get (ci := 3) (v := .ref h6) (C := RX4) (F := TX4) (N := 12) hx hb hU iX4 hown hK hT 1 rfl rfl 4 (by decide) w157 (fun _ h9 => h9) rfl dX4_spread_43 ?_
                refine lv_iload_n hx hb dX4_spread_46 rfl (lv_at hl 4 rfl) ?_
                refine lv_iconst (v := 4) hx hb dX4_spread_47 (by decide) ?_
                refine lv_imul hx hb dX4_spread_48 (lv_topi (fun v99 e_v99 => ?_))
                have e_v99 := ai_mul e_v99 rfl li_4 (by omega)
                refine lv_iload hx hb dX4_spread_49 (lv_at hl 5 rfl) ?_
                refine lv_iadd hx hb dX4_spread_51 (lv_topi (fun v100 e_v100 => ?_))
                have e_v100 := ai_add e_v100 rfl rfl (by omega)
                refine lv_iload hx hb dX4_spread_52 (lv_at hl 0 rfl) ?_
                refine tz_iast hx hb hK hT hS 0 rfl (by omega) (fun _ _ => trivial) dX4_spread_54 (fun H locs hT hS => ?_)
                refine lv_iload hx hb dX4_spread_55 (lv_at hl 0 rfl) ?_
                refine lv_if_ge (tgt := 65) hx hb dX4_spread_57 (by decide) (fun c_101 => ?_) (fun c_101 => ?_)
                · skip
                  have c_101 := ni_le c_101 li_0 rfl
                  obtain ⟨v102, e_v102⟩ : ∃ x : Int32, x = y88 + Int32.ofInt 1 := ⟨_, rfl⟩
                  have f_v102 := e_v102.symm
                  have e_v102 : v102.toInt = y88.toInt + 1 := ai_add e_v102 rfl (show (Int32.ofInt 1).toInt = 1 from (by decide +kernel)) (by omega)
                  refine lv_iinc (v := v102) (lv' := [(4, .int v102), (5, .int r97), (0, .ref h0), (1, .ref h1), (2, .int x2), (3, .int y73)]) hx hb dX4_spread_65 hl (k := 5) rfl f_v102 (by decide) rfl (fun ls hl => ?_)
                  refine lv_goto (tgt := 26) hx hb dX4_spread_68 (by decide) ?_
                  exact ih26_91 v102 v98 y90 _ _ _ (by omega) (by omega) (by omega)  (by omega) (hT.sub [1, 2, 3, 4, 5, 6, 0, 7, 8, 9, 10, 11] (by decide) rfl) hS (lv_sub hl [2, 3, 4, 5, 0] rfl)
                · skip
                  have c_101 := ni_nle c_101 li_0 rfl
                  refine lv_aload_n hx hb dX4_spread_60 rfl (lv_at hl 1 rfl) ?_
                  refine lv_iconst (v := 0) hx hb dX4_spread_61 (by decide) ?_
                  refine tz_put (ci := 3) (v := .int 0) (ty := .boolean) (C := RX4) (F := TX4) (N := 12) hx hb hU iX4 tyX4 tyX4_ok nmX4 hown hK hT hS 1 rfl rfl 11 (by decide) w167 (fun _ h9 => h9) rfl (by decide +kernel) rfl rfl (Nat.le_of_ble_eq_true rfl) dX4_spread_62 (fun H locs hT hS => ?_)
                  have hT : TP D A [(h6, aI (k 0) 1600 anI), (h0, ob 3 [.ref h2, .ref h3, .ref h4, .ref h5, .ref h6, .ref h7, .ref h8, .ref h9, .int h0f8, .int h0f9, .int v98, .int 0]), (h1, ob 2 [.ref h10, .int h1f1]), (h2, aJ (k 1) 12000 anJ), (h3, aI (k 0) 400 anI), (h4, aI (k 0) 400 anI), (h5, aI (k 0) 400 anI), (h7, aI (k 0) 1024 (rgI (-1) (v98.toInt - 1))), (h8, aI (k 0) 400 (pfI (v98.toInt))), (h9, aJ (k 1) 60 anJ), (h10, ob 4 [.int h10f0, .int h10f1, .int h10f2, .ref h11]), (h11, aJ (k 1) 36 anJ)] _ := hT
                  obtain ⟨v103, e_v103⟩ : ∃ x : Int32, x = y88 + Int32.ofInt 1 := ⟨_, rfl⟩
                  have f_v103 := e_v103.symm
                  have e_v103 : v103.toInt = y88.toInt + 1 := ai_add e_v103 rfl (show (Int32.ofInt 1).toInt = 1 from (by decide +kernel)) (by omega)
                  refine lv_iinc (v := v103) (lv' := [(4, .int v103), (5, .int r97), (0, .ref h0), (1, .ref h1), (2, .int x2), (3, .int y73)]) hx hb dX4_spread_65 hl (k := 5) rfl f_v103 (by decide) rfl (fun ls hl => ?_)
                  refine lv_goto (tgt := 26) hx hb dX4_spread_68 (by decide) ?_
                  exact ih26_91 v103 v98 (0) _ _ _ (by have := li_0; omega) (by have := li_0; omega) (by have := li_0; omega)  (by have := li_0; omega) (hT.sub [1, 2, 3, 4, 5, 6, 0, 7, 8, 9, 10, 11] (by decide) rfl) hS (lv_sub hl [2, 3, 4, 5, 0] rfl)
          exact lp26_91 ((x2.toInt + (-1) * (0 : Int32).toInt + 1).toNat + 1) (0) y74 y75 _ _ _ (by have := li_0; omega) (by have := li_0; omega) (by have := li_0; omega)  (Nat.lt_succ_self _) hT hS (lv_sub hl [1, 2, 3, 4, 0] rfl)
  exact lp7_76 ((h0f9.toInt + (-1) * (0 : Int32).toInt + 1).toNat + 1) (0) h0f10 (1) _ _ _ (by have := li_0; have := li_1; omega) (by have := li_0; have := li_1; omega) (by have := li_0; have := li_1; omega)  (Nat.lt_succ_self _) hT hS (lv_sub hl [1, 2, 3, 0] rfl)
abbrev Rm_cX10_countImage_a81f2 : Room := { frames := 5, cells := 9, slots := 16296, locals := 129 }
abbrev B_cX10_countImage_a81f2 (D : va_G) (k : Nat → ClassId) (h0 h1 h8 h11 h13 h2 h3 h4 h5 h6 h7 h9 h10 h12 : Nat) (x1 : Int32) (h0f2 : Int32) (h0f6 : Int32) (h0f8 : Int32) (h0f11 : Int32) (h1f0 : Int32) (h1f1 : Int32) (h1f2 : Int32) (h8f1 : Int32) (A : Nat → Prop) (r : Int32) (H : Heap) : Prop := ∃ n0 : Nat, ∃ n1 : Nat, ∃ n2 : Nat, ∃ n3 : Nat, ∃ n4 : Nat, ∃ n5 : Nat, ∃ n6 : Nat, ∃ n7 : Nat, ∃ n8 : Nat, ∃ o0 : Int32, ∃ o1 : Int32, ∃ o2 : Int32, (1 ≤ o0.toInt ∧ o0.toInt ≤ 9) ∧ (1 ≤ o1.toInt ∧ o1.toInt ≤ 400) ∧ (0 ≤ o2.toInt ∧ o2.toInt ≤ 1) ∧ (1 ≤ r.toInt ∧ r.toInt ≤ 400) ∧ TP D A [(h0, ob 7 [.ref h1, .ref h2, .int h0f2, .ref h3, .ref h4, .ref h5, .int h0f6, .ref h6, .int h0f8, .ref n0, .ref h7, .int h0f11, .ref h8, .ref h9, .ref h10, .ref h11, .ref h12]), (h1, ob 4 [.int h1f0, .int h1f1, .int h1f2, .ref h13]), (h8, ob 2 [.ref h1, .int x1]), (h11, aJ (k 1) 9 anJ), (h13, aJ (k 1) 36 anJ), (n0, ob 3 [.ref n1, .ref n2, .ref n3, .ref n4, .ref n5, .ref n6, .ref n7, .ref n8, .int o0, .int 400, .int o1, .int o2]), (n1, aJ (k 1) 12000 anJ), (n2, aI (k 0) 400 anI), (n3, aI (k 0) 400 anI), (n4, aI (k 0) 400 anI), (n5, aI (k 0) 1600 anI), (n6, aI (k 0) 1024 anI), (n7, aI (k 0) 400 anI), (n8, aJ (k 1) 60 anJ)] H
set_option maxHeartbeats 4000000 in
set_option maxRecDepth 100000 in
theorem cX10_countImage_a81f2 (l : Launch) (D : va_G) (k : Nat → ClassId) (sz : Nat) (h0 h1 h8 h11 h13 h2 h3 h4 h5 h6 h7 h9 h10 h12 : Nat) (x1 : Int32) (h0f2 : Int32) (h0f6 : Int32) (h0f8 : Int32) (h0f11 : Int32) (h1f0 : Int32) (h1f1 : Int32) (h1f2 : Int32) (h8f1 : Int32) (b_x1 : 2 ≤ x1.toInt ∧ x1.toInt ≤ 7) (b_h0f2 : 0 ≤ h0f2.toInt ∧ h0f2.toInt ≤ 1) (b_h0f6 : 0 ≤ h0f6.toInt ∧ h0f6.toInt ≤ 1) (b_h0f8 : 0 ≤ h0f8.toInt ∧ h0f8.toInt ≤ 1) (b_h0f11 : 0 ≤ h0f11.toInt ∧ h0f11.toInt ≤ 200) (b_h1f0 : 1 ≤ h1f0.toInt ∧ h1f0.toInt ≤ 3) (b_h1f1 : 0 ≤ h1f1.toInt ∧ h1f1.toInt ≤ 4) (b_h8f1 : 0 ≤ h8f1.toInt ∧ h8f1.toInt ≤ 7) : Met l yX10_countImage (Cond.code yX10_countImage cX10_countImage 3 (some .int) :: uw) Rm_cX10_countImage_a81f2 (pT D k sz [.ref h0, .int x1] [(h0, ob 7 [.ref h1, .ref h2, .int h0f2, .ref h3, .ref h4, .ref h5, .int h0f6, .ref h6, .int h0f8, .null, .ref h7, .int h0f11, .ref h8, .ref h9, .ref h10, .ref h11, .ref h12]), (h1, ob 4 [.int h1f0, .int h1f1, .int h1f2, .ref h13]), (h8, ob 2 [.ref h1, .int h8f1]), (h11, aJ (k 1) 9 anJ), (h13, aJ (k 1) 36 anJ)]) (qI (B_cX10_countImage_a81f2 D k h0 h1 h8 h11 h13 h2 h3 h4 h5 h6 h7 h9 h10 h12 x1 h0f2 h0f6 h0f8 h0f11 h1f0 h1f1 h1f2 h8f1 (zA [h0, h1, h8, h11, h13] sz)) (zA [h0, h1, h8, h11, h13] sz)) 9 16296 (zA [h0, h1, h8, h11, h13] sz) := by
  refine tz_begin (as := [h0, h1, h8, h11, h13]) (Qc := fun A => qI (B_cX10_countImage_a81f2 D k h0 h1 h8 h11 h13 h2 h3 h4 h5 h6 h7 h9 h10 h12 x1 h0f2 h0f6 h0f8 h0f11 h1f0 h1f1 h1f2 h8f1 A) A) (by decide +kernel) rfl (Nat.le_of_ble_eq_true rfl) ?_
  intro p e s m args below meth c ls A Q hx hb hr hml hown hlocks hin hU hK hT hS hA hl hQ
  have hl : lv_has ls 3 [(0, .ref h0), (1, .int x1)] := hl
  have hT : TP D A [(h0, ob 7 [.ref h1, .ref h2, .int h0f2, .ref h3, .ref h4, .ref h5, .int h0f6, .ref h6, .int h0f8, .null, .ref h7, .int h0f11, .ref h8, .ref h9, .ref h10, .ref h11, .ref h12]), (h1, ob 4 [.int h1f0, .int h1f1, .int h1f2, .ref h13]), (h8, ob 2 [.ref h1, .int h8f1]), (h11, aJ (k 1) 9 anJ), (h13, aJ (k 1) 36 anJ)] s.heap := hT
  refine lv_aload_n hx hb dX10_countImage_0 rfl (lv_at hl 0 rfl) ?_
  refine lv_aload_n hx hb dX10_countImage_1 rfl (lv_at hl 0 rfl) ?_
  refine tz_get (ci := 7) (v := .ref h1) (C := RX10) (F := TX10) (N := 17) hx hb hU iX10 hown hK hT 0 rfl rfl 0 (by decide) w249 (fun _ h9 => h9) rfl dX10_countImage_2 ?_
  refine tcI (Tc := [(h1, ob 4 [.int h1f0, .int h1f1, .int h1f2, .ref h13])]) (Tr := [(h0, ob 7 [.ref h1, .ref h2, .int h0f2, .ref h3, .ref h4, .ref h5, .int h0f6, .ref h6, .int h0f8, .null, .ref h7, .int h0f11, .ref h8, .ref h9, .ref h10, .ref h11, .ref h12]), (h8, ob 2 [.ref h1, .int h8f1]), (h11, aJ (k 1) 9 anJ), (h13, aJ (k 1) 36 anJ)]) (as := [h1]) (zcV (q0 := 1) (ci := 4) (As := []) (rest := [.ref h0]) (Tc := [(h1, ob 4 [.int h1f0, .int h1f1, .int h1f2, .ref h13])]) hx hb hml hown hU hK hT rfl rfl [1] rfl (by decide) (cX5_cellCount_642c9 l D k _ h1 h13 h1f0 h1f1 h1f2 (by omega) (by omega)) w385 w382 w383 w384 w64 hdX5_cellCount ⟨rfl, rfl⟩ ⟨Nat.le_of_ble_eq_true rfl, Nat.le_of_ble_eq_true rfl⟩ rfl hl.1 (Nat.le_of_ble_eq_true rfl) dX10_countImage_5 ⟨Nat.le_of_ble_eq_true rfl, Nat.le_of_ble_eq_true rfl⟩) hT hS hA [1] [0, 2, 3, 4] rfl rfl rfl (by decide) (by decide) (fun r1 H locs hB J hS => ?_)
  obtain ⟨b_r1, hT1⟩ := hB
  have hT := J _ hT1
  have hT : TP D A [(h0, ob 7 [.ref h1, .ref h2, .int h0f2, .ref h3, .ref h4, .ref h5, .int h0f6, .ref h6, .int h0f8, .null, .ref h7, .int h0f11, .ref h8, .ref h9, .ref h10, .ref h11, .ref h12]), (h8, ob 2 [.ref h1, .int h8f1]), (h11, aJ (k 1) 9 anJ), (h13, aJ (k 1) 36 anJ), (h1, ob 4 [.int h1f0, .int h1f1, .int h1f2, .ref h13])] _ := hT
  refine lv_sipush (v := 400) hx hb dX10_countImage_8 (by decide) ?_
  have q_q3 := li_400
  refine tcR (Tc := [(h0, ob 7 [.ref h1, .ref h2, .int h0f2, .ref h3, .ref h4, .ref h5, .int h0f6, .ref h6, .int h0f8, .null, .ref h7, .int h0f11, .ref h8, .ref h9, .ref h10, .ref h11, .ref h12])]) (Tr := [(h8, ob 2 [.ref h1, .int h8f1]), (h11, aJ (k 1) 9 anJ), (h13, aJ (k 1) 36 anJ), (h1, ob 4 [.int h1f0, .int h1f1, .int h1f2, .ref h13])]) (as := [h0]) (zcV (q0 := 0) (ci := 7) (As := [.int r1, .int 400]) (rest := []) (Tc := [(h0, ob 7 [.ref h1, .ref h2, .int h0f2, .ref h3, .ref h4, .ref h5, .int h0f6, .ref h6, .int h0f8, .null, .ref h7, .int h0f11, .ref h8, .ref h9, .ref h10, .ref h11, .ref h12])]) hx hb hml hown hU hK hT rfl rfl [0] rfl (by decide) (cX10_clearBench_37f2f l D k _ h0 h1 h2 h3 h4 h5 h6 h7 h8 h9 h10 h11 h12 r1 (400) h0f2 h0f6 h0f8 h0f11 (by omega) (by have := li_400; omega) (by omega) (by omega) (by omega) (by omega)) w672 w669 w671 w22 w63 hdX10_clearBench ⟨rfl, rfl⟩ ⟨Nat.le_of_ble_eq_true rfl, Nat.le_of_ble_eq_true rfl⟩ rfl hl.1 (Nat.le_of_ble_eq_true rfl) dX10_countImage_11 ⟨Nat.le_of_ble_eq_true rfl, Nat.le_of_ble_eq_true rfl⟩) hT hS hA [0] [1, 2, 3, 4] rfl rfl rfl (by decide) (by decide) (fun r2 H locs hB J hS => ?_)
  obtain ⟨q4, q5, q6, q7, q8, q9, q10, q11, q12, rfl, hT1⟩ := hB
  have hT := J _ hT1
  have hT : TP D A [(h8, ob 2 [.ref h1, .int h8f1]), (h11, aJ (k 1) 9 anJ), (h13, aJ (k 1) 36 anJ), (h1, ob 4 [.int h1f0, .int h1f1, .int h1f2, .ref h13]), (h0, ob 7 [.ref h1, .ref h2, .int h0f2, .ref h3, .ref h4, .ref h5, .int h0f6, .ref h6, .int h0f8, .ref q4, .ref h7, .int h0f11, .ref h8, .ref h9, .ref h10, .ref h11, .ref h12]), (q4, ob 3 [.ref q5, .ref q6, .ref q7, .ref q8, .ref q9, .ref q10, .ref q11, .ref q12, .int r1, .int 400, .int 0, .int 0]), (q5, aJ (k 1) 12000 anJ), (q6, aI (k 0) 400 anI), (q7, aI (k 0) 400 anI), (q8, aI (k 0) 400 anI), (q9, aI (k 0) 1600 anI), (q10, aI (k 0) 1024 (rgI (-1) (0 - 1))), (q11, aI (k 0) 400 (pfI (0))), (q12, aJ (k 1) 60 anJ)] _ := hT
  refine lv_astore_n (lv' := [(2, .ref q4), (0, .ref h0), (1, .int x1)]) hx hb dX10_countImage_14 rfl hl (by decide) rfl (fun ls hl => ?_)
  refine lv_aload_n hx hb dX10_countImage_15 rfl (lv_at hl 1 rfl) ?_
  refine tz_get (ci := 7) (v := .ref h11) (C := RX10) (F := TX10) (N := 17) hx hb hU iX10 hown hK hT 4 rfl rfl 15 (by decide) w264 (fun _ h9 => h9) rfl dX10_countImage_16 ?_
  refine lv_aload_n hx hb dX10_countImage_19 rfl (lv_at hl 1 rfl) ?_
  refine tz_get (ci := 7) (v := .ref h1) (C := RX10) (F := TX10) (N := 17) hx hb hU iX10 hown hK hT 4 rfl rfl 0 (by decide) w249 (fun _ h9 => h9) rfl dX10_countImage_20 ?_
  refine tz_get (ci := 4) (v := .int h1f0) (C := RX5) (F := TX5) (N := 4) hx hb hU iX5 hown hK hT 3 rfl rfl 0 (by decide) w93 (fun _ h9 => h9) rfl dX10_countImage_23 ?_
  refine tcV (Tc := [(h11, aJ (k 1) 9 anJ)]) (Tr := [(h8, ob 2 [.ref h1, .int h8f1]), (h13, aJ (k 1) 36 anJ), (h1, ob 4 [.int h1f0, .int h1f1, .int h1f2, .ref h13]), (h0, ob 7 [.ref h1, .ref h2, .int h0f2, .ref h3, .ref h4, .ref h5, .int h0f6, .ref h6, .int h0f8, .ref q4, .ref h7, .int h0f11, .ref h8, .ref h9, .ref h10, .ref h11, .ref h12]), (q4, ob 3 [.ref q5, .ref q6, .ref q7, .ref q8, .ref q9, .ref q10, .ref q11, .ref q12, .int r1, .int 400, .int 0, .int 0]), (q5, aJ (k 1) 12000 anJ), (q6, aI (k 0) 400 anI), (q7, aI (k 0) 400 anI), (q8, aI (k 0) 400 anI), (q9, aI (k 0) 1600 anI), (q10, aI (k 0) 1024 (rgI (-1) (0 - 1))), (q11, aI (k 0) 400 (pfI (0))), (q12, aJ (k 1) 60 anJ)]) (as := [h11]) (zcS (As := [.ref h11, .int h1f0]) (rest := []) (Tc := [(h11, aJ (k 1) 9 anJ)]) hx hb hml hown hU hK hT [1] rfl (by decide) (cX7_becomeOne_9e486 l D k _ h11 h1f0 (by omega)) w333 w331 w332 w74 hdX7_becomeOne ⟨rfl, rfl⟩ ⟨Nat.le_of_ble_eq_true rfl, Nat.le_of_ble_eq_true rfl⟩ rfl hl.1 (Nat.le_of_ble_eq_true rfl) dX10_countImage_26 ⟨Nat.le_of_ble_eq_true rfl, Nat.le_of_ble_eq_true rfl⟩) hT hS hA [1] [0, 2, 3, 4, 5, 6, 7, 8, 9, 10, 11, 12, 13] rfl rfl rfl (by decide) (by decide) (fun H locs hB J hS => ?_)
  have hT1 := hB
  have hT := J _ hT1
  have hT : TP D A [(h8, ob 2 [.ref h1, .int h8f1]), (h13, aJ (k 1) 36 anJ), (h1, ob 4 [.int h1f0, .int h1f1, .int h1f2, .ref h13]), (h0, ob 7 [.ref h1, .ref h2, .int h0f2, .ref h3, .ref h4, .ref h5, .int h0f6, .ref h6, .int h0f8, .ref q4, .ref h7, .int h0f11, .ref h8, .ref h9, .ref h10, .ref h11, .ref h12]), (q4, ob 3 [.ref q5, .ref q6, .ref q7, .ref q8, .ref q9, .ref q10, .ref q11, .ref q12, .int r1, .int 400, .int 0, .int 0]), (q5, aJ (k 1) 12000 anJ), (q6, aI (k 0) 400 anI), (q7, aI (k 0) 400 anI), (q8, aI (k 0) 400 anI), (q9, aI (k 0) 1600 anI), (q10, aI (k 0) 1024 (rgI (-1) (0 - 1))), (q11, aI (k 0) 400 (pfI (0))), (q12, aJ (k 1) 60 anJ), (h11, aJ (k 1) 9 anJ)] _ := hT
  refine lv_aload_n hx hb dX10_countImage_29 rfl (lv_at hl 0 rfl) ?_
  refine lv_aload_n hx hb dX10_countImage_30 rfl (lv_at hl 1 rfl) ?_
  refine tz_get (ci := 7) (v := .ref h11) (C := RX10) (F := TX10) (N := 17) hx hb hU iX10 hown hK hT 3 rfl rfl 15 (by decide) w264 (fun _ h9 => h9) rfl dX10_countImage_31 ?_
  refine lv_bipush (v := (-3)) hx hb dX10_countImage_34 (by decide) ?_
  refine lv_bipush (v := (-3)) hx hb dX10_countImage_36 (by decide) ?_
  have q_q15 := li_m3
  have q_q16 := li_m3
  have q_q17 := li_400
  have q_q18 := li_0
  have q_q19 := li_0
  refine tcI (Tc := [(q4, ob 3 [.ref q5, .ref q6, .ref q7, .ref q8, .ref q9, .ref q10, .ref q11, .ref q12, .int r1, .int 400, .int 0, .int 0]), (h11, aJ (k 1) 9 anJ), (q5, aJ (k 1) 12000 anJ), (q6, aI (k 0) 400 anI), (q7, aI (k 0) 400 anI), (q8, aI (k 0) 400 anI), (q10, aI (k 0) 1024 (rgI (-1) (0 - 1))), (q11, aI (k 0) 400 (pfI (0)))]) (Tr := [(h8, ob 2 [.ref h1, .int h8f1]), (h13, aJ (k 1) 36 anJ), (h1, ob 4 [.int h1f0, .int h1f1, .int h1f2, .ref h13]), (h0, ob 7 [.ref h1, .ref h2, .int h0f2, .ref h3, .ref h4, .ref h5, .int h0f6, .ref h6, .int h0f8, .ref q4, .ref h7, .int h0f11, .ref h8, .ref h9, .ref h10, .ref h11, .ref h12]), (q9, aI (k 0) 1600 anI), (q12, aJ (k 1) 60 anJ)]) (as := [q4, h11, q5, q6, q7, q8, q10, q11]) (zcV (q0 := 4) (ci := 3) (As := [.ref h11, .int (-3), .int (-3)]) (rest := []) (Tc := [(q4, ob 3 [.ref q5, .ref q6, .ref q7, .ref q8, .ref q9, .ref q10, .ref q11, .ref q12, .int r1, .int 400, .int 0, .int 0]), (h11, aJ (k 1) 9 anJ), (q5, aJ (k 1) 12000 anJ), (q6, aI (k 0) 400 anI), (q7, aI (k 0) 400 anI), (q8, aI (k 0) 400 anI), (q10, aI (k 0) 1024 (rgI (-1) (0 - 1))), (q11, aI (k 0) 400 (pfI (0)))]) hx hb hml hown hU hK hT rfl rfl [4, 13, 5, 6, 7, 8, 10, 11] rfl (by decide) (cX4_append_aa194 l D k _ q4 h11 q5 q6 q7 q8 q10 q11 q9 q12 ((-3)) ((-3)) r1 (400) (0) (0) (by have := li_m3; omega) (by have := li_m3; omega) (by omega) (by have := li_400; omega) (by have := li_0; omega) (by have := li_0; omega)) w501 w498 w499 w500 w66 hdX4_append ⟨rfl, rfl⟩ ⟨Nat.le_of_ble_eq_true rfl, Nat.le_of_ble_eq_true rfl⟩ rfl hl.1 (Nat.le_of_ble_eq_true rfl) dX10_countImage_38 ⟨Nat.le_of_ble_eq_true rfl, Nat.le_of_ble_eq_true rfl⟩) hT hS hA [4, 13, 5, 6, 7, 8, 10, 11] [0, 1, 2, 3, 9, 12] rfl rfl rfl (by decide) (by decide) (fun r14 H locs hB J hS => ?_)
  obtain ⟨v20, b_v20, b_r14, hT1⟩ := hB
  have hT := J _ hT1
  have hT : TP D A [(h8, ob 2 [.ref h1, .int h8f1]), (h13, aJ (k 1) 36 anJ), (h1, ob 4 [.int h1f0, .int h1f1, .int h1f2, .ref h13]), (h0, ob 7 [.ref h1, .ref h2, .int h0f2, .ref h3, .ref h4, .ref h5, .int h0f6, .ref h6, .int h0f8, .ref q4, .ref h7, .int h0f11, .ref h8, .ref h9, .ref h10, .ref h11, .ref h12]), (q9, aI (k 0) 1600 anI), (q12, aJ (k 1) 60 anJ), (q4, ob 3 [.ref q5, .ref q6, .ref q7, .ref q8, .ref q9, .ref q10, .ref q11, .ref q12, .int r1, .int 400, .int v20, .int 0]), (h11, aJ (k 1) 9 anJ), (q5, aJ (k 1) 12000 anJ), (q6, aI (k 0) 400 anI), (q7, aI (k 0) 400 anI), (q8, aI (k 0) 400 anI), (q10, aI (k 0) 1024 (rgI (-1) (v20.toInt - 1))), (q11, aI (k 0) 400 (pfI (v20.toInt)))] _ := hT
  refine lv_pop hx hb dX10_countImage_41 rfl ?_
  refine lv_aload_n hx hb dX10_countImage_42 rfl (lv_at hl 1 rfl) ?_
  refine tz_get (ci := 7) (v := .ref h8) (C := RX10) (F := TX10) (N := 17) hx hb hU iX10 hown hK hT 3 rfl rfl 12 (by decide) w261 (fun _ h9 => h9) rfl dX10_countImage_43 ?_
  refine lv_iload_n hx hb dX10_countImage_46 rfl (lv_at hl 2 rfl) ?_
  refine tz_put (ci := 2) (v := .int x1) (ty := .int) (C := RX2) (F := TX2) (N := 2) hx hb hU iX2 tyX2 tyX2_ok nmX2 hown hK hT hS 0 rfl rfl 1 (by decide) w206 (fun _ h9 => h9) rfl (by decide +kernel) rfl rfl (Nat.le_of_ble_eq_true rfl) dX10_countImage_47 (fun H locs hT hS => ?_)
  have hT : TP D A [(h8, ob 2 [.ref h1, .int x1]), (h13, aJ (k 1) 36 anJ), (h1, ob 4 [.int h1f0, .int h1f1, .int h1f2, .ref h13]), (h0, ob 7 [.ref h1, .ref h2, .int h0f2, .ref h3, .ref h4, .ref h5, .int h0f6, .ref h6, .int h0f8, .ref q4, .ref h7, .int h0f11, .ref h8, .ref h9, .ref h10, .ref h11, .ref h12]), (q9, aI (k 0) 1600 anI), (q12, aJ (k 1) 60 anJ), (q4, ob 3 [.ref q5, .ref q6, .ref q7, .ref q8, .ref q9, .ref q10, .ref q11, .ref q12, .int r1, .int 400, .int v20, .int 0]), (h11, aJ (k 1) 9 anJ), (q5, aJ (k 1) 12000 anJ), (q6, aI (k 0) 400 anI), (q7, aI (k 0) 400 anI), (q8, aI (k 0) 400 anI), (q10, aI (k 0) 1024 (rgI (-1) (v20.toInt - 1))), (q11, aI (k 0) 400 (pfI (v20.toInt)))] _ := hT
  refine lv_aload_n hx hb dX10_countImage_50 rfl (lv_at hl 0 rfl) ?_
  refine lv_aload_n hx hb dX10_countImage_51 rfl (lv_at hl 1 rfl) ?_
  refine tz_get (ci := 7) (v := .ref h8) (C := RX10) (F := TX10) (N := 17) hx hb hU iX10 hown hK hT 3 rfl rfl 12 (by decide) w261 (fun _ h9 => h9) rfl dX10_countImage_52 ?_
  refine lv_aload_n hx hb dX10_countImage_55 rfl (lv_at hl 1 rfl) ?_
  refine tz_get (ci := 7) (v := .ref h1) (C := RX10) (F := TX10) (N := 17) hx hb hU iX10 hown hK hT 3 rfl rfl 0 (by decide) w249 (fun _ h9 => h9) rfl dX10_countImage_56 ?_
  refine tz_get (ci := 4) (v := .int h1f1) (C := RX5) (F := TX5) (N := 4) hx hb hU iX5 hown hK hT 2 rfl rfl 1 (by decide) w97 (fun _ h9 => h9) rfl dX10_countImage_59 ?_
  have q_q22 := li_400
  have q_q23 := li_0
  refine tcV (Tc := [(q4, ob 3 [.ref q5, .ref q6, .ref q7, .ref q8, .ref q9, .ref q10, .ref q11, .ref q12, .int r1, .int 400, .int v20, .int 0]), (h8, ob 2 [.ref h1, .int x1]), (q5, aJ (k 1) 12000 anJ), (q6, aI (k 0) 400 anI), (q7, aI (k 0) 400 anI), (q8, aI (k 0) 400 anI), (q9, aI (k 0) 1600 anI), (q10, aI (k 0) 1024 (rgI (-1) (v20.toInt - 1))), (q11, aI (k 0) 400 (pfI (v20.toInt))), (q12, aJ (k 1) 60 anJ), (h1, ob 4 [.int h1f0, .int h1f1, .int h1f2, .ref h13]), (h13, aJ (k 1) 36 anJ)]) (Tr := [(h0, ob 7 [.ref h1, .ref h2, .int h0f2, .ref h3, .ref h4, .ref h5, .int h0f6, .ref h6, .int h0f8, .ref q4, .ref h7, .int h0f11, .ref h8, .ref h9, .ref h10, .ref h11, .ref h12]), (h11, aJ (k 1) 9 anJ)]) (as := [q4, h8, q5, q6, q7, q8, q9, q10, q11, q12, h1, h13]) (zcV (q0 := 6) (ci := 3) (As := [.ref h8, .int h1f1]) (rest := []) (Tc := [(q4, ob 3 [.ref q5, .ref q6, .ref q7, .ref q8, .ref q9, .ref q10, .ref q11, .ref q12, .int r1, .int 400, .int v20, .int 0]), (h8, ob 2 [.ref h1, .int x1]), (q5, aJ (k 1) 12000 anJ), (q6, aI (k 0) 400 anI), (q7, aI (k 0) 400 anI), (q8, aI (k 0) 400 anI), (q9, aI (k 0) 1600 anI), (q10, aI (k 0) 1024 (rgI (-1) (v20.toInt - 1))), (q11, aI (k 0) 400 (pfI (v20.toInt))), (q12, aJ (k 1) 60 anJ), (h1, ob 4 [.int h1f0, .int h1f1, .int h1f2, .ref h13]), (h13, aJ (k 1) 36 anJ)]) hx hb hml hown hU hK hT rfl rfl [6, 0, 8, 9, 10, 11, 4, 12, 13, 5, 2, 1] rfl (by decide) (cX4_spread_a044b l D k _ q4 h8 q5 q6 q7 q8 q9 q10 q11 q12 h1 h13 h1f1 r1 (400) v20 (0) x1 h1f0 h1f1 h1f2 (by omega) (by omega) (by have := li_400; omega) (by omega) (by have := li_0; omega) (by omega) (by omega) (by omega)) w519 w516 w517 w518 w66 hdX4_spread ⟨rfl, rfl⟩ ⟨Nat.le_of_ble_eq_true rfl, Nat.le_of_ble_eq_true rfl⟩ rfl hl.1 (Nat.le_of_ble_eq_true rfl) dX10_countImage_62 ⟨Nat.le_of_ble_eq_true rfl, Nat.le_of_ble_eq_true rfl⟩) hT hS hA [6, 0, 8, 9, 10, 11, 4, 12, 13, 5, 2, 1] [3, 7] rfl rfl rfl (by decide) (by decide) (fun H locs hB J hS => ?_)
  obtain ⟨v24, v25, b_v24, b_v25, hT1⟩ := hB
  have hT := J _ hT1
  have hT : TP D A [(h0, ob 7 [.ref h1, .ref h2, .int h0f2, .ref h3, .ref h4, .ref h5, .int h0f6, .ref h6, .int h0f8, .ref q4, .ref h7, .int h0f11, .ref h8, .ref h9, .ref h10, .ref h11, .ref h12]), (h11, aJ (k 1) 9 anJ), (q4, ob 3 [.ref q5, .ref q6, .ref q7, .ref q8, .ref q9, .ref q10, .ref q11, .ref q12, .int r1, .int 400, .int v24, .int v25]), (h8, ob 2 [.ref h1, .int x1]), (q5, aJ (k 1) 12000 anJ), (q6, aI (k 0) 400 anI), (q7, aI (k 0) 400 anI), (q8, aI (k 0) 400 anI), (q9, aI (k 0) 1600 anI), (q10, aI (k 0) 1024 (rgI (-1) (v24.toInt - 1))), (q11, aI (k 0) 400 (pfI (v24.toInt))), (q12, aJ (k 1) 60 anJ), (h1, ob 4 [.int h1f0, .int h1f1, .int h1f2, .ref h13]), (h13, aJ (k 1) 36 anJ)] _ := hT
  refine lv_aload_n hx hb dX10_countImage_65 rfl (lv_at hl 0 rfl) ?_
  refine tz_get (ci := 3) (v := .int v24) (C := RX4) (F := TX4) (N := 12) hx hb hU iX4 hown hK hT 2 rfl rfl 10 (by decide) w166 (fun _ h9 => h9) rfl dX10_countImage_66 ?_
  have hT := hT.wk (q := 9) rfl (an_I (c := k 0) (n := 1024))
  have hT : TP D A [(h0, ob 7 [.ref h1, .ref h2, .int h0f2, .ref h3, .ref h4, .ref h5, .int h0f6, .ref h6, .int h0f8, .ref q4, .ref h7, .int h0f11, .ref h8, .ref h9, .ref h10, .ref h11, .ref h12]), (h11, aJ (k 1) 9 anJ), (q4, ob 3 [.ref q5, .ref q6, .ref q7, .ref q8, .ref q9, .ref q10, .ref q11, .ref q12, .int r1, .int 400, .int v24, .int v25]), (h8, ob 2 [.ref h1, .int x1]), (q5, aJ (k 1) 12000 anJ), (q6, aI (k 0) 400 anI), (q7, aI (k 0) 400 anI), (q8, aI (k 0) 400 anI), (q9, aI (k 0) 1600 anI), (q10, aI (k 0) 1024 anI), (q11, aI (k 0) 400 (pfI (v24.toInt))), (q12, aJ (k 1) 60 anJ), (h1, ob 4 [.int h1f0, .int h1f1, .int h1f2, .ref h13]), (h13, aJ (k 1) 36 anJ)] _ := hT
  have hT := hT.wk (q := 10) rfl (an_I (c := k 0) (n := 400))
  have hT : TP D A [(h0, ob 7 [.ref h1, .ref h2, .int h0f2, .ref h3, .ref h4, .ref h5, .int h0f6, .ref h6, .int h0f8, .ref q4, .ref h7, .int h0f11, .ref h8, .ref h9, .ref h10, .ref h11, .ref h12]), (h11, aJ (k 1) 9 anJ), (q4, ob 3 [.ref q5, .ref q6, .ref q7, .ref q8, .ref q9, .ref q10, .ref q11, .ref q12, .int r1, .int 400, .int v24, .int v25]), (h8, ob 2 [.ref h1, .int x1]), (q5, aJ (k 1) 12000 anJ), (q6, aI (k 0) 400 anI), (q7, aI (k 0) 400 anI), (q8, aI (k 0) 400 anI), (q9, aI (k 0) 1600 anI), (q10, aI (k 0) 1024 anI), (q11, aI (k 0) 400 anI), (q12, aJ (k 1) 60 anJ), (h1, ob 4 [.int h1f0, .int h1f1, .int h1f2, .ref h13]), (h13, aJ (k 1) 36 anJ)] _ := hT
  exact tz_retI (B := B_cX10_countImage_a81f2 D k h0 h1 h8 h11 h13 h2 h3 h4 h5 h6 h7 h9 h10 h12 x1 h0f2 h0f6 h0f8 h0f11 h1f0 h1f1 h1f2 h8f1) (v := v24) hQ hx hb hr hlocks hS (Nat.le_of_ble_eq_true rfl) (Nat.le_of_ble_eq_true rfl) dX10_countImage_69 (⟨q4, q5, q6, q7, q8, q9, q10, q11, q12, r1, v24, v25, (by omega), (by omega), (by omega), (by omega), (hT.sub [0, 12, 3, 1, 13, 2, 4, 5, 6, 7, 8, 9, 10, 11] (by decide) rfl)⟩)
abbrev Rm_cX10_image_ac6ce : Room := { frames := 6, cells := 9, slots := 16296, locals := 151 }
abbrev B_cX10_image_ac6ce (D : va_G) (k : Nat → ClassId) (h0 h1 h7 h8 h11 h13 h2 h3 h4 h5 h6 h9 h10 h12 : Nat) (x1 : Int32) (h0f2 : Int32) (h0f6 : Int32) (h0f8 : Int32) (h0f11 : Int32) (h1f0 : Int32) (h1f1 : Int32) (h1f2 : Int32) (h8f1 : Int32) (A : Nat → Prop) (r : Int32) (H : Heap) : Prop := (TP D A [(h0, ob 7 [.ref h1, .ref h2, .int h0f2, .ref h3, .ref h4, .ref h5, .int h0f6, .ref h6, .int h0f8, .null, .ref h7, .int h0f11, .ref h8, .ref h9, .ref h10, .ref h11, .ref h12]), (h1, ob 4 [.int h1f0, .int h1f1, .int h1f2, .ref h13]), (h7, aI (k 0) 8 anI), (h8, ob 2 [.ref h1, .int h8f1]), (h11, aJ (k 1) 9 anJ), (h13, aJ (k 1) 36 anJ)] H) ∨ (∃ n0 : Nat, ∃ n1 : Nat, ∃ n2 : Nat, ∃ n3 : Nat, ∃ n4 : Nat, ∃ n5 : Nat, ∃ n6 : Nat, ∃ n7 : Nat, ∃ n8 : Nat, ∃ o0 : Int32, ∃ o1 : Int32, ∃ o2 : Int32, (1 ≤ o0.toInt ∧ o0.toInt ≤ 9) ∧ (1 ≤ o1.toInt ∧ o1.toInt ≤ 400) ∧ (0 ≤ o2.toInt ∧ o2.toInt ≤ 1) ∧ TP D A [(h0, ob 7 [.ref h1, .ref h2, .int h0f2, .ref h3, .ref h4, .ref h5, .int h0f6, .ref h6, .int h0f8, .ref n0, .ref h7, .int h0f11, .ref h8, .ref h9, .ref h10, .ref h11, .ref h12]), (h1, ob 4 [.int h1f0, .int h1f1, .int h1f2, .ref h13]), (h7, aI (k 0) 8 anI), (h8, ob 2 [.ref h1, .int x1]), (h11, aJ (k 1) 9 anJ), (h13, aJ (k 1) 36 anJ), (n0, ob 3 [.ref n1, .ref n2, .ref n3, .ref n4, .ref n5, .ref n6, .ref n7, .ref n8, .int o0, .int 400, .int o1, .int o2]), (n1, aJ (k 1) 12000 anJ), (n2, aI (k 0) 400 anI), (n3, aI (k 0) 400 anI), (n4, aI (k 0) 400 anI), (n5, aI (k 0) 1600 anI), (n6, aI (k 0) 1024 anI), (n7, aI (k 0) 400 anI), (n8, aJ (k 1) 60 anJ)] H)
set_option maxHeartbeats 4000000 in
set_option maxRecDepth 100000 in
theorem cX10_image_ac6ce (l : Launch) (D : va_G) (k : Nat → ClassId) (sz : Nat) (h0 h1 h7 h8 h11 h13 h2 h3 h4 h5 h6 h9 h10 h12 : Nat) (x1 : Int32) (h0f2 : Int32) (h0f6 : Int32) (h0f8 : Int32) (h0f11 : Int32) (h1f0 : Int32) (h1f1 : Int32) (h1f2 : Int32) (h8f1 : Int32) (b_h0f2 : 0 ≤ h0f2.toInt ∧ h0f2.toInt ≤ 1) (b_h0f6 : 0 ≤ h0f6.toInt ∧ h0f6.toInt ≤ 1) (b_h0f8 : 0 ≤ h0f8.toInt ∧ h0f8.toInt ≤ 1) (b_h0f11 : 0 ≤ h0f11.toInt ∧ h0f11.toInt ≤ 200) (b_h1f0 : 1 ≤ h1f0.toInt ∧ h1f0.toInt ≤ 3) (b_h1f1 : 0 ≤ h1f1.toInt ∧ h1f1.toInt ≤ 4) (b_h8f1 : 0 ≤ h8f1.toInt ∧ h8f1.toInt ≤ 7) : Met l yX10_image (Cond.code yX10_image cX10_image 2 (some .int) :: uw) Rm_cX10_image_ac6ce (pT D k sz [.ref h0, .int x1] [(h0, ob 7 [.ref h1, .ref h2, .int h0f2, .ref h3, .ref h4, .ref h5, .int h0f6, .ref h6, .int h0f8, .null, .ref h7, .int h0f11, .ref h8, .ref h9, .ref h10, .ref h11, .ref h12]), (h1, ob 4 [.int h1f0, .int h1f1, .int h1f2, .ref h13]), (h7, aI (k 0) 8 anI), (h8, ob 2 [.ref h1, .int h8f1]), (h11, aJ (k 1) 9 anJ), (h13, aJ (k 1) 36 anJ)]) (qI (B_cX10_image_ac6ce D k h0 h1 h7 h8 h11 h13 h2 h3 h4 h5 h6 h9 h10 h12 x1 h0f2 h0f6 h0f8 h0f11 h1f0 h1f1 h1f2 h8f1 (zA [h0, h1, h7, h8, h11, h13] sz)) (zA [h0, h1, h7, h8, h11, h13] sz)) 9 16296 (zA [h0, h1, h7, h8, h11, h13] sz) := by
  refine tz_begin (as := [h0, h1, h7, h8, h11, h13]) (Qc := fun A => qI (B_cX10_image_ac6ce D k h0 h1 h7 h8 h11 h13 h2 h3 h4 h5 h6 h9 h10 h12 x1 h0f2 h0f6 h0f8 h0f11 h1f0 h1f1 h1f2 h8f1 A) A) (by decide +kernel) rfl (Nat.le_of_ble_eq_true rfl) ?_
  intro p e s m args below meth c ls A Q hx hb hr hml hown hlocks hin hU hK hT hS hA hl hQ
  have hl : lv_has ls 2 [(0, .ref h0), (1, .int x1)] := hl
  have hT : TP D A [(h0, ob 7 [.ref h1, .ref h2, .int h0f2, .ref h3, .ref h4, .ref h5, .int h0f6, .ref h6, .int h0f8, .null, .ref h7, .int h0f11, .ref h8, .ref h9, .ref h10, .ref h11, .ref h12]), (h1, ob 4 [.int h1f0, .int h1f1, .int h1f2, .ref h13]), (h7, aI (k 0) 8 anI), (h8, ob 2 [.ref h1, .int h8f1]), (h11, aJ (k 1) 9 anJ), (h13, aJ (k 1) 36 anJ)] s.heap := hT
  refine lv_iload_n hx hb dX10_image_0 rfl (lv_at hl 1 rfl) ?_
  refine tcI (Tc := []) (Tr := [(h0, ob 7 [.ref h1, .ref h2, .int h0f2, .ref h3, .ref h4, .ref h5, .int h0f6, .ref h6, .int h0f8, .null, .ref h7, .int h0f11, .ref h8, .ref h9, .ref h10, .ref h11, .ref h12]), (h1, ob 4 [.int h1f0, .int h1f1, .int h1f2, .ref h13]), (h7, aI (k 0) 8 anI), (h8, ob 2 [.ref h1, .int h8f1]), (h11, aJ (k 1) 9 anJ), (h13, aJ (k 1) 36 anJ)]) (as := []) (zcS (As := [.int x1]) (rest := []) (Tc := []) hx hb hml hown hU hK hT [] rfl (by decide) (cX10_isPrimeTaken_1c6a4 l D k _ x1) w664 w662 w663 w63 hdX10_isPrimeTaken ⟨rfl, rfl⟩ ⟨Nat.le_of_ble_eq_true rfl, Nat.le_of_ble_eq_true rfl⟩ rfl hl.1 (Nat.le_of_ble_eq_true rfl) dX10_image_1 ⟨Nat.le_of_ble_eq_true rfl, Nat.le_of_ble_eq_true rfl⟩) hT hS hA [] [0, 1, 2, 3, 4, 5] rfl rfl rfl (by decide) (by decide) (fun r1 H locs hB J hS => ?_)
  rcases hB with ⟨c_2, rfl, hT1⟩ | ⟨c_3, c_4, rfl, hT1⟩ | ⟨c_5, c_6, c_7, rfl, hT1⟩ | ⟨rfl, hT1⟩ | ⟨c_8, c_9, c_10, c_11, rfl, hT1⟩
  · skip
    have hT := J _ hT1
    have hT : TP D A [(h0, ob 7 [.ref h1, .ref h2, .int h0f2, .ref h3, .ref h4, .ref h5, .int h0f6, .ref h6, .int h0f8, .null, .ref h7, .int h0f11, .ref h8, .ref h9, .ref h10, .ref h11, .ref h12]), (h1, ob 4 [.int h1f0, .int h1f1, .int h1f2, .ref h13]), (h7, aI (k 0) 8 anI), (h8, ob 2 [.ref h1, .int h8f1]), (h11, aJ (k 1) 9 anJ), (h13, aJ (k 1) 36 anJ)] _ := hT
    refine lv_if_ne (tgt := 9) hx hb dX10_image_4 (by decide) (fun _ => ?_) (fun cc => absurd cc (by decide +kernel))
    refine lv_aload_n hx hb dX10_image_9 rfl (lv_at hl 0 rfl) ?_
    refine tz_get (ci := 7) (v := .ref h7) (C := RX10) (F := TX10) (N := 17) hx hb hU iX10 hown hK hT 0 rfl rfl 10 (by decide) w259 (fun _ h9 => h9) rfl dX10_image_10 ?_
    refine lv_iload_n hx hb dX10_image_13 rfl (lv_at hl 1 rfl) ?_
    refine tz_iald hx hb hK hT 2 rfl (by omega) dX10_image_14 (fun v12 e_v12 => ?_)
    clear e_v12
    refine lv_if_ne (tgt := 29) hx hb dX10_image_15 (by decide) (fun c_13 => ?_) (fun c_13 => ?_)
    · skip
      have c_13 := ni_ne c_13 rfl li_0
      refine lv_aload_n hx hb dX10_image_29 rfl (lv_at hl 0 rfl) ?_
      refine tz_get (ci := 7) (v := .ref h7) (C := RX10) (F := TX10) (N := 17) hx hb hU iX10 hown hK hT 0 rfl rfl 10 (by decide) w259 (fun _ h9 => h9) rfl dX10_image_30 ?_
      refine lv_iload_n hx hb dX10_image_33 rfl (lv_at hl 1 rfl) ?_
      refine tz_iald hx hb hK hT 2 rfl (by omega) dX10_image_34 (fun v14 e_v14 => ?_)
      clear e_v14
      exact tz_retI (B := B_cX10_image_ac6ce D k h0 h1 h7 h8 h11 h13 h2 h3 h4 h5 h6 h9 h10 h12 x1 h0f2 h0f6 h0f8 h0f11 h1f0 h1f1 h1f2 h8f1) (v := v14) hQ hx hb hr hlocks hS (Nat.le_of_ble_eq_true rfl) (Nat.le_of_ble_eq_true rfl) dX10_image_35 (Or.inl hT)
    · skip
      have c_13 := ni_eq c_13 rfl li_0
      refine lv_aload_n hx hb dX10_image_18 rfl (lv_at hl 0 rfl) ?_
      refine tz_get (ci := 7) (v := .ref h7) (C := RX10) (F := TX10) (N := 17) hx hb hU iX10 hown hK hT 0 rfl rfl 10 (by decide) w259 (fun _ h9 => h9) rfl dX10_image_19 ?_
      refine lv_iload_n hx hb dX10_image_22 rfl (lv_at hl 1 rfl) ?_
      refine lv_aload_n hx hb dX10_image_23 rfl (lv_at hl 0 rfl) ?_
      refine lv_iload_n hx hb dX10_image_24 rfl (lv_at hl 1 rfl) ?_
      refine tcI (Tc := [(h0, ob 7 [.ref h1, .ref h2, .int h0f2, .ref h3, .ref h4, .ref h5, .int h0f6, .ref h6, .int h0f8, .null, .ref h7, .int h0f11, .ref h8, .ref h9, .ref h10, .ref h11, .ref h12]), (h1, ob 4 [.int h1f0, .int h1f1, .int h1f2, .ref h13]), (h8, ob 2 [.ref h1, .int h8f1]), (h11, aJ (k 1) 9 anJ), (h13, aJ (k 1) 36 anJ)]) (Tr := [(h7, aI (k 0) 8 anI)]) (as := [h0, h1, h8, h11, h13]) (zcV (q0 := 0) (ci := 7) (As := [.int x1]) (rest := [.int x1, .ref h7]) (Tc := [(h0, ob 7 [.ref h1, .ref h2, .int h0f2, .ref h3, .ref h4, .ref h5, .int h0f6, .ref h6, .int h0f8, .null, .ref h7, .int h0f11, .ref h8, .ref h9, .ref h10, .ref h11, .ref h12]), (h1, ob 4 [.int h1f0, .int h1f1, .int h1f2, .ref h13]), (h8, ob 2 [.ref h1, .int h8f1]), (h11, aJ (k 1) 9 anJ), (h13, aJ (k 1) 36 anJ)]) hx hb hml hown hU hK hT rfl rfl [0, 1, 3, 4, 5] rfl (by decide) (cX10_countImage_a81f2 l D k _ h0 h1 h8 h11 h13 h2 h3 h4 h5 h6 h7 h9 h10 h12 x1 h0f2 h0f6 h0f8 h0f11 h1f0 h1f1 h1f2 h8f1 (by omega) (by omega) (by omega) (by omega) (by omega) (by omega) (by omega) (by omega)) w668 w665 w667 w21 w63 hdX10_countImage ⟨rfl, rfl⟩ ⟨Nat.le_of_ble_eq_true rfl, Nat.le_of_ble_eq_true rfl⟩ rfl hl.1 (Nat.le_of_ble_eq_true rfl) dX10_image_25 ⟨Nat.le_of_ble_eq_true rfl, Nat.le_of_ble_eq_true rfl⟩) hT hS hA [0, 1, 3, 4, 5] [2] rfl rfl rfl (by decide) (by decide) (fun r15 H locs hB J hS => ?_)
      obtain ⟨q16, q17, q18, q19, q20, q21, q22, q23, q24, v25, v26, v27, b_v25, b_v26, b_v27, b_r15, hT1⟩ := hB
      have hT := J _ hT1
      have hT : TP D A [(h7, aI (k 0) 8 anI), (h0, ob 7 [.ref h1, .ref h2, .int h0f2, .ref h3, .ref h4, .ref h5, .int h0f6, .ref h6, .int h0f8, .ref q16, .ref h7, .int h0f11, .ref h8, .ref h9, .ref h10, .ref h11, .ref h12]), (h1, ob 4 [.int h1f0, .int h1f1, .int h1f2, .ref h13]), (h8, ob 2 [.ref h1, .int x1]), (h11, aJ (k 1) 9 anJ), (h13, aJ (k 1) 36 anJ), (q16, ob 3 [.ref q17, .ref q18, .ref q19, .ref q20, .ref q21, .ref q22, .ref q23, .ref q24, .int v25, .int 400, .int v26, .int v27]), (q17, aJ (k 1) 12000 anJ), (q18, aI (k 0) 400 anI), (q19, aI (k 0) 400 anI), (q20, aI (k 0) 400 anI), (q21, aI (k 0) 1600 anI), (q22, aI (k 0) 1024 anI), (q23, aI (k 0) 400 anI), (q24, aJ (k 1) 60 anJ)] _ := hT
      refine tz_iast hx hb hK hT hS 0 rfl (by omega) (fun _ _ => trivial) dX10_image_28 (fun H locs hT hS => ?_)
      refine lv_aload_n hx hb dX10_image_29 rfl (lv_at hl 0 rfl) ?_
      refine tz_get (ci := 7) (v := .ref h7) (C := RX10) (F := TX10) (N := 17) hx hb hU iX10 hown hK hT 1 rfl rfl 10 (by decide) w259 (fun _ h9 => h9) rfl dX10_image_30 ?_
      refine lv_iload_n hx hb dX10_image_33 rfl (lv_at hl 1 rfl) ?_
      refine tz_iald hx hb hK hT 0 rfl (by omega) dX10_image_34 (fun v28 e_v28 => ?_)
      clear e_v28
      exact tz_retI (B := B_cX10_image_ac6ce D k h0 h1 h7 h8 h11 h13 h2 h3 h4 h5 h6 h9 h10 h12 x1 h0f2 h0f6 h0f8 h0f11 h1f0 h1f1 h1f2 h8f1) (v := v28) hQ hx hb hr hlocks hS (Nat.le_of_ble_eq_true rfl) (Nat.le_of_ble_eq_true rfl) dX10_image_35 (Or.inr (⟨q16, q17, q18, q19, q20, q21, q22, q23, q24, v25, v26, v27, (by omega), (by omega), (by omega), (hT.sub [1, 2, 0, 3, 4, 5, 6, 7, 8, 9, 10, 11, 12, 13, 14] (by decide) rfl)⟩))
  · skip
    have hT := J _ hT1
    have hT : TP D A [(h0, ob 7 [.ref h1, .ref h2, .int h0f2, .ref h3, .ref h4, .ref h5, .int h0f6, .ref h6, .int h0f8, .null, .ref h7, .int h0f11, .ref h8, .ref h9, .ref h10, .ref h11, .ref h12]), (h1, ob 4 [.int h1f0, .int h1f1, .int h1f2, .ref h13]), (h7, aI (k 0) 8 anI), (h8, ob 2 [.ref h1, .int h8f1]), (h11, aJ (k 1) 9 anJ), (h13, aJ (k 1) 36 anJ)] _ := hT
    refine lv_if_ne (tgt := 9) hx hb dX10_image_4 (by decide) (fun _ => ?_) (fun cc => absurd cc (by decide +kernel))
    refine lv_aload_n hx hb dX10_image_9 rfl (lv_at hl 0 rfl) ?_
    refine tz_get (ci := 7) (v := .ref h7) (C := RX10) (F := TX10) (N := 17) hx hb hU iX10 hown hK hT 0 rfl rfl 10 (by decide) w259 (fun _ h9 => h9) rfl dX10_image_10 ?_
    refine lv_iload_n hx hb dX10_image_13 rfl (lv_at hl 1 rfl) ?_
    refine tz_iald hx hb hK hT 2 rfl (by omega) dX10_image_14 (fun v29 e_v29 => ?_)
    clear e_v29
    refine lv_if_ne (tgt := 29) hx hb dX10_image_15 (by decide) (fun c_30 => ?_) (fun c_30 => ?_)
    · skip
      have c_30 := ni_ne c_30 rfl li_0
      refine lv_aload_n hx hb dX10_image_29 rfl (lv_at hl 0 rfl) ?_
      refine tz_get (ci := 7) (v := .ref h7) (C := RX10) (F := TX10) (N := 17) hx hb hU iX10 hown hK hT 0 rfl rfl 10 (by decide) w259 (fun _ h9 => h9) rfl dX10_image_30 ?_
      refine lv_iload_n hx hb dX10_image_33 rfl (lv_at hl 1 rfl) ?_
      refine tz_iald hx hb hK hT 2 rfl (by omega) dX10_image_34 (fun v31 e_v31 => ?_)
      clear e_v31
      exact tz_retI (B := B_cX10_image_ac6ce D k h0 h1 h7 h8 h11 h13 h2 h3 h4 h5 h6 h9 h10 h12 x1 h0f2 h0f6 h0f8 h0f11 h1f0 h1f1 h1f2 h8f1) (v := v31) hQ hx hb hr hlocks hS (Nat.le_of_ble_eq_true rfl) (Nat.le_of_ble_eq_true rfl) dX10_image_35 (Or.inl hT)
    · skip
      have c_30 := ni_eq c_30 rfl li_0
      refine lv_aload_n hx hb dX10_image_18 rfl (lv_at hl 0 rfl) ?_
      refine tz_get (ci := 7) (v := .ref h7) (C := RX10) (F := TX10) (N := 17) hx hb hU iX10 hown hK hT 0 rfl rfl 10 (by decide) w259 (fun _ h9 => h9) rfl dX10_image_19 ?_
      refine lv_iload_n hx hb dX10_image_22 rfl (lv_at hl 1 rfl) ?_
      refine lv_aload_n hx hb dX10_image_23 rfl (lv_at hl 0 rfl) ?_
      refine lv_iload_n hx hb dX10_image_24 rfl (lv_at hl 1 rfl) ?_
      refine tcI (Tc := [(h0, ob 7 [.ref h1, .ref h2, .int h0f2, .ref h3, .ref h4, .ref h5, .int h0f6, .ref h6, .int h0f8, .null, .ref h7, .int h0f11, .ref h8, .ref h9, .ref h10, .ref h11, .ref h12]), (h1, ob 4 [.int h1f0, .int h1f1, .int h1f2, .ref h13]), (h8, ob 2 [.ref h1, .int h8f1]), (h11, aJ (k 1) 9 anJ), (h13, aJ (k 1) 36 anJ)]) (Tr := [(h7, aI (k 0) 8 anI)]) (as := [h0, h1, h8, h11, h13]) (zcV (q0 := 0) (ci := 7) (As := [.int x1]) (rest := [.int x1, .ref h7]) (Tc := [(h0, ob 7 [.ref h1, .ref h2, .int h0f2, .ref h3, .ref h4, .ref h5, .int h0f6, .ref h6, .int h0f8, .null, .ref h7, .int h0f11, .ref h8, .ref h9, .ref h10, .ref h11, .ref h12]), (h1, ob 4 [.int h1f0, .int h1f1, .int h1f2, .ref h13]), (h8, ob 2 [.ref h1, .int h8f1]), (h11, aJ (k 1) 9 anJ), (h13, aJ (k 1) 36 anJ)]) hx hb hml hown hU hK hT rfl rfl [0, 1, 3, 4, 5] rfl (by decide) (cX10_countImage_a81f2 l D k _ h0 h1 h8 h11 h13 h2 h3 h4 h5 h6 h7 h9 h10 h12 x1 h0f2 h0f6 h0f8 h0f11 h1f0 h1f1 h1f2 h8f1 (by omega) (by omega) (by omega) (by omega) (by omega) (by omega) (by omega) (by omega)) w668 w665 w667 w21 w63 hdX10_countImage ⟨rfl, rfl⟩ ⟨Nat.le_of_ble_eq_true rfl, Nat.le_of_ble_eq_true rfl⟩ rfl hl.1 (Nat.le_of_ble_eq_true rfl) dX10_image_25 ⟨Nat.le_of_ble_eq_true rfl, Nat.le_of_ble_eq_true rfl⟩) hT hS hA [0, 1, 3, 4, 5] [2] rfl rfl rfl (by decide) (by decide) (fun r32 H locs hB J hS => ?_)
      obtain ⟨q33, q34, q35, q36, q37, q38, q39, q40, q41, v42, v43, v44, b_v42, b_v43, b_v44, b_r32, hT1⟩ := hB
      have hT := J _ hT1
      have hT : TP D A [(h7, aI (k 0) 8 anI), (h0, ob 7 [.ref h1, .ref h2, .int h0f2, .ref h3, .ref h4, .ref h5, .int h0f6, .ref h6, .int h0f8, .ref q33, .ref h7, .int h0f11, .ref h8, .ref h9, .ref h10, .ref h11, .ref h12]), (h1, ob 4 [.int h1f0, .int h1f1, .int h1f2, .ref h13]), (h8, ob 2 [.ref h1, .int x1]), (h11, aJ (k 1) 9 anJ), (h13, aJ (k 1) 36 anJ), (q33, ob 3 [.ref q34, .ref q35, .ref q36, .ref q37, .ref q38, .ref q39, .ref q40, .ref q41, .int v42, .int 400, .int v43, .int v44]), (q34, aJ (k 1) 12000 anJ), (q35, aI (k 0) 400 anI), (q36, aI (k 0) 400 anI), (q37, aI (k 0) 400 anI), (q38, aI (k 0) 1600 anI), (q39, aI (k 0) 1024 anI), (q40, aI (k 0) 400 anI), (q41, aJ (k 1) 60 anJ)] _ := hT
      refine tz_iast hx hb hK hT hS 0 rfl (by omega) (fun _ _ => trivial) dX10_image_28 (fun H locs hT hS => ?_)
      refine lv_aload_n hx hb dX10_image_29 rfl (lv_at hl 0 rfl) ?_
      refine tz_get (ci := 7) (v := .ref h7) (C := RX10) (F := TX10) (N := 17) hx hb hU iX10 hown hK hT 1 rfl rfl 10 (by decide) w259 (fun _ h9 => h9) rfl dX10_image_30 ?_
      refine lv_iload_n hx hb dX10_image_33 rfl (lv_at hl 1 rfl) ?_
      refine tz_iald hx hb hK hT 0 rfl (by omega) dX10_image_34 (fun v45 e_v45 => ?_)
      clear e_v45
      exact tz_retI (B := B_cX10_image_ac6ce D k h0 h1 h7 h8 h11 h13 h2 h3 h4 h5 h6 h9 h10 h12 x1 h0f2 h0f6 h0f8 h0f11 h1f0 h1f1 h1f2 h8f1) (v := v45) hQ hx hb hr hlocks hS (Nat.le_of_ble_eq_true rfl) (Nat.le_of_ble_eq_true rfl) dX10_image_35 (Or.inr (⟨q33, q34, q35, q36, q37, q38, q39, q40, q41, v42, v43, v44, (by omega), (by omega), (by omega), (hT.sub [1, 2, 0, 3, 4, 5, 6, 7, 8, 9, 10, 11, 12, 13, 14] (by decide) rfl)⟩))
  · skip
    have hT := J _ hT1
    have hT : TP D A [(h0, ob 7 [.ref h1, .ref h2, .int h0f2, .ref h3, .ref h4, .ref h5, .int h0f6, .ref h6, .int h0f8, .null, .ref h7, .int h0f11, .ref h8, .ref h9, .ref h10, .ref h11, .ref h12]), (h1, ob 4 [.int h1f0, .int h1f1, .int h1f2, .ref h13]), (h7, aI (k 0) 8 anI), (h8, ob 2 [.ref h1, .int h8f1]), (h11, aJ (k 1) 9 anJ), (h13, aJ (k 1) 36 anJ)] _ := hT
    refine lv_if_ne (tgt := 9) hx hb dX10_image_4 (by decide) (fun _ => ?_) (fun cc => absurd cc (by decide +kernel))
    refine lv_aload_n hx hb dX10_image_9 rfl (lv_at hl 0 rfl) ?_
    refine tz_get (ci := 7) (v := .ref h7) (C := RX10) (F := TX10) (N := 17) hx hb hU iX10 hown hK hT 0 rfl rfl 10 (by decide) w259 (fun _ h9 => h9) rfl dX10_image_10 ?_
    refine lv_iload_n hx hb dX10_image_13 rfl (lv_at hl 1 rfl) ?_
    refine tz_iald hx hb hK hT 2 rfl (by omega) dX10_image_14 (fun v46 e_v46 => ?_)
    clear e_v46
    refine lv_if_ne (tgt := 29) hx hb dX10_image_15 (by decide) (fun c_47 => ?_) (fun c_47 => ?_)
    · skip
      have c_47 := ni_ne c_47 rfl li_0
      refine lv_aload_n hx hb dX10_image_29 rfl (lv_at hl 0 rfl) ?_
      refine tz_get (ci := 7) (v := .ref h7) (C := RX10) (F := TX10) (N := 17) hx hb hU iX10 hown hK hT 0 rfl rfl 10 (by decide) w259 (fun _ h9 => h9) rfl dX10_image_30 ?_
      refine lv_iload_n hx hb dX10_image_33 rfl (lv_at hl 1 rfl) ?_
      refine tz_iald hx hb hK hT 2 rfl (by omega) dX10_image_34 (fun v48 e_v48 => ?_)
      clear e_v48
      exact tz_retI (B := B_cX10_image_ac6ce D k h0 h1 h7 h8 h11 h13 h2 h3 h4 h5 h6 h9 h10 h12 x1 h0f2 h0f6 h0f8 h0f11 h1f0 h1f1 h1f2 h8f1) (v := v48) hQ hx hb hr hlocks hS (Nat.le_of_ble_eq_true rfl) (Nat.le_of_ble_eq_true rfl) dX10_image_35 (Or.inl hT)
    · skip
      have c_47 := ni_eq c_47 rfl li_0
      refine lv_aload_n hx hb dX10_image_18 rfl (lv_at hl 0 rfl) ?_
      refine tz_get (ci := 7) (v := .ref h7) (C := RX10) (F := TX10) (N := 17) hx hb hU iX10 hown hK hT 0 rfl rfl 10 (by decide) w259 (fun _ h9 => h9) rfl dX10_image_19 ?_
      refine lv_iload_n hx hb dX10_image_22 rfl (lv_at hl 1 rfl) ?_
      refine lv_aload_n hx hb dX10_image_23 rfl (lv_at hl 0 rfl) ?_
      refine lv_iload_n hx hb dX10_image_24 rfl (lv_at hl 1 rfl) ?_
      refine tcI (Tc := [(h0, ob 7 [.ref h1, .ref h2, .int h0f2, .ref h3, .ref h4, .ref h5, .int h0f6, .ref h6, .int h0f8, .null, .ref h7, .int h0f11, .ref h8, .ref h9, .ref h10, .ref h11, .ref h12]), (h1, ob 4 [.int h1f0, .int h1f1, .int h1f2, .ref h13]), (h8, ob 2 [.ref h1, .int h8f1]), (h11, aJ (k 1) 9 anJ), (h13, aJ (k 1) 36 anJ)]) (Tr := [(h7, aI (k 0) 8 anI)]) (as := [h0, h1, h8, h11, h13]) (zcV (q0 := 0) (ci := 7) (As := [.int x1]) (rest := [.int x1, .ref h7]) (Tc := [(h0, ob 7 [.ref h1, .ref h2, .int h0f2, .ref h3, .ref h4, .ref h5, .int h0f6, .ref h6, .int h0f8, .null, .ref h7, .int h0f11, .ref h8, .ref h9, .ref h10, .ref h11, .ref h12]), (h1, ob 4 [.int h1f0, .int h1f1, .int h1f2, .ref h13]), (h8, ob 2 [.ref h1, .int h8f1]), (h11, aJ (k 1) 9 anJ), (h13, aJ (k 1) 36 anJ)]) hx hb hml hown hU hK hT rfl rfl [0, 1, 3, 4, 5] rfl (by decide) (cX10_countImage_a81f2 l D k _ h0 h1 h8 h11 h13 h2 h3 h4 h5 h6 h7 h9 h10 h12 x1 h0f2 h0f6 h0f8 h0f11 h1f0 h1f1 h1f2 h8f1 (by omega) (by omega) (by omega) (by omega) (by omega) (by omega) (by omega) (by omega)) w668 w665 w667 w21 w63 hdX10_countImage ⟨rfl, rfl⟩ ⟨Nat.le_of_ble_eq_true rfl, Nat.le_of_ble_eq_true rfl⟩ rfl hl.1 (Nat.le_of_ble_eq_true rfl) dX10_image_25 ⟨Nat.le_of_ble_eq_true rfl, Nat.le_of_ble_eq_true rfl⟩) hT hS hA [0, 1, 3, 4, 5] [2] rfl rfl rfl (by decide) (by decide) (fun r49 H locs hB J hS => ?_)
      obtain ⟨q50, q51, q52, q53, q54, q55, q56, q57, q58, v59, v60, v61, b_v59, b_v60, b_v61, b_r49, hT1⟩ := hB
      have hT := J _ hT1
      have hT : TP D A [(h7, aI (k 0) 8 anI), (h0, ob 7 [.ref h1, .ref h2, .int h0f2, .ref h3, .ref h4, .ref h5, .int h0f6, .ref h6, .int h0f8, .ref q50, .ref h7, .int h0f11, .ref h8, .ref h9, .ref h10, .ref h11, .ref h12]), (h1, ob 4 [.int h1f0, .int h1f1, .int h1f2, .ref h13]), (h8, ob 2 [.ref h1, .int x1]), (h11, aJ (k 1) 9 anJ), (h13, aJ (k 1) 36 anJ), (q50, ob 3 [.ref q51, .ref q52, .ref q53, .ref q54, .ref q55, .ref q56, .ref q57, .ref q58, .int v59, .int 400, .int v60, .int v61]), (q51, aJ (k 1) 12000 anJ), (q52, aI (k 0) 400 anI), (q53, aI (k 0) 400 anI), (q54, aI (k 0) 400 anI), (q55, aI (k 0) 1600 anI), (q56, aI (k 0) 1024 anI), (q57, aI (k 0) 400 anI), (q58, aJ (k 1) 60 anJ)] _ := hT
      refine tz_iast hx hb hK hT hS 0 rfl (by omega) (fun _ _ => trivial) dX10_image_28 (fun H locs hT hS => ?_)
      refine lv_aload_n hx hb dX10_image_29 rfl (lv_at hl 0 rfl) ?_
      refine tz_get (ci := 7) (v := .ref h7) (C := RX10) (F := TX10) (N := 17) hx hb hU iX10 hown hK hT 1 rfl rfl 10 (by decide) w259 (fun _ h9 => h9) rfl dX10_image_30 ?_
      refine lv_iload_n hx hb dX10_image_33 rfl (lv_at hl 1 rfl) ?_
      refine tz_iald hx hb hK hT 0 rfl (by omega) dX10_image_34 (fun v62 e_v62 => ?_)
      clear e_v62
      exact tz_retI (B := B_cX10_image_ac6ce D k h0 h1 h7 h8 h11 h13 h2 h3 h4 h5 h6 h9 h10 h12 x1 h0f2 h0f6 h0f8 h0f11 h1f0 h1f1 h1f2 h8f1) (v := v62) hQ hx hb hr hlocks hS (Nat.le_of_ble_eq_true rfl) (Nat.le_of_ble_eq_true rfl) dX10_image_35 (Or.inr (⟨q50, q51, q52, q53, q54, q55, q56, q57, q58, v59, v60, v61, (by omega), (by omega), (by omega), (hT.sub [1, 2, 0, 3, 4, 5, 6, 7, 8, 9, 10, 11, 12, 13, 14] (by decide) rfl)⟩))
  · skip
    have hT := J _ hT1
    have hT : TP D A [(h0, ob 7 [.ref h1, .ref h2, .int h0f2, .ref h3, .ref h4, .ref h5, .int h0f6, .ref h6, .int h0f8, .null, .ref h7, .int h0f11, .ref h8, .ref h9, .ref h10, .ref h11, .ref h12]), (h1, ob 4 [.int h1f0, .int h1f1, .int h1f2, .ref h13]), (h7, aI (k 0) 8 anI), (h8, ob 2 [.ref h1, .int h8f1]), (h11, aJ (k 1) 9 anJ), (h13, aJ (k 1) 36 anJ)] _ := hT
    refine lv_if_ne (tgt := 9) hx hb dX10_image_4 (by decide) (fun cc => absurd (by decide +kernel) cc) (fun _ => ?_)
    refine lv_iconst (v := (-1)) hx hb dX10_image_7 (by decide) ?_
    exact tz_retI (B := B_cX10_image_ac6ce D k h0 h1 h7 h8 h11 h13 h2 h3 h4 h5 h6 h9 h10 h12 x1 h0f2 h0f6 h0f8 h0f11 h1f0 h1f1 h1f2 h8f1) (v := (-1)) hQ hx hb hr hlocks hS (Nat.le_of_ble_eq_true rfl) (Nat.le_of_ble_eq_true rfl) dX10_image_8 (Or.inl hT)
  · skip
    have hT := J _ hT1
    have hT : TP D A [(h0, ob 7 [.ref h1, .ref h2, .int h0f2, .ref h3, .ref h4, .ref h5, .int h0f6, .ref h6, .int h0f8, .null, .ref h7, .int h0f11, .ref h8, .ref h9, .ref h10, .ref h11, .ref h12]), (h1, ob 4 [.int h1f0, .int h1f1, .int h1f2, .ref h13]), (h7, aI (k 0) 8 anI), (h8, ob 2 [.ref h1, .int h8f1]), (h11, aJ (k 1) 9 anJ), (h13, aJ (k 1) 36 anJ)] _ := hT
    refine lv_if_ne (tgt := 9) hx hb dX10_image_4 (by decide) (fun _ => ?_) (fun cc => absurd cc (by decide +kernel))
    refine lv_aload_n hx hb dX10_image_9 rfl (lv_at hl 0 rfl) ?_
    refine tz_get (ci := 7) (v := .ref h7) (C := RX10) (F := TX10) (N := 17) hx hb hU iX10 hown hK hT 0 rfl rfl 10 (by decide) w259 (fun _ h9 => h9) rfl dX10_image_10 ?_
    refine lv_iload_n hx hb dX10_image_13 rfl (lv_at hl 1 rfl) ?_
    refine tz_iald hx hb hK hT 2 rfl (by omega) dX10_image_14 (fun v63 e_v63 => ?_)
    clear e_v63
    refine lv_if_ne (tgt := 29) hx hb dX10_image_15 (by decide) (fun c_64 => ?_) (fun c_64 => ?_)
    · skip
      have c_64 := ni_ne c_64 rfl li_0
      refine lv_aload_n hx hb dX10_image_29 rfl (lv_at hl 0 rfl) ?_
      refine tz_get (ci := 7) (v := .ref h7) (C := RX10) (F := TX10) (N := 17) hx hb hU iX10 hown hK hT 0 rfl rfl 10 (by decide) w259 (fun _ h9 => h9) rfl dX10_image_30 ?_
      refine lv_iload_n hx hb dX10_image_33 rfl (lv_at hl 1 rfl) ?_
      refine tz_iald hx hb hK hT 2 rfl (by omega) dX10_image_34 (fun v65 e_v65 => ?_)
      clear e_v65
      exact tz_retI (B := B_cX10_image_ac6ce D k h0 h1 h7 h8 h11 h13 h2 h3 h4 h5 h6 h9 h10 h12 x1 h0f2 h0f6 h0f8 h0f11 h1f0 h1f1 h1f2 h8f1) (v := v65) hQ hx hb hr hlocks hS (Nat.le_of_ble_eq_true rfl) (Nat.le_of_ble_eq_true rfl) dX10_image_35 (Or.inl hT)
    · skip
      have c_64 := ni_eq c_64 rfl li_0
      refine lv_aload_n hx hb dX10_image_18 rfl (lv_at hl 0 rfl) ?_
      refine tz_get (ci := 7) (v := .ref h7) (C := RX10) (F := TX10) (N := 17) hx hb hU iX10 hown hK hT 0 rfl rfl 10 (by decide) w259 (fun _ h9 => h9) rfl dX10_image_19 ?_
      refine lv_iload_n hx hb dX10_image_22 rfl (lv_at hl 1 rfl) ?_
      refine lv_aload_n hx hb dX10_image_23 rfl (lv_at hl 0 rfl) ?_
      refine lv_iload_n hx hb dX10_image_24 rfl (lv_at hl 1 rfl) ?_
      refine tcI (Tc := [(h0, ob 7 [.ref h1, .ref h2, .int h0f2, .ref h3, .ref h4, .ref h5, .int h0f6, .ref h6, .int h0f8, .null, .ref h7, .int h0f11, .ref h8, .ref h9, .ref h10, .ref h11, .ref h12]), (h1, ob 4 [.int h1f0, .int h1f1, .int h1f2, .ref h13]), (h8, ob 2 [.ref h1, .int h8f1]), (h11, aJ (k 1) 9 anJ), (h13, aJ (k 1) 36 anJ)]) (Tr := [(h7, aI (k 0) 8 anI)]) (as := [h0, h1, h8, h11, h13]) (zcV (q0 := 0) (ci := 7) (As := [.int x1]) (rest := [.int x1, .ref h7]) (Tc := [(h0, ob 7 [.ref h1, .ref h2, .int h0f2, .ref h3, .ref h4, .ref h5, .int h0f6, .ref h6, .int h0f8, .null, .ref h7, .int h0f11, .ref h8, .ref h9, .ref h10, .ref h11, .ref h12]), (h1, ob 4 [.int h1f0, .int h1f1, .int h1f2, .ref h13]), (h8, ob 2 [.ref h1, .int h8f1]), (h11, aJ (k 1) 9 anJ), (h13, aJ (k 1) 36 anJ)]) hx hb hml hown hU hK hT rfl rfl [0, 1, 3, 4, 5] rfl (by decide) (cX10_countImage_a81f2 l D k _ h0 h1 h8 h11 h13 h2 h3 h4 h5 h6 h7 h9 h10 h12 x1 h0f2 h0f6 h0f8 h0f11 h1f0 h1f1 h1f2 h8f1 (by omega) (by omega) (by omega) (by omega) (by omega) (by omega) (by omega) (by omega)) w668 w665 w667 w21 w63 hdX10_countImage ⟨rfl, rfl⟩ ⟨Nat.le_of_ble_eq_true rfl, Nat.le_of_ble_eq_true rfl⟩ rfl hl.1 (Nat.le_of_ble_eq_true rfl) dX10_image_25 ⟨Nat.le_of_ble_eq_true rfl, Nat.le_of_ble_eq_true rfl⟩) hT hS hA [0, 1, 3, 4, 5] [2] rfl rfl rfl (by decide) (by decide) (fun r66 H locs hB J hS => ?_)
      obtain ⟨q67, q68, q69, q70, q71, q72, q73, q74, q75, v76, v77, v78, b_v76, b_v77, b_v78, b_r66, hT1⟩ := hB
      have hT := J _ hT1
      have hT : TP D A [(h7, aI (k 0) 8 anI), (h0, ob 7 [.ref h1, .ref h2, .int h0f2, .ref h3, .ref h4, .ref h5, .int h0f6, .ref h6, .int h0f8, .ref q67, .ref h7, .int h0f11, .ref h8, .ref h9, .ref h10, .ref h11, .ref h12]), (h1, ob 4 [.int h1f0, .int h1f1, .int h1f2, .ref h13]), (h8, ob 2 [.ref h1, .int x1]), (h11, aJ (k 1) 9 anJ), (h13, aJ (k 1) 36 anJ), (q67, ob 3 [.ref q68, .ref q69, .ref q70, .ref q71, .ref q72, .ref q73, .ref q74, .ref q75, .int v76, .int 400, .int v77, .int v78]), (q68, aJ (k 1) 12000 anJ), (q69, aI (k 0) 400 anI), (q70, aI (k 0) 400 anI), (q71, aI (k 0) 400 anI), (q72, aI (k 0) 1600 anI), (q73, aI (k 0) 1024 anI), (q74, aI (k 0) 400 anI), (q75, aJ (k 1) 60 anJ)] _ := hT
      refine tz_iast hx hb hK hT hS 0 rfl (by omega) (fun _ _ => trivial) dX10_image_28 (fun H locs hT hS => ?_)
      refine lv_aload_n hx hb dX10_image_29 rfl (lv_at hl 0 rfl) ?_
      refine tz_get (ci := 7) (v := .ref h7) (C := RX10) (F := TX10) (N := 17) hx hb hU iX10 hown hK hT 1 rfl rfl 10 (by decide) w259 (fun _ h9 => h9) rfl dX10_image_30 ?_
      refine lv_iload_n hx hb dX10_image_33 rfl (lv_at hl 1 rfl) ?_
      refine tz_iald hx hb hK hT 0 rfl (by omega) dX10_image_34 (fun v79 e_v79 => ?_)
      clear e_v79
      exact tz_retI (B := B_cX10_image_ac6ce D k h0 h1 h7 h8 h11 h13 h2 h3 h4 h5 h6 h9 h10 h12 x1 h0f2 h0f6 h0f8 h0f11 h1f0 h1f1 h1f2 h8f1) (v := v79) hQ hx hb hr hlocks hS (Nat.le_of_ble_eq_true rfl) (Nat.le_of_ble_eq_true rfl) dX10_image_35 (Or.inr (⟨q67, q68, q69, q70, q71, q72, q73, q74, q75, v76, v77, v78, (by omega), (by omega), (by omega), (hT.sub [1, 2, 0, 3, 4, 5, 6, 7, 8, 9, 10, 11, 12, 13, 14] (by decide) rfl)⟩))
abbrev Rm_cX10_clearBench_b283c : Room := { frames := 2, cells := 0, slots := 0, locals := 45 }
abbrev B_cX10_clearBench_b283c (D : va_G) (k : Nat → ClassId) (h0 h7 h43 h44 h1 h2 h3 h4 h5 h6 h8 h9 h10 h11 h12 h13 h38 h39 h40 h41 h42 h45 : Nat) (x1 : Int32) (x2 : Int32) (h0f2 : Int32) (h0f6 : Int32) (h0f8 : Int32) (h0f11 : Int32) (h7f8 : Int32) (h7f9 : Int32) (h7f10 : Int32) (h7f11 : Int32) (A : Nat → Prop) (r : Nat) (H : Heap) : Prop := h7 = r ∧ TP D A [(h0, ob 7 [.ref h1, .ref h2, .int h0f2, .ref h3, .ref h4, .ref h5, .int h0f6, .ref h6, .int h0f8, .ref h7, .ref h8, .int h0f11, .ref h9, .ref h10, .ref h11, .ref h12, .ref h13]), (h7, ob 3 [.ref h38, .ref h39, .ref h40, .ref h41, .ref h42, .ref h43, .ref h44, .ref h45, .int x1, .int x2, .int 0, .int 0]), (h43, aI (k 0) 1024 (rgI (-1) (0 - 1))), (h44, aI (k 0) 400 (pfI (0)))] H
set_option maxHeartbeats 4000000 in
set_option maxRecDepth 100000 in
theorem cX10_clearBench_b283c (l : Launch) (D : va_G) (k : Nat → ClassId) (sz : Nat) (h0 h7 h43 h44 h1 h2 h3 h4 h5 h6 h8 h9 h10 h11 h12 h13 h38 h39 h40 h41 h42 h45 : Nat) (x1 : Int32) (x2 : Int32) (h0f2 : Int32) (h0f6 : Int32) (h0f8 : Int32) (h0f11 : Int32) (h7f8 : Int32) (h7f9 : Int32) (h7f10 : Int32) (h7f11 : Int32) (b_x1 : 0 ≤ x1.toInt ∧ x1.toInt ≤ 60) (b_x2 : 200 ≤ x2.toInt ∧ x2.toInt ≤ 400) (b_h0f2 : 0 ≤ h0f2.toInt ∧ h0f2.toInt ≤ 1) (b_h0f6 : 0 ≤ h0f6.toInt ∧ h0f6.toInt ≤ 1) (b_h0f8 : 0 ≤ h0f8.toInt ∧ h0f8.toInt ≤ 1) (b_h0f11 : 0 ≤ h0f11.toInt ∧ h0f11.toInt ≤ 200) (b_h7f8 : 0 ≤ h7f8.toInt ∧ h7f8.toInt ≤ 60) (b_h7f9 : 0 ≤ h7f9.toInt ∧ h7f9.toInt ≤ 400) (b_h7f10 : 0 ≤ h7f10.toInt ∧ h7f10.toInt ≤ 400) (b_h7f11 : 0 ≤ h7f11.toInt ∧ h7f11.toInt ≤ 1) : Met l yX10_clearBench (Cond.code yX10_clearBench cX10_clearBench 3 (some (.object "FiniteMatrices$Roll")) :: uw) Rm_cX10_clearBench_b283c (pT D k sz [.ref h0, .int x1, .int x2] [(h0, ob 7 [.ref h1, .ref h2, .int h0f2, .ref h3, .ref h4, .ref h5, .int h0f6, .ref h6, .int h0f8, .ref h7, .ref h8, .int h0f11, .ref h9, .ref h10, .ref h11, .ref h12, .ref h13]), (h7, ob 3 [.ref h38, .ref h39, .ref h40, .ref h41, .ref h42, .ref h43, .ref h44, .ref h45, .int h7f8, .int h7f9, .int h7f10, .int h7f11]), (h43, aI (k 0) 1024 anI), (h44, aI (k 0) 400 anI)]) (qR (B_cX10_clearBench_b283c D k h0 h7 h43 h44 h1 h2 h3 h4 h5 h6 h8 h9 h10 h11 h12 h13 h38 h39 h40 h41 h42 h45 x1 x2 h0f2 h0f6 h0f8 h0f11 h7f8 h7f9 h7f10 h7f11 (zA [h0, h7, h43, h44] sz)) (zA [h0, h7, h43, h44] sz)) 0 0 (zA [h0, h7, h43, h44] sz) := by
  refine tz_begin (as := [h0, h7, h43, h44]) (Qc := fun A => qR (B_cX10_clearBench_b283c D k h0 h7 h43 h44 h1 h2 h3 h4 h5 h6 h8 h9 h10 h11 h12 h13 h38 h39 h40 h41 h42 h45 x1 x2 h0f2 h0f6 h0f8 h0f11 h7f8 h7f9 h7f10 h7f11 A) A) (by decide +kernel) rfl (Nat.le_of_ble_eq_true rfl) ?_
  intro p e s m args below meth c ls A Q hx hb hr hml hown hlocks hin hU hK hT hS hA hl hQ
  have hl : lv_has ls 3 [(0, .ref h0), (1, .int x1), (2, .int x2)] := hl
  have hT : TP D A [(h0, ob 7 [.ref h1, .ref h2, .int h0f2, .ref h3, .ref h4, .ref h5, .int h0f6, .ref h6, .int h0f8, .ref h7, .ref h8, .int h0f11, .ref h9, .ref h10, .ref h11, .ref h12, .ref h13]), (h7, ob 3 [.ref h38, .ref h39, .ref h40, .ref h41, .ref h42, .ref h43, .ref h44, .ref h45, .int h7f8, .int h7f9, .int h7f10, .int h7f11]), (h43, aI (k 0) 1024 anI), (h44, aI (k 0) 400 anI)] s.heap := hT
  refine lv_aload_n hx hb dX10_clearBench_0 rfl (lv_at hl 0 rfl) ?_
  refine tz_get (ci := 7) (v := .ref h7) (C := RX10) (F := TX10) (N := 17) hx hb hU iX10 hown hK hT 0 rfl rfl 9 (by decide) w258 (fun _ h9 => h9) rfl dX10_clearBench_1 ?_
  refine lv_ifnonnull (tgt := 27) hx hb dX10_clearBench_4 (by decide) ?_
  refine lv_aload_n hx hb dX10_clearBench_27 rfl (lv_at hl 0 rfl) ?_
  refine tz_get (ci := 7) (v := .ref h7) (C := RX10) (F := TX10) (N := 17) hx hb hU iX10 hown hK hT 0 rfl rfl 9 (by decide) w258 (fun _ h9 => h9) rfl dX10_clearBench_28 ?_
  refine lv_iload_n hx hb dX10_clearBench_31 rfl (lv_at hl 1 rfl) ?_
  refine lv_iload_n hx hb dX10_clearBench_32 rfl (lv_at hl 2 rfl) ?_
  refine tcV (Tc := [(h7, ob 3 [.ref h38, .ref h39, .ref h40, .ref h41, .ref h42, .ref h43, .ref h44, .ref h45, .int h7f8, .int h7f9, .int h7f10, .int h7f11]), (h43, aI (k 0) 1024 anI), (h44, aI (k 0) 400 anI)]) (Tr := [(h0, ob 7 [.ref h1, .ref h2, .int h0f2, .ref h3, .ref h4, .ref h5, .int h0f6, .ref h6, .int h0f8, .ref h7, .ref h8, .int h0f11, .ref h9, .ref h10, .ref h11, .ref h12, .ref h13])]) (as := [h7, h43, h44]) (zcV (q0 := 1) (ci := 3) (As := [.int x1, .int x2]) (rest := []) (Tc := [(h7, ob 3 [.ref h38, .ref h39, .ref h40, .ref h41, .ref h42, .ref h43, .ref h44, .ref h45, .int h7f8, .int h7f9, .int h7f10, .int h7f11]), (h43, aI (k 0) 1024 anI), (h44, aI (k 0) 400 anI)]) hx hb hml hown hU hK hT rfl rfl [1, 2, 3] rfl (by decide) (cX4_clear_4af68 l D k _ h7 h43 h44 h38 h39 h40 h41 h42 h45 x1 x2 h7f8 h7f9 h7f10 h7f11 (by omega) (by omega) (by omega) (by omega) (by omega) (by omega)) w496 w493 w494 w495 w66 hdX4_clear ⟨rfl, rfl⟩ ⟨Nat.le_of_ble_eq_true rfl, Nat.le_of_ble_eq_true rfl⟩ rfl hl.1 (Nat.le_of_ble_eq_true rfl) dX10_clearBench_33 ⟨Nat.le_of_ble_eq_true rfl, Nat.le_of_ble_eq_true rfl⟩) hT hS hA [1, 2, 3] [0] rfl rfl rfl (by decide) (by decide) (fun H locs hB J hS => ?_)
  have hT1 := hB
  have hT := J _ hT1
  have hT : TP D A [(h0, ob 7 [.ref h1, .ref h2, .int h0f2, .ref h3, .ref h4, .ref h5, .int h0f6, .ref h6, .int h0f8, .ref h7, .ref h8, .int h0f11, .ref h9, .ref h10, .ref h11, .ref h12, .ref h13]), (h7, ob 3 [.ref h38, .ref h39, .ref h40, .ref h41, .ref h42, .ref h43, .ref h44, .ref h45, .int x1, .int x2, .int 0, .int 0]), (h43, aI (k 0) 1024 (rgI (-1) (0 - 1))), (h44, aI (k 0) 400 (pfI (0)))] _ := hT
  refine lv_aload_n hx hb dX10_clearBench_36 rfl (lv_at hl 0 rfl) ?_
  refine tz_get (ci := 7) (v := .ref h7) (C := RX10) (F := TX10) (N := 17) hx hb hU iX10 hown hK hT 0 rfl rfl 9 (by decide) w258 (fun _ h9 => h9) rfl dX10_clearBench_37 ?_
  exact tz_retR (B := B_cX10_clearBench_b283c D k h0 h7 h43 h44 h1 h2 h3 h4 h5 h6 h8 h9 h10 h11 h12 h13 h38 h39 h40 h41 h42 h45 x1 x2 h0f2 h0f6 h0f8 h0f11 h7f8 h7f9 h7f10 h7f11) (v := h7) hQ hx hb hr hlocks hS (Nat.le_of_ble_eq_true rfl) (Nat.le_of_ble_eq_true rfl) dX10_clearBench_40 (⟨rfl, hT⟩)
abbrev Rm_cX10_countImage_54b83 : Room := { frames := 5, cells := 0, slots := 0, locals := 129 }
abbrev B_cX10_countImage_54b83 (D : va_G) (k : Nat → ClassId) (h0 h1 h7 h9 h12 h14 h38 h39 h40 h41 h42 h43 h44 h45 h2 h3 h4 h5 h6 h8 h10 h11 h13 : Nat) (x1 : Int32) (h0f2 : Int32) (h0f6 : Int32) (h0f8 : Int32) (h0f11 : Int32) (h1f0 : Int32) (h1f1 : Int32) (h1f2 : Int32) (h7f8 : Int32) (h7f9 : Int32) (h7f10 : Int32) (h7f11 : Int32) (h9f1 : Int32) (A : Nat → Prop) (r : Int32) (H : Heap) : Prop := ∃ o0 : Int32, ∃ o1 : Int32, ∃ o2 : Int32, (1 ≤ o0.toInt ∧ o0.toInt ≤ 9) ∧ (1 ≤ o1.toInt ∧ o1.toInt ≤ 400) ∧ (0 ≤ o2.toInt ∧ o2.toInt ≤ 1) ∧ (1 ≤ r.toInt ∧ r.toInt ≤ 400) ∧ TP D A [(h0, ob 7 [.ref h1, .ref h2, .int h0f2, .ref h3, .ref h4, .ref h5, .int h0f6, .ref h6, .int h0f8, .ref h7, .ref h8, .int h0f11, .ref h9, .ref h10, .ref h11, .ref h12, .ref h13]), (h1, ob 4 [.int h1f0, .int h1f1, .int h1f2, .ref h14]), (h7, ob 3 [.ref h38, .ref h39, .ref h40, .ref h41, .ref h42, .ref h43, .ref h44, .ref h45, .int o0, .int 400, .int o1, .int o2]), (h9, ob 2 [.ref h1, .int x1]), (h12, aJ (k 1) 9 anJ), (h14, aJ (k 1) 36 anJ), (h38, aJ (k 1) 12000 anJ), (h39, aI (k 0) 400 anI), (h40, aI (k 0) 400 anI), (h41, aI (k 0) 400 anI), (h42, aI (k 0) 1600 anI), (h43, aI (k 0) 1024 anI), (h44, aI (k 0) 400 anI), (h45, aJ (k 1) 60 anJ)] H
set_option maxHeartbeats 4000000 in
set_option maxRecDepth 100000 in
theorem cX10_countImage_54b83 (l : Launch) (D : va_G) (k : Nat → ClassId) (sz : Nat) (h0 h1 h7 h9 h12 h14 h38 h39 h40 h41 h42 h43 h44 h45 h2 h3 h4 h5 h6 h8 h10 h11 h13 : Nat) (x1 : Int32) (h0f2 : Int32) (h0f6 : Int32) (h0f8 : Int32) (h0f11 : Int32) (h1f0 : Int32) (h1f1 : Int32) (h1f2 : Int32) (h7f8 : Int32) (h7f9 : Int32) (h7f10 : Int32) (h7f11 : Int32) (h9f1 : Int32) (b_x1 : 2 ≤ x1.toInt ∧ x1.toInt ≤ 7) (b_h0f2 : 0 ≤ h0f2.toInt ∧ h0f2.toInt ≤ 1) (b_h0f6 : 0 ≤ h0f6.toInt ∧ h0f6.toInt ≤ 1) (b_h0f8 : 0 ≤ h0f8.toInt ∧ h0f8.toInt ≤ 1) (b_h0f11 : 0 ≤ h0f11.toInt ∧ h0f11.toInt ≤ 200) (b_h1f0 : 1 ≤ h1f0.toInt ∧ h1f0.toInt ≤ 3) (b_h1f1 : 0 ≤ h1f1.toInt ∧ h1f1.toInt ≤ 4) (b_h7f8 : 0 ≤ h7f8.toInt ∧ h7f8.toInt ≤ 60) (b_h7f9 : 0 ≤ h7f9.toInt ∧ h7f9.toInt ≤ 400) (b_h7f10 : 0 ≤ h7f10.toInt ∧ h7f10.toInt ≤ 400) (b_h7f11 : 0 ≤ h7f11.toInt ∧ h7f11.toInt ≤ 1) (b_h9f1 : 0 ≤ h9f1.toInt ∧ h9f1.toInt ≤ 7) : Met l yX10_countImage (Cond.code yX10_countImage cX10_countImage 3 (some .int) :: uw) Rm_cX10_countImage_54b83 (pT D k sz [.ref h0, .int x1] [(h0, ob 7 [.ref h1, .ref h2, .int h0f2, .ref h3, .ref h4, .ref h5, .int h0f6, .ref h6, .int h0f8, .ref h7, .ref h8, .int h0f11, .ref h9, .ref h10, .ref h11, .ref h12, .ref h13]), (h1, ob 4 [.int h1f0, .int h1f1, .int h1f2, .ref h14]), (h7, ob 3 [.ref h38, .ref h39, .ref h40, .ref h41, .ref h42, .ref h43, .ref h44, .ref h45, .int h7f8, .int h7f9, .int h7f10, .int h7f11]), (h9, ob 2 [.ref h1, .int h9f1]), (h12, aJ (k 1) 9 anJ), (h14, aJ (k 1) 36 anJ), (h38, aJ (k 1) 12000 anJ), (h39, aI (k 0) 400 anI), (h40, aI (k 0) 400 anI), (h41, aI (k 0) 400 anI), (h42, aI (k 0) 1600 anI), (h43, aI (k 0) 1024 anI), (h44, aI (k 0) 400 anI), (h45, aJ (k 1) 60 anJ)]) (qI (B_cX10_countImage_54b83 D k h0 h1 h7 h9 h12 h14 h38 h39 h40 h41 h42 h43 h44 h45 h2 h3 h4 h5 h6 h8 h10 h11 h13 x1 h0f2 h0f6 h0f8 h0f11 h1f0 h1f1 h1f2 h7f8 h7f9 h7f10 h7f11 h9f1 (zA [h0, h1, h7, h9, h12, h14, h38, h39, h40, h41, h42, h43, h44, h45] sz)) (zA [h0, h1, h7, h9, h12, h14, h38, h39, h40, h41, h42, h43, h44, h45] sz)) 0 0 (zA [h0, h1, h7, h9, h12, h14, h38, h39, h40, h41, h42, h43, h44, h45] sz) := by
  refine tz_begin (as := [h0, h1, h7, h9, h12, h14, h38, h39, h40, h41, h42, h43, h44, h45]) (Qc := fun A => qI (B_cX10_countImage_54b83 D k h0 h1 h7 h9 h12 h14 h38 h39 h40 h41 h42 h43 h44 h45 h2 h3 h4 h5 h6 h8 h10 h11 h13 x1 h0f2 h0f6 h0f8 h0f11 h1f0 h1f1 h1f2 h7f8 h7f9 h7f10 h7f11 h9f1 A) A) (by decide +kernel) rfl (Nat.le_of_ble_eq_true rfl) ?_
  intro p e s m args below meth c ls A Q hx hb hr hml hown hlocks hin hU hK hT hS hA hl hQ
  have hl : lv_has ls 3 [(0, .ref h0), (1, .int x1)] := hl
  have hT : TP D A [(h0, ob 7 [.ref h1, .ref h2, .int h0f2, .ref h3, .ref h4, .ref h5, .int h0f6, .ref h6, .int h0f8, .ref h7, .ref h8, .int h0f11, .ref h9, .ref h10, .ref h11, .ref h12, .ref h13]), (h1, ob 4 [.int h1f0, .int h1f1, .int h1f2, .ref h14]), (h7, ob 3 [.ref h38, .ref h39, .ref h40, .ref h41, .ref h42, .ref h43, .ref h44, .ref h45, .int h7f8, .int h7f9, .int h7f10, .int h7f11]), (h9, ob 2 [.ref h1, .int h9f1]), (h12, aJ (k 1) 9 anJ), (h14, aJ (k 1) 36 anJ), (h38, aJ (k 1) 12000 anJ), (h39, aI (k 0) 400 anI), (h40, aI (k 0) 400 anI), (h41, aI (k 0) 400 anI), (h42, aI (k 0) 1600 anI), (h43, aI (k 0) 1024 anI), (h44, aI (k 0) 400 anI), (h45, aJ (k 1) 60 anJ)] s.heap := hT
  refine lv_aload_n hx hb dX10_countImage_0 rfl (lv_at hl 0 rfl) ?_
  refine lv_aload_n hx hb dX10_countImage_1 rfl (lv_at hl 0 rfl) ?_
  refine tz_get (ci := 7) (v := .ref h1) (C := RX10) (F := TX10) (N := 17) hx hb hU iX10 hown hK hT 0 rfl rfl 0 (by decide) w249 (fun _ h9 => h9) rfl dX10_countImage_2 ?_
  refine tcI (Tc := [(h1, ob 4 [.int h1f0, .int h1f1, .int h1f2, .ref h14])]) (Tr := [(h0, ob 7 [.ref h1, .ref h2, .int h0f2, .ref h3, .ref h4, .ref h5, .int h0f6, .ref h6, .int h0f8, .ref h7, .ref h8, .int h0f11, .ref h9, .ref h10, .ref h11, .ref h12, .ref h13]), (h7, ob 3 [.ref h38, .ref h39, .ref h40, .ref h41, .ref h42, .ref h43, .ref h44, .ref h45, .int h7f8, .int h7f9, .int h7f10, .int h7f11]), (h9, ob 2 [.ref h1, .int h9f1]), (h12, aJ (k 1) 9 anJ), (h14, aJ (k 1) 36 anJ), (h38, aJ (k 1) 12000 anJ), (h39, aI (k 0) 400 anI), (h40, aI (k 0) 400 anI), (h41, aI (k 0) 400 anI), (h42, aI (k 0) 1600 anI), (h43, aI (k 0) 1024 anI), (h44, aI (k 0) 400 anI), (h45, aJ (k 1) 60 anJ)]) (as := [h1]) (zcV (q0 := 1) (ci := 4) (As := []) (rest := [.ref h0]) (Tc := [(h1, ob 4 [.int h1f0, .int h1f1, .int h1f2, .ref h14])]) hx hb hml hown hU hK hT rfl rfl [1] rfl (by decide) (cX5_cellCount_642c9 l D k _ h1 h14 h1f0 h1f1 h1f2 (by omega) (by omega)) w385 w382 w383 w384 w64 hdX5_cellCount ⟨rfl, rfl⟩ ⟨Nat.le_of_ble_eq_true rfl, Nat.le_of_ble_eq_true rfl⟩ rfl hl.1 (Nat.le_of_ble_eq_true rfl) dX10_countImage_5 ⟨Nat.le_of_ble_eq_true rfl, Nat.le_of_ble_eq_true rfl⟩) hT hS hA [1] [0, 2, 3, 4, 5, 6, 7, 8, 9, 10, 11, 12, 13] rfl rfl rfl (by decide) (by decide) (fun r1 H locs hB J hS => ?_)
  obtain ⟨b_r1, hT1⟩ := hB
  have hT := J _ hT1
  have hT : TP D A [(h0, ob 7 [.ref h1, .ref h2, .int h0f2, .ref h3, .ref h4, .ref h5, .int h0f6, .ref h6, .int h0f8, .ref h7, .ref h8, .int h0f11, .ref h9, .ref h10, .ref h11, .ref h12, .ref h13]), (h7, ob 3 [.ref h38, .ref h39, .ref h40, .ref h41, .ref h42, .ref h43, .ref h44, .ref h45, .int h7f8, .int h7f9, .int h7f10, .int h7f11]), (h9, ob 2 [.ref h1, .int h9f1]), (h12, aJ (k 1) 9 anJ), (h14, aJ (k 1) 36 anJ), (h38, aJ (k 1) 12000 anJ), (h39, aI (k 0) 400 anI), (h40, aI (k 0) 400 anI), (h41, aI (k 0) 400 anI), (h42, aI (k 0) 1600 anI), (h43, aI (k 0) 1024 anI), (h44, aI (k 0) 400 anI), (h45, aJ (k 1) 60 anJ), (h1, ob 4 [.int h1f0, .int h1f1, .int h1f2, .ref h14])] _ := hT
  refine lv_sipush (v := 400) hx hb dX10_countImage_8 (by decide) ?_
  have q_q3 := li_400
  refine tcR (Tc := [(h0, ob 7 [.ref h1, .ref h2, .int h0f2, .ref h3, .ref h4, .ref h5, .int h0f6, .ref h6, .int h0f8, .ref h7, .ref h8, .int h0f11, .ref h9, .ref h10, .ref h11, .ref h12, .ref h13]), (h7, ob 3 [.ref h38, .ref h39, .ref h40, .ref h41, .ref h42, .ref h43, .ref h44, .ref h45, .int h7f8, .int h7f9, .int h7f10, .int h7f11]), (h43, aI (k 0) 1024 anI), (h44, aI (k 0) 400 anI)]) (Tr := [(h9, ob 2 [.ref h1, .int h9f1]), (h12, aJ (k 1) 9 anJ), (h14, aJ (k 1) 36 anJ), (h38, aJ (k 1) 12000 anJ), (h39, aI (k 0) 400 anI), (h40, aI (k 0) 400 anI), (h41, aI (k 0) 400 anI), (h42, aI (k 0) 1600 anI), (h45, aJ (k 1) 60 anJ), (h1, ob 4 [.int h1f0, .int h1f1, .int h1f2, .ref h14])]) (as := [h0, h7, h43, h44]) (zcV (q0 := 0) (ci := 7) (As := [.int r1, .int 400]) (rest := []) (Tc := [(h0, ob 7 [.ref h1, .ref h2, .int h0f2, .ref h3, .ref h4, .ref h5, .int h0f6, .ref h6, .int h0f8, .ref h7, .ref h8, .int h0f11, .ref h9, .ref h10, .ref h11, .ref h12, .ref h13]), (h7, ob 3 [.ref h38, .ref h39, .ref h40, .ref h41, .ref h42, .ref h43, .ref h44, .ref h45, .int h7f8, .int h7f9, .int h7f10, .int h7f11]), (h43, aI (k 0) 1024 anI), (h44, aI (k 0) 400 anI)]) hx hb hml hown hU hK hT rfl rfl [0, 1, 10, 11] rfl (by decide) (cX10_clearBench_b283c l D k _ h0 h7 h43 h44 h1 h2 h3 h4 h5 h6 h8 h9 h10 h11 h12 h13 h38 h39 h40 h41 h42 h45 r1 (400) h0f2 h0f6 h0f8 h0f11 h7f8 h7f9 h7f10 h7f11 (by omega) (by have := li_400; omega) (by omega) (by omega) (by omega) (by omega) (by omega) (by omega) (by omega) (by omega)) w672 w669 w671 w22 w63 hdX10_clearBench ⟨rfl, rfl⟩ ⟨Nat.le_of_ble_eq_true rfl, Nat.le_of_ble_eq_true rfl⟩ rfl hl.1 (Nat.le_of_ble_eq_true rfl) dX10_countImage_11 ⟨Nat.le_of_ble_eq_true rfl, Nat.le_of_ble_eq_true rfl⟩) hT hS hA [0, 1, 10, 11] [2, 3, 4, 5, 6, 7, 8, 9, 12, 13] rfl rfl rfl (by decide) (by decide) (fun r2 H locs hB J hS => ?_)
  obtain ⟨rfl, hT1⟩ := hB
  have hT := J _ hT1
  have hT : TP D A [(h9, ob 2 [.ref h1, .int h9f1]), (h12, aJ (k 1) 9 anJ), (h14, aJ (k 1) 36 anJ), (h38, aJ (k 1) 12000 anJ), (h39, aI (k 0) 400 anI), (h40, aI (k 0) 400 anI), (h41, aI (k 0) 400 anI), (h42, aI (k 0) 1600 anI), (h45, aJ (k 1) 60 anJ), (h1, ob 4 [.int h1f0, .int h1f1, .int h1f2, .ref h14]), (h0, ob 7 [.ref h1, .ref h2, .int h0f2, .ref h3, .ref h4, .ref h5, .int h0f6, .ref h6, .int h0f8, .ref h7, .ref h8, .int h0f11, .ref h9, .ref h10, .ref h11, .ref h12, .ref h13]), (h7, ob 3 [.ref h38, .ref h39, .ref h40, .ref h41, .ref h42, .ref h43, .ref h44, .ref h45, .int r1, .int 400, .int 0, .int 0]), (h43, aI (k 0) 1024 (rgI (-1) (0 - 1))), (h44, aI (k 0) 400 (pfI (0)))] _ := hT
  refine lv_astore_n (lv' := [(2, .ref h7), (0, .ref h0), (1, .int x1)]) hx hb dX10_countImage_14 rfl hl (by decide) rfl (fun ls hl => ?_)
  refine lv_aload_n hx hb dX10_countImage_15 rfl (lv_at hl 1 rfl) ?_
  refine tz_get (ci := 7) (v := .ref h12) (C := RX10) (F := TX10) (N := 17) hx hb hU iX10 hown hK hT 10 rfl rfl 15 (by decide) w264 (fun _ h9 => h9) rfl dX10_countImage_16 ?_
  refine lv_aload_n hx hb dX10_countImage_19 rfl (lv_at hl 1 rfl) ?_
  refine tz_get (ci := 7) (v := .ref h1) (C := RX10) (F := TX10) (N := 17) hx hb hU iX10 hown hK hT 10 rfl rfl 0 (by decide) w249 (fun _ h9 => h9) rfl dX10_countImage_20 ?_
  refine tz_get (ci := 4) (v := .int h1f0) (C := RX5) (F := TX5) (N := 4) hx hb hU iX5 hown hK hT 9 rfl rfl 0 (by decide) w93 (fun _ h9 => h9) rfl dX10_countImage_23 ?_
  refine tcV (Tc := [(h12, aJ (k 1) 9 anJ)]) (Tr := [(h9, ob 2 [.ref h1, .int h9f1]), (h14, aJ (k 1) 36 anJ), (h38, aJ (k 1) 12000 anJ), (h39, aI (k 0) 400 anI), (h40, aI (k 0) 400 anI), (h41, aI (k 0) 400 anI), (h42, aI (k 0) 1600 anI), (h45, aJ (k 1) 60 anJ), (h1, ob 4 [.int h1f0, .int h1f1, .int h1f2, .ref h14]), (h0, ob 7 [.ref h1, .ref h2, .int h0f2, .ref h3, .ref h4, .ref h5, .int h0f6, .ref h6, .int h0f8, .ref h7, .ref h8, .int h0f11, .ref h9, .ref h10, .ref h11, .ref h12, .ref h13]), (h7, ob 3 [.ref h38, .ref h39, .ref h40, .ref h41, .ref h42, .ref h43, .ref h44, .ref h45, .int r1, .int 400, .int 0, .int 0]), (h43, aI (k 0) 1024 (rgI (-1) (0 - 1))), (h44, aI (k 0) 400 (pfI (0)))]) (as := [h12]) (zcS (As := [.ref h12, .int h1f0]) (rest := []) (Tc := [(h12, aJ (k 1) 9 anJ)]) hx hb hml hown hU hK hT [1] rfl (by decide) (cX7_becomeOne_9e486 l D k _ h12 h1f0 (by omega)) w333 w331 w332 w74 hdX7_becomeOne ⟨rfl, rfl⟩ ⟨Nat.le_of_ble_eq_true rfl, Nat.le_of_ble_eq_true rfl⟩ rfl hl.1 (Nat.le_of_ble_eq_true rfl) dX10_countImage_26 ⟨Nat.le_of_ble_eq_true rfl, Nat.le_of_ble_eq_true rfl⟩) hT hS hA [1] [0, 2, 3, 4, 5, 6, 7, 8, 9, 10, 11, 12, 13] rfl rfl rfl (by decide) (by decide) (fun H locs hB J hS => ?_)
  have hT1 := hB
  have hT := J _ hT1
  have hT : TP D A [(h9, ob 2 [.ref h1, .int h9f1]), (h14, aJ (k 1) 36 anJ), (h38, aJ (k 1) 12000 anJ), (h39, aI (k 0) 400 anI), (h40, aI (k 0) 400 anI), (h41, aI (k 0) 400 anI), (h42, aI (k 0) 1600 anI), (h45, aJ (k 1) 60 anJ), (h1, ob 4 [.int h1f0, .int h1f1, .int h1f2, .ref h14]), (h0, ob 7 [.ref h1, .ref h2, .int h0f2, .ref h3, .ref h4, .ref h5, .int h0f6, .ref h6, .int h0f8, .ref h7, .ref h8, .int h0f11, .ref h9, .ref h10, .ref h11, .ref h12, .ref h13]), (h7, ob 3 [.ref h38, .ref h39, .ref h40, .ref h41, .ref h42, .ref h43, .ref h44, .ref h45, .int r1, .int 400, .int 0, .int 0]), (h43, aI (k 0) 1024 (rgI (-1) (0 - 1))), (h44, aI (k 0) 400 (pfI (0))), (h12, aJ (k 1) 9 anJ)] _ := hT
  refine lv_aload_n hx hb dX10_countImage_29 rfl (lv_at hl 0 rfl) ?_
  refine lv_aload_n hx hb dX10_countImage_30 rfl (lv_at hl 1 rfl) ?_
  refine tz_get (ci := 7) (v := .ref h12) (C := RX10) (F := TX10) (N := 17) hx hb hU iX10 hown hK hT 9 rfl rfl 15 (by decide) w264 (fun _ h9 => h9) rfl dX10_countImage_31 ?_
  refine lv_bipush (v := (-3)) hx hb dX10_countImage_34 (by decide) ?_
  refine lv_bipush (v := (-3)) hx hb dX10_countImage_36 (by decide) ?_
  have q_q6 := li_m3
  have q_q7 := li_m3
  have q_q8 := li_400
  have q_q9 := li_0
  have q_q10 := li_0
  refine tcI (Tc := [(h7, ob 3 [.ref h38, .ref h39, .ref h40, .ref h41, .ref h42, .ref h43, .ref h44, .ref h45, .int r1, .int 400, .int 0, .int 0]), (h12, aJ (k 1) 9 anJ), (h38, aJ (k 1) 12000 anJ), (h39, aI (k 0) 400 anI), (h40, aI (k 0) 400 anI), (h41, aI (k 0) 400 anI), (h43, aI (k 0) 1024 (rgI (-1) (0 - 1))), (h44, aI (k 0) 400 (pfI (0)))]) (Tr := [(h9, ob 2 [.ref h1, .int h9f1]), (h14, aJ (k 1) 36 anJ), (h42, aI (k 0) 1600 anI), (h45, aJ (k 1) 60 anJ), (h1, ob 4 [.int h1f0, .int h1f1, .int h1f2, .ref h14]), (h0, ob 7 [.ref h1, .ref h2, .int h0f2, .ref h3, .ref h4, .ref h5, .int h0f6, .ref h6, .int h0f8, .ref h7, .ref h8, .int h0f11, .ref h9, .ref h10, .ref h11, .ref h12, .ref h13])]) (as := [h7, h12, h38, h39, h40, h41, h43, h44]) (zcV (q0 := 10) (ci := 3) (As := [.ref h12, .int (-3), .int (-3)]) (rest := []) (Tc := [(h7, ob 3 [.ref h38, .ref h39, .ref h40, .ref h41, .ref h42, .ref h43, .ref h44, .ref h45, .int r1, .int 400, .int 0, .int 0]), (h12, aJ (k 1) 9 anJ), (h38, aJ (k 1) 12000 anJ), (h39, aI (k 0) 400 anI), (h40, aI (k 0) 400 anI), (h41, aI (k 0) 400 anI), (h43, aI (k 0) 1024 (rgI (-1) (0 - 1))), (h44, aI (k 0) 400 (pfI (0)))]) hx hb hml hown hU hK hT rfl rfl [10, 13, 2, 3, 4, 5, 11, 12] rfl (by decide) (cX4_append_aa194 l D k _ h7 h12 h38 h39 h40 h41 h43 h44 h42 h45 ((-3)) ((-3)) r1 (400) (0) (0) (by have := li_m3; omega) (by have := li_m3; omega) (by omega) (by have := li_400; omega) (by have := li_0; omega) (by have := li_0; omega)) w501 w498 w499 w500 w66 hdX4_append ⟨rfl, rfl⟩ ⟨Nat.le_of_ble_eq_true rfl, Nat.le_of_ble_eq_true rfl⟩ rfl hl.1 (Nat.le_of_ble_eq_true rfl) dX10_countImage_38 ⟨Nat.le_of_ble_eq_true rfl, Nat.le_of_ble_eq_true rfl⟩) hT hS hA [10, 13, 2, 3, 4, 5, 11, 12] [0, 1, 6, 7, 8, 9] rfl rfl rfl (by decide) (by decide) (fun r5 H locs hB J hS => ?_)
  obtain ⟨v11, b_v11, b_r5, hT1⟩ := hB
  have hT := J _ hT1
  have hT : TP D A [(h9, ob 2 [.ref h1, .int h9f1]), (h14, aJ (k 1) 36 anJ), (h42, aI (k 0) 1600 anI), (h45, aJ (k 1) 60 anJ), (h1, ob 4 [.int h1f0, .int h1f1, .int h1f2, .ref h14]), (h0, ob 7 [.ref h1, .ref h2, .int h0f2, .ref h3, .ref h4, .ref h5, .int h0f6, .ref h6, .int h0f8, .ref h7, .ref h8, .int h0f11, .ref h9, .ref h10, .ref h11, .ref h12, .ref h13]), (h7, ob 3 [.ref h38, .ref h39, .ref h40, .ref h41, .ref h42, .ref h43, .ref h44, .ref h45, .int r1, .int 400, .int v11, .int 0]), (h12, aJ (k 1) 9 anJ), (h38, aJ (k 1) 12000 anJ), (h39, aI (k 0) 400 anI), (h40, aI (k 0) 400 anI), (h41, aI (k 0) 400 anI), (h43, aI (k 0) 1024 (rgI (-1) (v11.toInt - 1))), (h44, aI (k 0) 400 (pfI (v11.toInt)))] _ := hT
  refine lv_pop hx hb dX10_countImage_41 rfl ?_
  refine lv_aload_n hx hb dX10_countImage_42 rfl (lv_at hl 1 rfl) ?_
  refine tz_get (ci := 7) (v := .ref h9) (C := RX10) (F := TX10) (N := 17) hx hb hU iX10 hown hK hT 5 rfl rfl 12 (by decide) w261 (fun _ h9 => h9) rfl dX10_countImage_43 ?_
  refine lv_iload_n hx hb dX10_countImage_46 rfl (lv_at hl 2 rfl) ?_
  refine tz_put (ci := 2) (v := .int x1) (ty := .int) (C := RX2) (F := TX2) (N := 2) hx hb hU iX2 tyX2 tyX2_ok nmX2 hown hK hT hS 0 rfl rfl 1 (by decide) w206 (fun _ h9 => h9) rfl (by decide +kernel) rfl rfl (Nat.le_of_ble_eq_true rfl) dX10_countImage_47 (fun H locs hT hS => ?_)
  have hT : TP D A [(h9, ob 2 [.ref h1, .int x1]), (h14, aJ (k 1) 36 anJ), (h42, aI (k 0) 1600 anI), (h45, aJ (k 1) 60 anJ), (h1, ob 4 [.int h1f0, .int h1f1, .int h1f2, .ref h14]), (h0, ob 7 [.ref h1, .ref h2, .int h0f2, .ref h3, .ref h4, .ref h5, .int h0f6, .ref h6, .int h0f8, .ref h7, .ref h8, .int h0f11, .ref h9, .ref h10, .ref h11, .ref h12, .ref h13]), (h7, ob 3 [.ref h38, .ref h39, .ref h40, .ref h41, .ref h42, .ref h43, .ref h44, .ref h45, .int r1, .int 400, .int v11, .int 0]), (h12, aJ (k 1) 9 anJ), (h38, aJ (k 1) 12000 anJ), (h39, aI (k 0) 400 anI), (h40, aI (k 0) 400 anI), (h41, aI (k 0) 400 anI), (h43, aI (k 0) 1024 (rgI (-1) (v11.toInt - 1))), (h44, aI (k 0) 400 (pfI (v11.toInt)))] _ := hT
  refine lv_aload_n hx hb dX10_countImage_50 rfl (lv_at hl 0 rfl) ?_
  refine lv_aload_n hx hb dX10_countImage_51 rfl (lv_at hl 1 rfl) ?_
  refine tz_get (ci := 7) (v := .ref h9) (C := RX10) (F := TX10) (N := 17) hx hb hU iX10 hown hK hT 5 rfl rfl 12 (by decide) w261 (fun _ h9 => h9) rfl dX10_countImage_52 ?_
  refine lv_aload_n hx hb dX10_countImage_55 rfl (lv_at hl 1 rfl) ?_
  refine tz_get (ci := 7) (v := .ref h1) (C := RX10) (F := TX10) (N := 17) hx hb hU iX10 hown hK hT 5 rfl rfl 0 (by decide) w249 (fun _ h9 => h9) rfl dX10_countImage_56 ?_
  refine tz_get (ci := 4) (v := .int h1f1) (C := RX5) (F := TX5) (N := 4) hx hb hU iX5 hown hK hT 4 rfl rfl 1 (by decide) w97 (fun _ h9 => h9) rfl dX10_countImage_59 ?_
  have q_q13 := li_400
  have q_q14 := li_0
  refine tcV (Tc := [(h7, ob 3 [.ref h38, .ref h39, .ref h40, .ref h41, .ref h42, .ref h43, .ref h44, .ref h45, .int r1, .int 400, .int v11, .int 0]), (h9, ob 2 [.ref h1, .int x1]), (h38, aJ (k 1) 12000 anJ), (h39, aI (k 0) 400 anI), (h40, aI (k 0) 400 anI), (h41, aI (k 0) 400 anI), (h42, aI (k 0) 1600 anI), (h43, aI (k 0) 1024 (rgI (-1) (v11.toInt - 1))), (h44, aI (k 0) 400 (pfI (v11.toInt))), (h45, aJ (k 1) 60 anJ), (h1, ob 4 [.int h1f0, .int h1f1, .int h1f2, .ref h14]), (h14, aJ (k 1) 36 anJ)]) (Tr := [(h0, ob 7 [.ref h1, .ref h2, .int h0f2, .ref h3, .ref h4, .ref h5, .int h0f6, .ref h6, .int h0f8, .ref h7, .ref h8, .int h0f11, .ref h9, .ref h10, .ref h11, .ref h12, .ref h13]), (h12, aJ (k 1) 9 anJ)]) (as := [h7, h9, h38, h39, h40, h41, h42, h43, h44, h45, h1, h14]) (zcV (q0 := 6) (ci := 3) (As := [.ref h9, .int h1f1]) (rest := []) (Tc := [(h7, ob 3 [.ref h38, .ref h39, .ref h40, .ref h41, .ref h42, .ref h43, .ref h44, .ref h45, .int r1, .int 400, .int v11, .int 0]), (h9, ob 2 [.ref h1, .int x1]), (h38, aJ (k 1) 12000 anJ), (h39, aI (k 0) 400 anI), (h40, aI (k 0) 400 anI), (h41, aI (k 0) 400 anI), (h42, aI (k 0) 1600 anI), (h43, aI (k 0) 1024 (rgI (-1) (v11.toInt - 1))), (h44, aI (k 0) 400 (pfI (v11.toInt))), (h45, aJ (k 1) 60 anJ), (h1, ob 4 [.int h1f0, .int h1f1, .int h1f2, .ref h14]), (h14, aJ (k 1) 36 anJ)]) hx hb hml hown hU hK hT rfl rfl [6, 0, 8, 9, 10, 11, 2, 12, 13, 3, 4, 1] rfl (by decide) (cX4_spread_a044b l D k _ h7 h9 h38 h39 h40 h41 h42 h43 h44 h45 h1 h14 h1f1 r1 (400) v11 (0) x1 h1f0 h1f1 h1f2 (by omega) (by omega) (by have := li_400; omega) (by omega) (by have := li_0; omega) (by omega) (by omega) (by omega)) w519 w516 w517 w518 w66 hdX4_spread ⟨rfl, rfl⟩ ⟨Nat.le_of_ble_eq_true rfl, Nat.le_of_ble_eq_true rfl⟩ rfl hl.1 (Nat.le_of_ble_eq_true rfl) dX10_countImage_62 ⟨Nat.le_of_ble_eq_true rfl, Nat.le_of_ble_eq_true rfl⟩) hT hS hA [6, 0, 8, 9, 10, 11, 2, 12, 13, 3, 4, 1] [5, 7] rfl rfl rfl (by decide) (by decide) (fun H locs hB J hS => ?_)
  obtain ⟨v15, v16, b_v15, b_v16, hT1⟩ := hB
  have hT := J _ hT1
  have hT : TP D A [(h0, ob 7 [.ref h1, .ref h2, .int h0f2, .ref h3, .ref h4, .ref h5, .int h0f6, .ref h6, .int h0f8, .ref h7, .ref h8, .int h0f11, .ref h9, .ref h10, .ref h11, .ref h12, .ref h13]), (h12, aJ (k 1) 9 anJ), (h7, ob 3 [.ref h38, .ref h39, .ref h40, .ref h41, .ref h42, .ref h43, .ref h44, .ref h45, .int r1, .int 400, .int v15, .int v16]), (h9, ob 2 [.ref h1, .int x1]), (h38, aJ (k 1) 12000 anJ), (h39, aI (k 0) 400 anI), (h40, aI (k 0) 400 anI), (h41, aI (k 0) 400 anI), (h42, aI (k 0) 1600 anI), (h43, aI (k 0) 1024 (rgI (-1) (v15.toInt - 1))), (h44, aI (k 0) 400 (pfI (v15.toInt))), (h45, aJ (k 1) 60 anJ), (h1, ob 4 [.int h1f0, .int h1f1, .int h1f2, .ref h14]), (h14, aJ (k 1) 36 anJ)] _ := hT
  refine lv_aload_n hx hb dX10_countImage_65 rfl (lv_at hl 0 rfl) ?_
  refine tz_get (ci := 3) (v := .int v15) (C := RX4) (F := TX4) (N := 12) hx hb hU iX4 hown hK hT 2 rfl rfl 10 (by decide) w166 (fun _ h9 => h9) rfl dX10_countImage_66 ?_
  have hT := hT.wk (q := 9) rfl (an_I (c := k 0) (n := 1024))
  have hT : TP D A [(h0, ob 7 [.ref h1, .ref h2, .int h0f2, .ref h3, .ref h4, .ref h5, .int h0f6, .ref h6, .int h0f8, .ref h7, .ref h8, .int h0f11, .ref h9, .ref h10, .ref h11, .ref h12, .ref h13]), (h12, aJ (k 1) 9 anJ), (h7, ob 3 [.ref h38, .ref h39, .ref h40, .ref h41, .ref h42, .ref h43, .ref h44, .ref h45, .int r1, .int 400, .int v15, .int v16]), (h9, ob 2 [.ref h1, .int x1]), (h38, aJ (k 1) 12000 anJ), (h39, aI (k 0) 400 anI), (h40, aI (k 0) 400 anI), (h41, aI (k 0) 400 anI), (h42, aI (k 0) 1600 anI), (h43, aI (k 0) 1024 anI), (h44, aI (k 0) 400 (pfI (v15.toInt))), (h45, aJ (k 1) 60 anJ), (h1, ob 4 [.int h1f0, .int h1f1, .int h1f2, .ref h14]), (h14, aJ (k 1) 36 anJ)] _ := hT
  have hT := hT.wk (q := 10) rfl (an_I (c := k 0) (n := 400))
  have hT : TP D A [(h0, ob 7 [.ref h1, .ref h2, .int h0f2, .ref h3, .ref h4, .ref h5, .int h0f6, .ref h6, .int h0f8, .ref h7, .ref h8, .int h0f11, .ref h9, .ref h10, .ref h11, .ref h12, .ref h13]), (h12, aJ (k 1) 9 anJ), (h7, ob 3 [.ref h38, .ref h39, .ref h40, .ref h41, .ref h42, .ref h43, .ref h44, .ref h45, .int r1, .int 400, .int v15, .int v16]), (h9, ob 2 [.ref h1, .int x1]), (h38, aJ (k 1) 12000 anJ), (h39, aI (k 0) 400 anI), (h40, aI (k 0) 400 anI), (h41, aI (k 0) 400 anI), (h42, aI (k 0) 1600 anI), (h43, aI (k 0) 1024 anI), (h44, aI (k 0) 400 anI), (h45, aJ (k 1) 60 anJ), (h1, ob 4 [.int h1f0, .int h1f1, .int h1f2, .ref h14]), (h14, aJ (k 1) 36 anJ)] _ := hT
  exact tz_retI (B := B_cX10_countImage_54b83 D k h0 h1 h7 h9 h12 h14 h38 h39 h40 h41 h42 h43 h44 h45 h2 h3 h4 h5 h6 h8 h10 h11 h13 x1 h0f2 h0f6 h0f8 h0f11 h1f0 h1f1 h1f2 h7f8 h7f9 h7f10 h7f11 h9f1) (v := v15) hQ hx hb hr hlocks hS (Nat.le_of_ble_eq_true rfl) (Nat.le_of_ble_eq_true rfl) dX10_countImage_69 (⟨r1, v15, v16, (by omega), (by omega), (by omega), (by omega), (hT.sub [0, 12, 2, 3, 1, 13, 4, 5, 6, 7, 8, 9, 10, 11] (by decide) rfl)⟩)
abbrev Rm_cX10_image_53bd6 : Room := { frames := 6, cells := 0, slots := 0, locals := 151 }
abbrev B_cX10_image_53bd6 (D : va_G) (k : Nat → ClassId) (h0 h1 h7 h8 h9 h12 h14 h38 h39 h40 h41 h42 h43 h44 h45 h2 h3 h4 h5 h6 h10 h11 h13 : Nat) (x1 : Int32) (h0f2 : Int32) (h0f6 : Int32) (h0f8 : Int32) (h0f11 : Int32) (h1f0 : Int32) (h1f1 : Int32) (h1f2 : Int32) (h7f8 : Int32) (h7f9 : Int32) (h7f10 : Int32) (h7f11 : Int32) (h9f1 : Int32) (A : Nat → Prop) (r : Int32) (H : Heap) : Prop := ∃ o0 : Int32, ∃ o1 : Int32, ∃ o2 : Int32, ∃ o3 : Int32, ∃ o4 : Int32, (0 ≤ o0.toInt ∧ o0.toInt ≤ 60) ∧ (0 ≤ o1.toInt ∧ o1.toInt ≤ 400) ∧ (0 ≤ o2.toInt ∧ o2.toInt ≤ 400) ∧ (0 ≤ o3.toInt ∧ o3.toInt ≤ 1) ∧ (0 ≤ o4.toInt ∧ o4.toInt ≤ 7) ∧ TP D A [(h0, ob 7 [.ref h1, .ref h2, .int h0f2, .ref h3, .ref h4, .ref h5, .int h0f6, .ref h6, .int h0f8, .ref h7, .ref h8, .int h0f11, .ref h9, .ref h10, .ref h11, .ref h12, .ref h13]), (h1, ob 4 [.int h1f0, .int h1f1, .int h1f2, .ref h14]), (h7, ob 3 [.ref h38, .ref h39, .ref h40, .ref h41, .ref h42, .ref h43, .ref h44, .ref h45, .int o0, .int o1, .int o2, .int o3]), (h8, aI (k 0) 8 anI), (h9, ob 2 [.ref h1, .int o4]), (h12, aJ (k 1) 9 anJ), (h14, aJ (k 1) 36 anJ), (h38, aJ (k 1) 12000 anJ), (h39, aI (k 0) 400 anI), (h40, aI (k 0) 400 anI), (h41, aI (k 0) 400 anI), (h42, aI (k 0) 1600 anI), (h43, aI (k 0) 1024 anI), (h44, aI (k 0) 400 anI), (h45, aJ (k 1) 60 anJ)] H
set_option maxHeartbeats 4000000 in
set_option maxRecDepth 100000 in
theorem cX10_image_53bd6 (l : Launch) (D : va_G) (k : Nat → ClassId) (sz : Nat) (h0 h1 h7 h8 h9 h12 h14 h38 h39 h40 h41 h42 h43 h44 h45 h2 h3 h4 h5 h6 h10 h11 h13 : Nat) (x1 : Int32) (h0f2 : Int32) (h0f6 : Int32) (h0f8 : Int32) (h0f11 : Int32) (h1f0 : Int32) (h1f1 : Int32) (h1f2 : Int32) (h7f8 : Int32) (h7f9 : Int32) (h7f10 : Int32) (h7f11 : Int32) (h9f1 : Int32) (b_h0f2 : 0 ≤ h0f2.toInt ∧ h0f2.toInt ≤ 1) (b_h0f6 : 0 ≤ h0f6.toInt ∧ h0f6.toInt ≤ 1) (b_h0f8 : 0 ≤ h0f8.toInt ∧ h0f8.toInt ≤ 1) (b_h0f11 : 0 ≤ h0f11.toInt ∧ h0f11.toInt ≤ 200) (b_h1f0 : 1 ≤ h1f0.toInt ∧ h1f0.toInt ≤ 3) (b_h1f1 : 0 ≤ h1f1.toInt ∧ h1f1.toInt ≤ 4) (b_h7f8 : 0 ≤ h7f8.toInt ∧ h7f8.toInt ≤ 60) (b_h7f9 : 0 ≤ h7f9.toInt ∧ h7f9.toInt ≤ 400) (b_h7f10 : 0 ≤ h7f10.toInt ∧ h7f10.toInt ≤ 400) (b_h7f11 : 0 ≤ h7f11.toInt ∧ h7f11.toInt ≤ 1) (b_h9f1 : 0 ≤ h9f1.toInt ∧ h9f1.toInt ≤ 7) : Met l yX10_image (Cond.code yX10_image cX10_image 2 (some .int) :: uw) Rm_cX10_image_53bd6 (pT D k sz [.ref h0, .int x1] [(h0, ob 7 [.ref h1, .ref h2, .int h0f2, .ref h3, .ref h4, .ref h5, .int h0f6, .ref h6, .int h0f8, .ref h7, .ref h8, .int h0f11, .ref h9, .ref h10, .ref h11, .ref h12, .ref h13]), (h1, ob 4 [.int h1f0, .int h1f1, .int h1f2, .ref h14]), (h7, ob 3 [.ref h38, .ref h39, .ref h40, .ref h41, .ref h42, .ref h43, .ref h44, .ref h45, .int h7f8, .int h7f9, .int h7f10, .int h7f11]), (h8, aI (k 0) 8 anI), (h9, ob 2 [.ref h1, .int h9f1]), (h12, aJ (k 1) 9 anJ), (h14, aJ (k 1) 36 anJ), (h38, aJ (k 1) 12000 anJ), (h39, aI (k 0) 400 anI), (h40, aI (k 0) 400 anI), (h41, aI (k 0) 400 anI), (h42, aI (k 0) 1600 anI), (h43, aI (k 0) 1024 anI), (h44, aI (k 0) 400 anI), (h45, aJ (k 1) 60 anJ)]) (qI (B_cX10_image_53bd6 D k h0 h1 h7 h8 h9 h12 h14 h38 h39 h40 h41 h42 h43 h44 h45 h2 h3 h4 h5 h6 h10 h11 h13 x1 h0f2 h0f6 h0f8 h0f11 h1f0 h1f1 h1f2 h7f8 h7f9 h7f10 h7f11 h9f1 (zA [h0, h1, h7, h8, h9, h12, h14, h38, h39, h40, h41, h42, h43, h44, h45] sz)) (zA [h0, h1, h7, h8, h9, h12, h14, h38, h39, h40, h41, h42, h43, h44, h45] sz)) 0 0 (zA [h0, h1, h7, h8, h9, h12, h14, h38, h39, h40, h41, h42, h43, h44, h45] sz) := by
  refine tz_begin (as := [h0, h1, h7, h8, h9, h12, h14, h38, h39, h40, h41, h42, h43, h44, h45]) (Qc := fun A => qI (B_cX10_image_53bd6 D k h0 h1 h7 h8 h9 h12 h14 h38 h39 h40 h41 h42 h43 h44 h45 h2 h3 h4 h5 h6 h10 h11 h13 x1 h0f2 h0f6 h0f8 h0f11 h1f0 h1f1 h1f2 h7f8 h7f9 h7f10 h7f11 h9f1 A) A) (by decide +kernel) rfl (Nat.le_of_ble_eq_true rfl) ?_
  intro p e s m args below meth c ls A Q hx hb hr hml hown hlocks hin hU hK hT hS hA hl hQ
  have hl : lv_has ls 2 [(0, .ref h0), (1, .int x1)] := hl
  have hT : TP D A [(h0, ob 7 [.ref h1, .ref h2, .int h0f2, .ref h3, .ref h4, .ref h5, .int h0f6, .ref h6, .int h0f8, .ref h7, .ref h8, .int h0f11, .ref h9, .ref h10, .ref h11, .ref h12, .ref h13]), (h1, ob 4 [.int h1f0, .int h1f1, .int h1f2, .ref h14]), (h7, ob 3 [.ref h38, .ref h39, .ref h40, .ref h41, .ref h42, .ref h43, .ref h44, .ref h45, .int h7f8, .int h7f9, .int h7f10, .int h7f11]), (h8, aI (k 0) 8 anI), (h9, ob 2 [.ref h1, .int h9f1]), (h12, aJ (k 1) 9 anJ), (h14, aJ (k 1) 36 anJ), (h38, aJ (k 1) 12000 anJ), (h39, aI (k 0) 400 anI), (h40, aI (k 0) 400 anI), (h41, aI (k 0) 400 anI), (h42, aI (k 0) 1600 anI), (h43, aI (k 0) 1024 anI), (h44, aI (k 0) 400 anI), (h45, aJ (k 1) 60 anJ)] s.heap := hT
  refine lv_iload_n hx hb dX10_image_0 rfl (lv_at hl 1 rfl) ?_
  refine tcI (Tc := []) (Tr := [(h0, ob 7 [.ref h1, .ref h2, .int h0f2, .ref h3, .ref h4, .ref h5, .int h0f6, .ref h6, .int h0f8, .ref h7, .ref h8, .int h0f11, .ref h9, .ref h10, .ref h11, .ref h12, .ref h13]), (h1, ob 4 [.int h1f0, .int h1f1, .int h1f2, .ref h14]), (h7, ob 3 [.ref h38, .ref h39, .ref h40, .ref h41, .ref h42, .ref h43, .ref h44, .ref h45, .int h7f8, .int h7f9, .int h7f10, .int h7f11]), (h8, aI (k 0) 8 anI), (h9, ob 2 [.ref h1, .int h9f1]), (h12, aJ (k 1) 9 anJ), (h14, aJ (k 1) 36 anJ), (h38, aJ (k 1) 12000 anJ), (h39, aI (k 0) 400 anI), (h40, aI (k 0) 400 anI), (h41, aI (k 0) 400 anI), (h42, aI (k 0) 1600 anI), (h43, aI (k 0) 1024 anI), (h44, aI (k 0) 400 anI), (h45, aJ (k 1) 60 anJ)]) (as := []) (zcS (As := [.int x1]) (rest := []) (Tc := []) hx hb hml hown hU hK hT [] rfl (by decide) (cX10_isPrimeTaken_1c6a4 l D k _ x1) w664 w662 w663 w63 hdX10_isPrimeTaken ⟨rfl, rfl⟩ ⟨Nat.le_of_ble_eq_true rfl, Nat.le_of_ble_eq_true rfl⟩ rfl hl.1 (Nat.le_of_ble_eq_true rfl) dX10_image_1 ⟨Nat.le_of_ble_eq_true rfl, Nat.le_of_ble_eq_true rfl⟩) hT hS hA [] [0, 1, 2, 3, 4, 5, 6, 7, 8, 9, 10, 11, 12, 13, 14] rfl rfl rfl (by decide) (by decide) (fun r1 H locs hB J hS => ?_)
  rcases hB with ⟨c_2, rfl, hT1⟩ | ⟨c_3, c_4, rfl, hT1⟩ | ⟨c_5, c_6, c_7, rfl, hT1⟩ | ⟨rfl, hT1⟩ | ⟨c_8, c_9, c_10, c_11, rfl, hT1⟩
  · skip
    have hT := J _ hT1
    have hT : TP D A [(h0, ob 7 [.ref h1, .ref h2, .int h0f2, .ref h3, .ref h4, .ref h5, .int h0f6, .ref h6, .int h0f8, .ref h7, .ref h8, .int h0f11, .ref h9, .ref h10, .ref h11, .ref h12, .ref h13]), (h1, ob 4 [.int h1f0, .int h1f1, .int h1f2, .ref h14]), (h7, ob 3 [.ref h38, .ref h39, .ref h40, .ref h41, .ref h42, .ref h43, .ref h44, .ref h45, .int h7f8, .int h7f9, .int h7f10, .int h7f11]), (h8, aI (k 0) 8 anI), (h9, ob 2 [.ref h1, .int h9f1]), (h12, aJ (k 1) 9 anJ), (h14, aJ (k 1) 36 anJ), (h38, aJ (k 1) 12000 anJ), (h39, aI (k 0) 400 anI), (h40, aI (k 0) 400 anI), (h41, aI (k 0) 400 anI), (h42, aI (k 0) 1600 anI), (h43, aI (k 0) 1024 anI), (h44, aI (k 0) 400 anI), (h45, aJ (k 1) 60 anJ)] _ := hT
    refine lv_if_ne (tgt := 9) hx hb dX10_image_4 (by decide) (fun _ => ?_) (fun cc => absurd cc (by decide +kernel))
    refine lv_aload_n hx hb dX10_image_9 rfl (lv_at hl 0 rfl) ?_
    refine tz_get (ci := 7) (v := .ref h8) (C := RX10) (F := TX10) (N := 17) hx hb hU iX10 hown hK hT 0 rfl rfl 10 (by decide) w259 (fun _ h9 => h9) rfl dX10_image_10 ?_
    refine lv_iload_n hx hb dX10_image_13 rfl (lv_at hl 1 rfl) ?_
    refine tz_iald hx hb hK hT 3 rfl (by omega) dX10_image_14 (fun v12 e_v12 => ?_)
    clear e_v12
    refine lv_if_ne (tgt := 29) hx hb dX10_image_15 (by decide) (fun c_13 => ?_) (fun c_13 => ?_)
    · skip
      have c_13 := ni_ne c_13 rfl li_0
      refine lv_aload_n hx hb dX10_image_29 rfl (lv_at hl 0 rfl) ?_
      refine tz_get (ci := 7) (v := .ref h8) (C := RX10) (F := TX10) (N := 17) hx hb hU iX10 hown hK hT 0 rfl rfl 10 (by decide) w259 (fun _ h9 => h9) rfl dX10_image_30 ?_
      refine lv_iload_n hx hb dX10_image_33 rfl (lv_at hl 1 rfl) ?_
      refine tz_iald hx hb hK hT 3 rfl (by omega) dX10_image_34 (fun v14 e_v14 => ?_)
      clear e_v14
      exact tz_retI (B := B_cX10_image_53bd6 D k h0 h1 h7 h8 h9 h12 h14 h38 h39 h40 h41 h42 h43 h44 h45 h2 h3 h4 h5 h6 h10 h11 h13 x1 h0f2 h0f6 h0f8 h0f11 h1f0 h1f1 h1f2 h7f8 h7f9 h7f10 h7f11 h9f1) (v := v14) hQ hx hb hr hlocks hS (Nat.le_of_ble_eq_true rfl) (Nat.le_of_ble_eq_true rfl) dX10_image_35 (⟨h7f8, h7f9, h7f10, h7f11, h9f1, (by omega), (by omega), (by omega), (by omega), (by omega), hT⟩)
    · skip
      have c_13 := ni_eq c_13 rfl li_0
      refine lv_aload_n hx hb dX10_image_18 rfl (lv_at hl 0 rfl) ?_
      refine tz_get (ci := 7) (v := .ref h8) (C := RX10) (F := TX10) (N := 17) hx hb hU iX10 hown hK hT 0 rfl rfl 10 (by decide) w259 (fun _ h9 => h9) rfl dX10_image_19 ?_
      refine lv_iload_n hx hb dX10_image_22 rfl (lv_at hl 1 rfl) ?_
      refine lv_aload_n hx hb dX10_image_23 rfl (lv_at hl 0 rfl) ?_
      refine lv_iload_n hx hb dX10_image_24 rfl (lv_at hl 1 rfl) ?_
      refine tcI (Tc := [(h0, ob 7 [.ref h1, .ref h2, .int h0f2, .ref h3, .ref h4, .ref h5, .int h0f6, .ref h6, .int h0f8, .ref h7, .ref h8, .int h0f11, .ref h9, .ref h10, .ref h11, .ref h12, .ref h13]), (h1, ob 4 [.int h1f0, .int h1f1, .int h1f2, .ref h14]), (h7, ob 3 [.ref h38, .ref h39, .ref h40, .ref h41, .ref h42, .ref h43, .ref h44, .ref h45, .int h7f8, .int h7f9, .int h7f10, .int h7f11]), (h9, ob 2 [.ref h1, .int h9f1]), (h12, aJ (k 1) 9 anJ), (h14, aJ (k 1) 36 anJ), (h38, aJ (k 1) 12000 anJ), (h39, aI (k 0) 400 anI), (h40, aI (k 0) 400 anI), (h41, aI (k 0) 400 anI), (h42, aI (k 0) 1600 anI), (h43, aI (k 0) 1024 anI), (h44, aI (k 0) 400 anI), (h45, aJ (k 1) 60 anJ)]) (Tr := [(h8, aI (k 0) 8 anI)]) (as := [h0, h1, h7, h9, h12, h14, h38, h39, h40, h41, h42, h43, h44, h45]) (zcV (q0 := 0) (ci := 7) (As := [.int x1]) (rest := [.int x1, .ref h8]) (Tc := [(h0, ob 7 [.ref h1, .ref h2, .int h0f2, .ref h3, .ref h4, .ref h5, .int h0f6, .ref h6, .int h0f8, .ref h7, .ref h8, .int h0f11, .ref h9, .ref h10, .ref h11, .ref h12, .ref h13]), (h1, ob 4 [.int h1f0, .int h1f1, .int h1f2, .ref h14]), (h7, ob 3 [.ref h38, .ref h39, .ref h40, .ref h41, .ref h42, .ref h43, .ref h44, .ref h45, .int h7f8, .int h7f9, .int h7f10, .int h7f11]), (h9, ob 2 [.ref h1, .int h9f1]), (h12, aJ (k 1) 9 anJ), (h14, aJ (k 1) 36 anJ), (h38, aJ (k 1) 12000 anJ), (h39, aI (k 0) 400 anI), (h40, aI (k 0) 400 anI), (h41, aI (k 0) 400 anI), (h42, aI (k 0) 1600 anI), (h43, aI (k 0) 1024 anI), (h44, aI (k 0) 400 anI), (h45, aJ (k 1) 60 anJ)]) hx hb hml hown hU hK hT rfl rfl [0, 1, 2, 4, 5, 6, 7, 8, 9, 10, 11, 12, 13, 14] rfl (by decide) (cX10_countImage_54b83 l D k _ h0 h1 h7 h9 h12 h14 h38 h39 h40 h41 h42 h43 h44 h45 h2 h3 h4 h5 h6 h8 h10 h11 h13 x1 h0f2 h0f6 h0f8 h0f11 h1f0 h1f1 h1f2 h7f8 h7f9 h7f10 h7f11 h9f1 (by omega) (by omega) (by omega) (by omega) (by omega) (by omega) (by omega) (by omega) (by omega) (by omega) (by omega) (by omega)) w668 w665 w667 w21 w63 hdX10_countImage ⟨rfl, rfl⟩ ⟨Nat.le_of_ble_eq_true rfl, Nat.le_of_ble_eq_true rfl⟩ rfl hl.1 (Nat.le_of_ble_eq_true rfl) dX10_image_25 ⟨Nat.le_of_ble_eq_true rfl, Nat.le_of_ble_eq_true rfl⟩) hT hS hA [0, 1, 2, 4, 5, 6, 7, 8, 9, 10, 11, 12, 13, 14] [3] rfl rfl rfl (by decide) (by decide) (fun r15 H locs hB J hS => ?_)
      obtain ⟨v16, v17, v18, b_v16, b_v17, b_v18, b_r15, hT1⟩ := hB
      have hT := J _ hT1
      have hT : TP D A [(h8, aI (k 0) 8 anI), (h0, ob 7 [.ref h1, .ref h2, .int h0f2, .ref h3, .ref h4, .ref h5, .int h0f6, .ref h6, .int h0f8, .ref h7, .ref h8, .int h0f11, .ref h9, .ref h10, .ref h11, .ref h12, .ref h13]), (h1, ob 4 [.int h1f0, .int h1f1, .int h1f2, .ref h14]), (h7, ob 3 [.ref h38, .ref h39, .ref h40, .ref h41, .ref h42, .ref h43, .ref h44, .ref h45, .int v16, .int 400, .int v17, .int v18]), (h9, ob 2 [.ref h1, .int x1]), (h12, aJ (k 1) 9 anJ), (h14, aJ (k 1) 36 anJ), (h38, aJ (k 1) 12000 anJ), (h39, aI (k 0) 400 anI), (h40, aI (k 0) 400 anI), (h41, aI (k 0) 400 anI), (h42, aI (k 0) 1600 anI), (h43, aI (k 0) 1024 anI), (h44, aI (k 0) 400 anI), (h45, aJ (k 1) 60 anJ)] _ := hT
      refine tz_iast hx hb hK hT hS 0 rfl (by omega) (fun _ _ => trivial) dX10_image_28 (fun H locs hT hS => ?_)
      refine lv_aload_n hx hb dX10_image_29 rfl (lv_at hl 0 rfl) ?_
      refine tz_get (ci := 7) (v := .ref h8) (C := RX10) (F := TX10) (N := 17) hx hb hU iX10 hown hK hT 1 rfl rfl 10 (by decide) w259 (fun _ h9 => h9) rfl dX10_image_30 ?_
      refine lv_iload_n hx hb dX10_image_33 rfl (lv_at hl 1 rfl) ?_
      refine tz_iald hx hb hK hT 0 rfl (by omega) dX10_image_34 (fun v19 e_v19 => ?_)
      clear e_v19
      exact tz_retI (B := B_cX10_image_53bd6 D k h0 h1 h7 h8 h9 h12 h14 h38 h39 h40 h41 h42 h43 h44 h45 h2 h3 h4 h5 h6 h10 h11 h13 x1 h0f2 h0f6 h0f8 h0f11 h1f0 h1f1 h1f2 h7f8 h7f9 h7f10 h7f11 h9f1) (v := v19) hQ hx hb hr hlocks hS (Nat.le_of_ble_eq_true rfl) (Nat.le_of_ble_eq_true rfl) dX10_image_35 (⟨v16, 400, v17, v18, x1, (by have := li_400; omega), (by have := li_400; omega), (by have := li_400; omega), (by have := li_400; omega), (by have := li_400; omega), (hT.sub [1, 2, 3, 0, 4, 5, 6, 7, 8, 9, 10, 11, 12, 13, 14] (by decide) rfl)⟩)
  · skip
    have hT := J _ hT1
    have hT : TP D A [(h0, ob 7 [.ref h1, .ref h2, .int h0f2, .ref h3, .ref h4, .ref h5, .int h0f6, .ref h6, .int h0f8, .ref h7, .ref h8, .int h0f11, .ref h9, .ref h10, .ref h11, .ref h12, .ref h13]), (h1, ob 4 [.int h1f0, .int h1f1, .int h1f2, .ref h14]), (h7, ob 3 [.ref h38, .ref h39, .ref h40, .ref h41, .ref h42, .ref h43, .ref h44, .ref h45, .int h7f8, .int h7f9, .int h7f10, .int h7f11]), (h8, aI (k 0) 8 anI), (h9, ob 2 [.ref h1, .int h9f1]), (h12, aJ (k 1) 9 anJ), (h14, aJ (k 1) 36 anJ), (h38, aJ (k 1) 12000 anJ), (h39, aI (k 0) 400 anI), (h40, aI (k 0) 400 anI), (h41, aI (k 0) 400 anI), (h42, aI (k 0) 1600 anI), (h43, aI (k 0) 1024 anI), (h44, aI (k 0) 400 anI), (h45, aJ (k 1) 60 anJ)] _ := hT
    refine lv_if_ne (tgt := 9) hx hb dX10_image_4 (by decide) (fun _ => ?_) (fun cc => absurd cc (by decide +kernel))
    refine lv_aload_n hx hb dX10_image_9 rfl (lv_at hl 0 rfl) ?_
    refine tz_get (ci := 7) (v := .ref h8) (C := RX10) (F := TX10) (N := 17) hx hb hU iX10 hown hK hT 0 rfl rfl 10 (by decide) w259 (fun _ h9 => h9) rfl dX10_image_10 ?_
    refine lv_iload_n hx hb dX10_image_13 rfl (lv_at hl 1 rfl) ?_
    refine tz_iald hx hb hK hT 3 rfl (by omega) dX10_image_14 (fun v20 e_v20 => ?_)
    clear e_v20
    refine lv_if_ne (tgt := 29) hx hb dX10_image_15 (by decide) (fun c_21 => ?_) (fun c_21 => ?_)
    · skip
      have c_21 := ni_ne c_21 rfl li_0
      refine lv_aload_n hx hb dX10_image_29 rfl (lv_at hl 0 rfl) ?_
      refine tz_get (ci := 7) (v := .ref h8) (C := RX10) (F := TX10) (N := 17) hx hb hU iX10 hown hK hT 0 rfl rfl 10 (by decide) w259 (fun _ h9 => h9) rfl dX10_image_30 ?_
      refine lv_iload_n hx hb dX10_image_33 rfl (lv_at hl 1 rfl) ?_
      refine tz_iald hx hb hK hT 3 rfl (by omega) dX10_image_34 (fun v22 e_v22 => ?_)
      clear e_v22
      exact tz_retI (B := B_cX10_image_53bd6 D k h0 h1 h7 h8 h9 h12 h14 h38 h39 h40 h41 h42 h43 h44 h45 h2 h3 h4 h5 h6 h10 h11 h13 x1 h0f2 h0f6 h0f8 h0f11 h1f0 h1f1 h1f2 h7f8 h7f9 h7f10 h7f11 h9f1) (v := v22) hQ hx hb hr hlocks hS (Nat.le_of_ble_eq_true rfl) (Nat.le_of_ble_eq_true rfl) dX10_image_35 (⟨h7f8, h7f9, h7f10, h7f11, h9f1, (by omega), (by omega), (by omega), (by omega), (by omega), hT⟩)
    · skip
      have c_21 := ni_eq c_21 rfl li_0
      refine lv_aload_n hx hb dX10_image_18 rfl (lv_at hl 0 rfl) ?_
      refine tz_get (ci := 7) (v := .ref h8) (C := RX10) (F := TX10) (N := 17) hx hb hU iX10 hown hK hT 0 rfl rfl 10 (by decide) w259 (fun _ h9 => h9) rfl dX10_image_19 ?_
      refine lv_iload_n hx hb dX10_image_22 rfl (lv_at hl 1 rfl) ?_
      refine lv_aload_n hx hb dX10_image_23 rfl (lv_at hl 0 rfl) ?_
      refine lv_iload_n hx hb dX10_image_24 rfl (lv_at hl 1 rfl) ?_
      refine tcI (Tc := [(h0, ob 7 [.ref h1, .ref h2, .int h0f2, .ref h3, .ref h4, .ref h5, .int h0f6, .ref h6, .int h0f8, .ref h7, .ref h8, .int h0f11, .ref h9, .ref h10, .ref h11, .ref h12, .ref h13]), (h1, ob 4 [.int h1f0, .int h1f1, .int h1f2, .ref h14]), (h7, ob 3 [.ref h38, .ref h39, .ref h40, .ref h41, .ref h42, .ref h43, .ref h44, .ref h45, .int h7f8, .int h7f9, .int h7f10, .int h7f11]), (h9, ob 2 [.ref h1, .int h9f1]), (h12, aJ (k 1) 9 anJ), (h14, aJ (k 1) 36 anJ), (h38, aJ (k 1) 12000 anJ), (h39, aI (k 0) 400 anI), (h40, aI (k 0) 400 anI), (h41, aI (k 0) 400 anI), (h42, aI (k 0) 1600 anI), (h43, aI (k 0) 1024 anI), (h44, aI (k 0) 400 anI), (h45, aJ (k 1) 60 anJ)]) (Tr := [(h8, aI (k 0) 8 anI)]) (as := [h0, h1, h7, h9, h12, h14, h38, h39, h40, h41, h42, h43, h44, h45]) (zcV (q0 := 0) (ci := 7) (As := [.int x1]) (rest := [.int x1, .ref h8]) (Tc := [(h0, ob 7 [.ref h1, .ref h2, .int h0f2, .ref h3, .ref h4, .ref h5, .int h0f6, .ref h6, .int h0f8, .ref h7, .ref h8, .int h0f11, .ref h9, .ref h10, .ref h11, .ref h12, .ref h13]), (h1, ob 4 [.int h1f0, .int h1f1, .int h1f2, .ref h14]), (h7, ob 3 [.ref h38, .ref h39, .ref h40, .ref h41, .ref h42, .ref h43, .ref h44, .ref h45, .int h7f8, .int h7f9, .int h7f10, .int h7f11]), (h9, ob 2 [.ref h1, .int h9f1]), (h12, aJ (k 1) 9 anJ), (h14, aJ (k 1) 36 anJ), (h38, aJ (k 1) 12000 anJ), (h39, aI (k 0) 400 anI), (h40, aI (k 0) 400 anI), (h41, aI (k 0) 400 anI), (h42, aI (k 0) 1600 anI), (h43, aI (k 0) 1024 anI), (h44, aI (k 0) 400 anI), (h45, aJ (k 1) 60 anJ)]) hx hb hml hown hU hK hT rfl rfl [0, 1, 2, 4, 5, 6, 7, 8, 9, 10, 11, 12, 13, 14] rfl (by decide) (cX10_countImage_54b83 l D k _ h0 h1 h7 h9 h12 h14 h38 h39 h40 h41 h42 h43 h44 h45 h2 h3 h4 h5 h6 h8 h10 h11 h13 x1 h0f2 h0f6 h0f8 h0f11 h1f0 h1f1 h1f2 h7f8 h7f9 h7f10 h7f11 h9f1 (by omega) (by omega) (by omega) (by omega) (by omega) (by omega) (by omega) (by omega) (by omega) (by omega) (by omega) (by omega)) w668 w665 w667 w21 w63 hdX10_countImage ⟨rfl, rfl⟩ ⟨Nat.le_of_ble_eq_true rfl, Nat.le_of_ble_eq_true rfl⟩ rfl hl.1 (Nat.le_of_ble_eq_true rfl) dX10_image_25 ⟨Nat.le_of_ble_eq_true rfl, Nat.le_of_ble_eq_true rfl⟩) hT hS hA [0, 1, 2, 4, 5, 6, 7, 8, 9, 10, 11, 12, 13, 14] [3] rfl rfl rfl (by decide) (by decide) (fun r23 H locs hB J hS => ?_)
      obtain ⟨v24, v25, v26, b_v24, b_v25, b_v26, b_r23, hT1⟩ := hB
      have hT := J _ hT1
      have hT : TP D A [(h8, aI (k 0) 8 anI), (h0, ob 7 [.ref h1, .ref h2, .int h0f2, .ref h3, .ref h4, .ref h5, .int h0f6, .ref h6, .int h0f8, .ref h7, .ref h8, .int h0f11, .ref h9, .ref h10, .ref h11, .ref h12, .ref h13]), (h1, ob 4 [.int h1f0, .int h1f1, .int h1f2, .ref h14]), (h7, ob 3 [.ref h38, .ref h39, .ref h40, .ref h41, .ref h42, .ref h43, .ref h44, .ref h45, .int v24, .int 400, .int v25, .int v26]), (h9, ob 2 [.ref h1, .int x1]), (h12, aJ (k 1) 9 anJ), (h14, aJ (k 1) 36 anJ), (h38, aJ (k 1) 12000 anJ), (h39, aI (k 0) 400 anI), (h40, aI (k 0) 400 anI), (h41, aI (k 0) 400 anI), (h42, aI (k 0) 1600 anI), (h43, aI (k 0) 1024 anI), (h44, aI (k 0) 400 anI), (h45, aJ (k 1) 60 anJ)] _ := hT
      refine tz_iast hx hb hK hT hS 0 rfl (by omega) (fun _ _ => trivial) dX10_image_28 (fun H locs hT hS => ?_)
      refine lv_aload_n hx hb dX10_image_29 rfl (lv_at hl 0 rfl) ?_
      refine tz_get (ci := 7) (v := .ref h8) (C := RX10) (F := TX10) (N := 17) hx hb hU iX10 hown hK hT 1 rfl rfl 10 (by decide) w259 (fun _ h9 => h9) rfl dX10_image_30 ?_
      refine lv_iload_n hx hb dX10_image_33 rfl (lv_at hl 1 rfl) ?_
      refine tz_iald hx hb hK hT 0 rfl (by omega) dX10_image_34 (fun v27 e_v27 => ?_)
      clear e_v27
      exact tz_retI (B := B_cX10_image_53bd6 D k h0 h1 h7 h8 h9 h12 h14 h38 h39 h40 h41 h42 h43 h44 h45 h2 h3 h4 h5 h6 h10 h11 h13 x1 h0f2 h0f6 h0f8 h0f11 h1f0 h1f1 h1f2 h7f8 h7f9 h7f10 h7f11 h9f1) (v := v27) hQ hx hb hr hlocks hS (Nat.le_of_ble_eq_true rfl) (Nat.le_of_ble_eq_true rfl) dX10_image_35 (⟨v24, 400, v25, v26, x1, (by have := li_400; omega), (by have := li_400; omega), (by have := li_400; omega), (by have := li_400; omega), (by have := li_400; omega), (hT.sub [1, 2, 3, 0, 4, 5, 6, 7, 8, 9, 10, 11, 12, 13, 14] (by decide) rfl)⟩)
  · skip
    have hT := J _ hT1
    have hT : TP D A [(h0, ob 7 [.ref h1, .ref h2, .int h0f2, .ref h3, .ref h4, .ref h5, .int h0f6, .ref h6, .int h0f8, .ref h7, .ref h8, .int h0f11, .ref h9, .ref h10, .ref h11, .ref h12, .ref h13]), (h1, ob 4 [.int h1f0, .int h1f1, .int h1f2, .ref h14]), (h7, ob 3 [.ref h38, .ref h39, .ref h40, .ref h41, .ref h42, .ref h43, .ref h44, .ref h45, .int h7f8, .int h7f9, .int h7f10, .int h7f11]), (h8, aI (k 0) 8 anI), (h9, ob 2 [.ref h1, .int h9f1]), (h12, aJ (k 1) 9 anJ), (h14, aJ (k 1) 36 anJ), (h38, aJ (k 1) 12000 anJ), (h39, aI (k 0) 400 anI), (h40, aI (k 0) 400 anI), (h41, aI (k 0) 400 anI), (h42, aI (k 0) 1600 anI), (h43, aI (k 0) 1024 anI), (h44, aI (k 0) 400 anI), (h45, aJ (k 1) 60 anJ)] _ := hT
    refine lv_if_ne (tgt := 9) hx hb dX10_image_4 (by decide) (fun _ => ?_) (fun cc => absurd cc (by decide +kernel))
    refine lv_aload_n hx hb dX10_image_9 rfl (lv_at hl 0 rfl) ?_
    refine tz_get (ci := 7) (v := .ref h8) (C := RX10) (F := TX10) (N := 17) hx hb hU iX10 hown hK hT 0 rfl rfl 10 (by decide) w259 (fun _ h9 => h9) rfl dX10_image_10 ?_
    refine lv_iload_n hx hb dX10_image_13 rfl (lv_at hl 1 rfl) ?_
    refine tz_iald hx hb hK hT 3 rfl (by omega) dX10_image_14 (fun v28 e_v28 => ?_)
    clear e_v28
    refine lv_if_ne (tgt := 29) hx hb dX10_image_15 (by decide) (fun c_29 => ?_) (fun c_29 => ?_)
    · skip
      have c_29 := ni_ne c_29 rfl li_0
      refine lv_aload_n hx hb dX10_image_29 rfl (lv_at hl 0 rfl) ?_
      refine tz_get (ci := 7) (v := .ref h8) (C := RX10) (F := TX10) (N := 17) hx hb hU iX10 hown hK hT 0 rfl rfl 10 (by decide) w259 (fun _ h9 => h9) rfl dX10_image_30 ?_
      refine lv_iload_n hx hb dX10_image_33 rfl (lv_at hl 1 rfl) ?_
      refine tz_iald hx hb hK hT 3 rfl (by omega) dX10_image_34 (fun v30 e_v30 => ?_)
      clear e_v30
      exact tz_retI (B := B_cX10_image_53bd6 D k h0 h1 h7 h8 h9 h12 h14 h38 h39 h40 h41 h42 h43 h44 h45 h2 h3 h4 h5 h6 h10 h11 h13 x1 h0f2 h0f6 h0f8 h0f11 h1f0 h1f1 h1f2 h7f8 h7f9 h7f10 h7f11 h9f1) (v := v30) hQ hx hb hr hlocks hS (Nat.le_of_ble_eq_true rfl) (Nat.le_of_ble_eq_true rfl) dX10_image_35 (⟨h7f8, h7f9, h7f10, h7f11, h9f1, (by omega), (by omega), (by omega), (by omega), (by omega), hT⟩)
    · skip
      have c_29 := ni_eq c_29 rfl li_0
      refine lv_aload_n hx hb dX10_image_18 rfl (lv_at hl 0 rfl) ?_
      refine tz_get (ci := 7) (v := .ref h8) (C := RX10) (F := TX10) (N := 17) hx hb hU iX10 hown hK hT 0 rfl rfl 10 (by decide) w259 (fun _ h9 => h9) rfl dX10_image_19 ?_
      refine lv_iload_n hx hb dX10_image_22 rfl (lv_at hl 1 rfl) ?_
      refine lv_aload_n hx hb dX10_image_23 rfl (lv_at hl 0 rfl) ?_
      refine lv_iload_n hx hb dX10_image_24 rfl (lv_at hl 1 rfl) ?_
      refine tcI (Tc := [(h0, ob 7 [.ref h1, .ref h2, .int h0f2, .ref h3, .ref h4, .ref h5, .int h0f6, .ref h6, .int h0f8, .ref h7, .ref h8, .int h0f11, .ref h9, .ref h10, .ref h11, .ref h12, .ref h13]), (h1, ob 4 [.int h1f0, .int h1f1, .int h1f2, .ref h14]), (h7, ob 3 [.ref h38, .ref h39, .ref h40, .ref h41, .ref h42, .ref h43, .ref h44, .ref h45, .int h7f8, .int h7f9, .int h7f10, .int h7f11]), (h9, ob 2 [.ref h1, .int h9f1]), (h12, aJ (k 1) 9 anJ), (h14, aJ (k 1) 36 anJ), (h38, aJ (k 1) 12000 anJ), (h39, aI (k 0) 400 anI), (h40, aI (k 0) 400 anI), (h41, aI (k 0) 400 anI), (h42, aI (k 0) 1600 anI), (h43, aI (k 0) 1024 anI), (h44, aI (k 0) 400 anI), (h45, aJ (k 1) 60 anJ)]) (Tr := [(h8, aI (k 0) 8 anI)]) (as := [h0, h1, h7, h9, h12, h14, h38, h39, h40, h41, h42, h43, h44, h45]) (zcV (q0 := 0) (ci := 7) (As := [.int x1]) (rest := [.int x1, .ref h8]) (Tc := [(h0, ob 7 [.ref h1, .ref h2, .int h0f2, .ref h3, .ref h4, .ref h5, .int h0f6, .ref h6, .int h0f8, .ref h7, .ref h8, .int h0f11, .ref h9, .ref h10, .ref h11, .ref h12, .ref h13]), (h1, ob 4 [.int h1f0, .int h1f1, .int h1f2, .ref h14]), (h7, ob 3 [.ref h38, .ref h39, .ref h40, .ref h41, .ref h42, .ref h43, .ref h44, .ref h45, .int h7f8, .int h7f9, .int h7f10, .int h7f11]), (h9, ob 2 [.ref h1, .int h9f1]), (h12, aJ (k 1) 9 anJ), (h14, aJ (k 1) 36 anJ), (h38, aJ (k 1) 12000 anJ), (h39, aI (k 0) 400 anI), (h40, aI (k 0) 400 anI), (h41, aI (k 0) 400 anI), (h42, aI (k 0) 1600 anI), (h43, aI (k 0) 1024 anI), (h44, aI (k 0) 400 anI), (h45, aJ (k 1) 60 anJ)]) hx hb hml hown hU hK hT rfl rfl [0, 1, 2, 4, 5, 6, 7, 8, 9, 10, 11, 12, 13, 14] rfl (by decide) (cX10_countImage_54b83 l D k _ h0 h1 h7 h9 h12 h14 h38 h39 h40 h41 h42 h43 h44 h45 h2 h3 h4 h5 h6 h8 h10 h11 h13 x1 h0f2 h0f6 h0f8 h0f11 h1f0 h1f1 h1f2 h7f8 h7f9 h7f10 h7f11 h9f1 (by omega) (by omega) (by omega) (by omega) (by omega) (by omega) (by omega) (by omega) (by omega) (by omega) (by omega) (by omega)) w668 w665 w667 w21 w63 hdX10_countImage ⟨rfl, rfl⟩ ⟨Nat.le_of_ble_eq_true rfl, Nat.le_of_ble_eq_true rfl⟩ rfl hl.1 (Nat.le_of_ble_eq_true rfl) dX10_image_25 ⟨Nat.le_of_ble_eq_true rfl, Nat.le_of_ble_eq_true rfl⟩) hT hS hA [0, 1, 2, 4, 5, 6, 7, 8, 9, 10, 11, 12, 13, 14] [3] rfl rfl rfl (by decide) (by decide) (fun r31 H locs hB J hS => ?_)
      obtain ⟨v32, v33, v34, b_v32, b_v33, b_v34, b_r31, hT1⟩ := hB
      have hT := J _ hT1
      have hT : TP D A [(h8, aI (k 0) 8 anI), (h0, ob 7 [.ref h1, .ref h2, .int h0f2, .ref h3, .ref h4, .ref h5, .int h0f6, .ref h6, .int h0f8, .ref h7, .ref h8, .int h0f11, .ref h9, .ref h10, .ref h11, .ref h12, .ref h13]), (h1, ob 4 [.int h1f0, .int h1f1, .int h1f2, .ref h14]), (h7, ob 3 [.ref h38, .ref h39, .ref h40, .ref h41, .ref h42, .ref h43, .ref h44, .ref h45, .int v32, .int 400, .int v33, .int v34]), (h9, ob 2 [.ref h1, .int x1]), (h12, aJ (k 1) 9 anJ), (h14, aJ (k 1) 36 anJ), (h38, aJ (k 1) 12000 anJ), (h39, aI (k 0) 400 anI), (h40, aI (k 0) 400 anI), (h41, aI (k 0) 400 anI), (h42, aI (k 0) 1600 anI), (h43, aI (k 0) 1024 anI), (h44, aI (k 0) 400 anI), (h45, aJ (k 1) 60 anJ)] _ := hT
      refine tz_iast hx hb hK hT hS 0 rfl (by omega) (fun _ _ => trivial) dX10_image_28 (fun H locs hT hS => ?_)
      refine lv_aload_n hx hb dX10_image_29 rfl (lv_at hl 0 rfl) ?_
      refine tz_get (ci := 7) (v := .ref h8) (C := RX10) (F := TX10) (N := 17) hx hb hU iX10 hown hK hT 1 rfl rfl 10 (by decide) w259 (fun _ h9 => h9) rfl dX10_image_30 ?_
      refine lv_iload_n hx hb dX10_image_33 rfl (lv_at hl 1 rfl) ?_
      refine tz_iald hx hb hK hT 0 rfl (by omega) dX10_image_34 (fun v35 e_v35 => ?_)
      clear e_v35
      exact tz_retI (B := B_cX10_image_53bd6 D k h0 h1 h7 h8 h9 h12 h14 h38 h39 h40 h41 h42 h43 h44 h45 h2 h3 h4 h5 h6 h10 h11 h13 x1 h0f2 h0f6 h0f8 h0f11 h1f0 h1f1 h1f2 h7f8 h7f9 h7f10 h7f11 h9f1) (v := v35) hQ hx hb hr hlocks hS (Nat.le_of_ble_eq_true rfl) (Nat.le_of_ble_eq_true rfl) dX10_image_35 (⟨v32, 400, v33, v34, x1, (by have := li_400; omega), (by have := li_400; omega), (by have := li_400; omega), (by have := li_400; omega), (by have := li_400; omega), (hT.sub [1, 2, 3, 0, 4, 5, 6, 7, 8, 9, 10, 11, 12, 13, 14] (by decide) rfl)⟩)
  · skip
    have hT := J _ hT1
    have hT : TP D A [(h0, ob 7 [.ref h1, .ref h2, .int h0f2, .ref h3, .ref h4, .ref h5, .int h0f6, .ref h6, .int h0f8, .ref h7, .ref h8, .int h0f11, .ref h9, .ref h10, .ref h11, .ref h12, .ref h13]), (h1, ob 4 [.int h1f0, .int h1f1, .int h1f2, .ref h14]), (h7, ob 3 [.ref h38, .ref h39, .ref h40, .ref h41, .ref h42, .ref h43, .ref h44, .ref h45, .int h7f8, .int h7f9, .int h7f10, .int h7f11]), (h8, aI (k 0) 8 anI), (h9, ob 2 [.ref h1, .int h9f1]), (h12, aJ (k 1) 9 anJ), (h14, aJ (k 1) 36 anJ), (h38, aJ (k 1) 12000 anJ), (h39, aI (k 0) 400 anI), (h40, aI (k 0) 400 anI), (h41, aI (k 0) 400 anI), (h42, aI (k 0) 1600 anI), (h43, aI (k 0) 1024 anI), (h44, aI (k 0) 400 anI), (h45, aJ (k 1) 60 anJ)] _ := hT
    refine lv_if_ne (tgt := 9) hx hb dX10_image_4 (by decide) (fun cc => absurd (by decide +kernel) cc) (fun _ => ?_)
    refine lv_iconst (v := (-1)) hx hb dX10_image_7 (by decide) ?_
    exact tz_retI (B := B_cX10_image_53bd6 D k h0 h1 h7 h8 h9 h12 h14 h38 h39 h40 h41 h42 h43 h44 h45 h2 h3 h4 h5 h6 h10 h11 h13 x1 h0f2 h0f6 h0f8 h0f11 h1f0 h1f1 h1f2 h7f8 h7f9 h7f10 h7f11 h9f1) (v := (-1)) hQ hx hb hr hlocks hS (Nat.le_of_ble_eq_true rfl) (Nat.le_of_ble_eq_true rfl) dX10_image_8 (⟨h7f8, h7f9, h7f10, h7f11, h9f1, (by have := li_m1; omega), (by have := li_m1; omega), (by have := li_m1; omega), (by have := li_m1; omega), (by have := li_m1; omega), hT⟩)
  · skip
    have hT := J _ hT1
    have hT : TP D A [(h0, ob 7 [.ref h1, .ref h2, .int h0f2, .ref h3, .ref h4, .ref h5, .int h0f6, .ref h6, .int h0f8, .ref h7, .ref h8, .int h0f11, .ref h9, .ref h10, .ref h11, .ref h12, .ref h13]), (h1, ob 4 [.int h1f0, .int h1f1, .int h1f2, .ref h14]), (h7, ob 3 [.ref h38, .ref h39, .ref h40, .ref h41, .ref h42, .ref h43, .ref h44, .ref h45, .int h7f8, .int h7f9, .int h7f10, .int h7f11]), (h8, aI (k 0) 8 anI), (h9, ob 2 [.ref h1, .int h9f1]), (h12, aJ (k 1) 9 anJ), (h14, aJ (k 1) 36 anJ), (h38, aJ (k 1) 12000 anJ), (h39, aI (k 0) 400 anI), (h40, aI (k 0) 400 anI), (h41, aI (k 0) 400 anI), (h42, aI (k 0) 1600 anI), (h43, aI (k 0) 1024 anI), (h44, aI (k 0) 400 anI), (h45, aJ (k 1) 60 anJ)] _ := hT
    refine lv_if_ne (tgt := 9) hx hb dX10_image_4 (by decide) (fun _ => ?_) (fun cc => absurd cc (by decide +kernel))
    refine lv_aload_n hx hb dX10_image_9 rfl (lv_at hl 0 rfl) ?_
    refine tz_get (ci := 7) (v := .ref h8) (C := RX10) (F := TX10) (N := 17) hx hb hU iX10 hown hK hT 0 rfl rfl 10 (by decide) w259 (fun _ h9 => h9) rfl dX10_image_10 ?_
    refine lv_iload_n hx hb dX10_image_13 rfl (lv_at hl 1 rfl) ?_
    refine tz_iald hx hb hK hT 3 rfl (by omega) dX10_image_14 (fun v36 e_v36 => ?_)
    clear e_v36
    refine lv_if_ne (tgt := 29) hx hb dX10_image_15 (by decide) (fun c_37 => ?_) (fun c_37 => ?_)
    · skip
      have c_37 := ni_ne c_37 rfl li_0
      refine lv_aload_n hx hb dX10_image_29 rfl (lv_at hl 0 rfl) ?_
      refine tz_get (ci := 7) (v := .ref h8) (C := RX10) (F := TX10) (N := 17) hx hb hU iX10 hown hK hT 0 rfl rfl 10 (by decide) w259 (fun _ h9 => h9) rfl dX10_image_30 ?_
      refine lv_iload_n hx hb dX10_image_33 rfl (lv_at hl 1 rfl) ?_
      refine tz_iald hx hb hK hT 3 rfl (by omega) dX10_image_34 (fun v38 e_v38 => ?_)
      clear e_v38
      exact tz_retI (B := B_cX10_image_53bd6 D k h0 h1 h7 h8 h9 h12 h14 h38 h39 h40 h41 h42 h43 h44 h45 h2 h3 h4 h5 h6 h10 h11 h13 x1 h0f2 h0f6 h0f8 h0f11 h1f0 h1f1 h1f2 h7f8 h7f9 h7f10 h7f11 h9f1) (v := v38) hQ hx hb hr hlocks hS (Nat.le_of_ble_eq_true rfl) (Nat.le_of_ble_eq_true rfl) dX10_image_35 (⟨h7f8, h7f9, h7f10, h7f11, h9f1, (by omega), (by omega), (by omega), (by omega), (by omega), hT⟩)
    · skip
      have c_37 := ni_eq c_37 rfl li_0
      refine lv_aload_n hx hb dX10_image_18 rfl (lv_at hl 0 rfl) ?_
      refine tz_get (ci := 7) (v := .ref h8) (C := RX10) (F := TX10) (N := 17) hx hb hU iX10 hown hK hT 0 rfl rfl 10 (by decide) w259 (fun _ h9 => h9) rfl dX10_image_19 ?_
      refine lv_iload_n hx hb dX10_image_22 rfl (lv_at hl 1 rfl) ?_
      refine lv_aload_n hx hb dX10_image_23 rfl (lv_at hl 0 rfl) ?_
      refine lv_iload_n hx hb dX10_image_24 rfl (lv_at hl 1 rfl) ?_
      refine tcI (Tc := [(h0, ob 7 [.ref h1, .ref h2, .int h0f2, .ref h3, .ref h4, .ref h5, .int h0f6, .ref h6, .int h0f8, .ref h7, .ref h8, .int h0f11, .ref h9, .ref h10, .ref h11, .ref h12, .ref h13]), (h1, ob 4 [.int h1f0, .int h1f1, .int h1f2, .ref h14]), (h7, ob 3 [.ref h38, .ref h39, .ref h40, .ref h41, .ref h42, .ref h43, .ref h44, .ref h45, .int h7f8, .int h7f9, .int h7f10, .int h7f11]), (h9, ob 2 [.ref h1, .int h9f1]), (h12, aJ (k 1) 9 anJ), (h14, aJ (k 1) 36 anJ), (h38, aJ (k 1) 12000 anJ), (h39, aI (k 0) 400 anI), (h40, aI (k 0) 400 anI), (h41, aI (k 0) 400 anI), (h42, aI (k 0) 1600 anI), (h43, aI (k 0) 1024 anI), (h44, aI (k 0) 400 anI), (h45, aJ (k 1) 60 anJ)]) (Tr := [(h8, aI (k 0) 8 anI)]) (as := [h0, h1, h7, h9, h12, h14, h38, h39, h40, h41, h42, h43, h44, h45]) (zcV (q0 := 0) (ci := 7) (As := [.int x1]) (rest := [.int x1, .ref h8]) (Tc := [(h0, ob 7 [.ref h1, .ref h2, .int h0f2, .ref h3, .ref h4, .ref h5, .int h0f6, .ref h6, .int h0f8, .ref h7, .ref h8, .int h0f11, .ref h9, .ref h10, .ref h11, .ref h12, .ref h13]), (h1, ob 4 [.int h1f0, .int h1f1, .int h1f2, .ref h14]), (h7, ob 3 [.ref h38, .ref h39, .ref h40, .ref h41, .ref h42, .ref h43, .ref h44, .ref h45, .int h7f8, .int h7f9, .int h7f10, .int h7f11]), (h9, ob 2 [.ref h1, .int h9f1]), (h12, aJ (k 1) 9 anJ), (h14, aJ (k 1) 36 anJ), (h38, aJ (k 1) 12000 anJ), (h39, aI (k 0) 400 anI), (h40, aI (k 0) 400 anI), (h41, aI (k 0) 400 anI), (h42, aI (k 0) 1600 anI), (h43, aI (k 0) 1024 anI), (h44, aI (k 0) 400 anI), (h45, aJ (k 1) 60 anJ)]) hx hb hml hown hU hK hT rfl rfl [0, 1, 2, 4, 5, 6, 7, 8, 9, 10, 11, 12, 13, 14] rfl (by decide) (cX10_countImage_54b83 l D k _ h0 h1 h7 h9 h12 h14 h38 h39 h40 h41 h42 h43 h44 h45 h2 h3 h4 h5 h6 h8 h10 h11 h13 x1 h0f2 h0f6 h0f8 h0f11 h1f0 h1f1 h1f2 h7f8 h7f9 h7f10 h7f11 h9f1 (by omega) (by omega) (by omega) (by omega) (by omega) (by omega) (by omega) (by omega) (by omega) (by omega) (by omega) (by omega)) w668 w665 w667 w21 w63 hdX10_countImage ⟨rfl, rfl⟩ ⟨Nat.le_of_ble_eq_true rfl, Nat.le_of_ble_eq_true rfl⟩ rfl hl.1 (Nat.le_of_ble_eq_true rfl) dX10_image_25 ⟨Nat.le_of_ble_eq_true rfl, Nat.le_of_ble_eq_true rfl⟩) hT hS hA [0, 1, 2, 4, 5, 6, 7, 8, 9, 10, 11, 12, 13, 14] [3] rfl rfl rfl (by decide) (by decide) (fun r39 H locs hB J hS => ?_)
      obtain ⟨v40, v41, v42, b_v40, b_v41, b_v42, b_r39, hT1⟩ := hB
      have hT := J _ hT1
      have hT : TP D A [(h8, aI (k 0) 8 anI), (h0, ob 7 [.ref h1, .ref h2, .int h0f2, .ref h3, .ref h4, .ref h5, .int h0f6, .ref h6, .int h0f8, .ref h7, .ref h8, .int h0f11, .ref h9, .ref h10, .ref h11, .ref h12, .ref h13]), (h1, ob 4 [.int h1f0, .int h1f1, .int h1f2, .ref h14]), (h7, ob 3 [.ref h38, .ref h39, .ref h40, .ref h41, .ref h42, .ref h43, .ref h44, .ref h45, .int v40, .int 400, .int v41, .int v42]), (h9, ob 2 [.ref h1, .int x1]), (h12, aJ (k 1) 9 anJ), (h14, aJ (k 1) 36 anJ), (h38, aJ (k 1) 12000 anJ), (h39, aI (k 0) 400 anI), (h40, aI (k 0) 400 anI), (h41, aI (k 0) 400 anI), (h42, aI (k 0) 1600 anI), (h43, aI (k 0) 1024 anI), (h44, aI (k 0) 400 anI), (h45, aJ (k 1) 60 anJ)] _ := hT
      refine tz_iast hx hb hK hT hS 0 rfl (by omega) (fun _ _ => trivial) dX10_image_28 (fun H locs hT hS => ?_)
      refine lv_aload_n hx hb dX10_image_29 rfl (lv_at hl 0 rfl) ?_
      refine tz_get (ci := 7) (v := .ref h8) (C := RX10) (F := TX10) (N := 17) hx hb hU iX10 hown hK hT 1 rfl rfl 10 (by decide) w259 (fun _ h9 => h9) rfl dX10_image_30 ?_
      refine lv_iload_n hx hb dX10_image_33 rfl (lv_at hl 1 rfl) ?_
      refine tz_iald hx hb hK hT 0 rfl (by omega) dX10_image_34 (fun v43 e_v43 => ?_)
      clear e_v43
      exact tz_retI (B := B_cX10_image_53bd6 D k h0 h1 h7 h8 h9 h12 h14 h38 h39 h40 h41 h42 h43 h44 h45 h2 h3 h4 h5 h6 h10 h11 h13 x1 h0f2 h0f6 h0f8 h0f11 h1f0 h1f1 h1f2 h7f8 h7f9 h7f10 h7f11 h9f1) (v := v43) hQ hx hb hr hlocks hS (Nat.le_of_ble_eq_true rfl) (Nat.le_of_ble_eq_true rfl) dX10_image_35 (⟨v40, 400, v41, v42, x1, (by have := li_400; omega), (by have := li_400; omega), (by have := li_400; omega), (by have := li_400; omega), (by have := li_400; omega), (hT.sub [1, 2, 3, 0, 4, 5, 6, 7, 8, 9, 10, 11, 12, 13, 14] (by decide) rfl)⟩)
abbrev Rm_cX11_untold_26142 : Room := { frames := 0, cells := 0, slots := 0, locals := 0 }
abbrev B_cX11_untold_26142 (D : va_G) (k : Nat → ClassId) (h0 h1 h2 h3 h4 h5 h6 h7 h8 h9 h10 h11 h12 h13 h14 h15 h16 h17 h18 h19 h20 h21 : Nat) (x1 : Int32) (x2 : Int32) (h0f0 : Int32) (h0f1 : Int32) (h0f2 : Int32) (h0f3 : Int32) (h0f4 : Int32) (h0f5 : Int32) (h0f8 : Int32) (h0f9 : Int32) (h0f17 : Int32) (h0f18 : Int32) (h0f19 : Int32) (h0f24 : Int32) (h0f25 : Int32) (h0f30 : Int32) (h0f31 : Int32) (A : Nat → Prop) (H : Heap) : Prop := TP D A [(h0, ob 8 [.int h0f0, .int h0f1, .int h0f2, .int h0f3, .int h0f4, .int h0f5, .ref h2, .ref h3, .int h0f8, .int h0f9, .ref h4, .ref h1, .ref h5, .ref h6, .ref h7, .ref h8, .ref h9, .int h0f17, .int h0f18, .int h0f19, .ref h10, .ref h11, .ref h12, .ref h13, .int h0f24, .int h0f25, .ref h14, .ref h15, .ref h16, .ref h17, .int h0f30, .int h0f31, .ref h18, .ref h19, .ref h20, .ref h21]), (h1, aJ (k 1) 9 anJ)] H
set_option maxHeartbeats 4000000 in
set_option maxRecDepth 100000 in
theorem cX11_untold_26142 (l : Launch) (D : va_G) (k : Nat → ClassId) (sz : Nat) (h0 h1 h2 h3 h4 h5 h6 h7 h8 h9 h10 h11 h12 h13 h14 h15 h16 h17 h18 h19 h20 h21 : Nat) (x1 : Int32) (x2 : Int32) (h0f0 : Int32) (h0f1 : Int32) (h0f2 : Int32) (h0f3 : Int32) (h0f4 : Int32) (h0f5 : Int32) (h0f8 : Int32) (h0f9 : Int32) (h0f17 : Int32) (h0f18 : Int32) (h0f19 : Int32) (h0f24 : Int32) (h0f25 : Int32) (h0f30 : Int32) (h0f31 : Int32) (b_x2 : 2 ≤ x2.toInt ∧ x2.toInt ≤ 7) (b_h0f0 : 1 ≤ h0f0.toInt ∧ h0f0.toInt ≤ 3) (b_h0f1 : 1 ≤ h0f1.toInt ∧ h0f1.toInt ≤ 4) (b_h0f3 : 0 ≤ h0f3.toInt ∧ h0f3.toInt ≤ 3) (b_h0f4 : 0 ≤ h0f4.toInt ∧ h0f4.toInt ≤ 4) (b_h0f8 : 0 ≤ h0f8.toInt ∧ h0f8.toInt ≤ 1) (b_h0f9 : 0 ≤ h0f9.toInt ∧ h0f9.toInt ≤ 1) (b_h0f17 : 0 ≤ h0f17.toInt ∧ h0f17.toInt ≤ 120) (b_h0f18 : 0 ≤ h0f18.toInt ∧ h0f18.toInt ≤ 120) (b_h0f19 : 0 ≤ h0f19.toInt ∧ h0f19.toInt ≤ 4) (b_h0f24 : 0 ≤ h0f24.toInt ∧ h0f24.toInt ≤ 100) (b_h0f25 : 0 ≤ h0f25.toInt ∧ h0f25.toInt ≤ 1) (b_h0f30 : 0 ≤ h0f30.toInt ∧ h0f30.toInt ≤ 60) (b_h0f31 : 0 ≤ h0f31.toInt ∧ h0f31.toInt ≤ 1) (i_0 : h0f8.toInt ≤ h0f3.toInt) (i_1 : h0f9.toInt ≤ h0f24.toInt) : Met l yX11_untold (Cond.code yX11_untold cX11_untold 6 none :: uw) Rm_cX11_untold_26142 (pT D k sz [.ref h0, .int x1, .int x2, .ref h1] [(h0, ob 8 [.int h0f0, .int h0f1, .int h0f2, .int h0f3, .int h0f4, .int h0f5, .ref h2, .ref h3, .int h0f8, .int h0f9, .ref h4, .ref h1, .ref h5, .ref h6, .ref h7, .ref h8, .ref h9, .int h0f17, .int h0f18, .int h0f19, .ref h10, .ref h11, .ref h12, .ref h13, .int h0f24, .int h0f25, .ref h14, .ref h15, .ref h16, .ref h17, .int h0f30, .int h0f31, .ref h18, .ref h19, .ref h20, .ref h21]), (h1, aJ (k 1) 9 anJ)]) (qV (B_cX11_untold_26142 D k h0 h1 h2 h3 h4 h5 h6 h7 h8 h9 h10 h11 h12 h13 h14 h15 h16 h17 h18 h19 h20 h21 x1 x2 h0f0 h0f1 h0f2 h0f3 h0f4 h0f5 h0f8 h0f9 h0f17 h0f18 h0f19 h0f24 h0f25 h0f30 h0f31 (zA [h0, h1] sz)) (zA [h0, h1] sz)) 0 0 (zA [h0, h1] sz) := by
  refine tz_begin (as := [h0, h1]) (Qc := fun A => qV (B_cX11_untold_26142 D k h0 h1 h2 h3 h4 h5 h6 h7 h8 h9 h10 h11 h12 h13 h14 h15 h16 h17 h18 h19 h20 h21 x1 x2 h0f0 h0f1 h0f2 h0f3 h0f4 h0f5 h0f8 h0f9 h0f17 h0f18 h0f19 h0f24 h0f25 h0f30 h0f31 A) A) (by decide +kernel) rfl (Nat.le_of_ble_eq_true rfl) ?_
  intro p e s m args below meth c ls A Q hx hb hr hml hown hlocks hin hU hK hT hS hA hl hQ
  have hl : lv_has ls 6 [(0, .ref h0), (1, .int x1), (2, .int x2), (3, .ref h1)] := hl
  have hT : TP D A [(h0, ob 8 [.int h0f0, .int h0f1, .int h0f2, .int h0f3, .int h0f4, .int h0f5, .ref h2, .ref h3, .int h0f8, .int h0f9, .ref h4, .ref h1, .ref h5, .ref h6, .ref h7, .ref h8, .ref h9, .int h0f17, .int h0f18, .int h0f19, .ref h10, .ref h11, .ref h12, .ref h13, .int h0f24, .int h0f25, .ref h14, .ref h15, .ref h16, .ref h17, .int h0f30, .int h0f31, .ref h18, .ref h19, .ref h20, .ref h21]), (h1, aJ (k 1) 9 anJ)] s.heap := hT
  refine lv_iload_n hx hb dX11_untold_0 rfl (lv_at hl 1 rfl) ?_
  refine lv_istore (lv' := [(4, .int x1), (0, .ref h0), (1, .int x1), (2, .int x2), (3, .ref h1)]) hx hb dX11_untold_1 hl (by decide) rfl (fun ls hl => ?_)
  refine lv_bipush (v := 8) hx hb dX11_untold_3 (by decide) ?_
  refine lv_istore (lv' := [(5, .int 8), (4, .int x1), (0, .ref h0), (1, .int x1), (2, .int x2), (3, .ref h1)]) hx hb dX11_untold_5 hl (by decide) rfl (fun ls hl => ?_)
  have lp7_17 : ∀ (n : Nat) (y15 : Int32) (y16 : Int32) (H : Heap) (locs : List Loc) (ls : Array Slot), ((-1) ≤ y15.toInt ∧ y15.toInt ≤ 8) → (y15.toInt + 1).toNat < n → TP D A [(h0, ob 8 [.int h0f0, .int h0f1, .int h0f2, .int h0f3, .int h0f4, .int h0f5, .ref h2, .ref h3, .int h0f8, .int h0f9, .ref h4, .ref h1, .ref h5, .ref h6, .ref h7, .ref h8, .ref h9, .int h0f17, .int h0f18, .int h0f19, .ref h10, .ref h11, .ref h12, .ref h13, .int h0f24, .int h0f25, .ref h14, .ref h15, .ref h16, .ref h17, .int h0f30, .int h0f31, .ref h18, .ref h19, .ref h20, .ref h21]), (h1, aJ (k 1) 9 anJ)] H → va_S A s.heap H locs → lv_has ls 6 [(2, .int x2), (3, .ref h1), (4, .int y16), (5, .int y15)] → W p l e Rm_cX11_untold_26142 s m args below meth c H locs 0 0 Q (F0 m 7 ls []) := by
    intro n
    induction n with
    | zero => intro y15 y16 H locs ls b_y15 hm hT hS hl; exact absurd hm (Nat.not_lt_zero _)
    | succ n ih =>
      intro y15 y16 H locs ls b_y15 hm hT hS hl
      have ih7_17 := ih
      clear ih
      refine lv_iload hx hb dX11_untold_7 (lv_at hl 3 rfl) ?_
      refine lv_if_lt (tgt := 33) hx hb dX11_untold_9 (by decide) (fun c_18 => ?_) (fun c_18 => ?_)
      · skip
        have c_18 := ni_lt c_18 rfl li_0
        exact tz_retV (B := B_cX11_untold_26142 D k h0 h1 h2 h3 h4 h5 h6 h7 h8 h9 h10 h11 h12 h13 h14 h15 h16 h17 h18 h19 h20 h21 x1 x2 h0f0 h0f1 h0f2 h0f3 h0f4 h0f5 h0f8 h0f9 h0f17 h0f18 h0f19 h0f24 h0f25 h0f30 h0f31) hQ hx hb hr hlocks hS (Nat.le_of_ble_eq_true rfl) (Nat.le_of_ble_eq_true rfl) dX11_untold_33 (hT)
      · skip
        have c_18 := ni_nlt c_18 rfl li_0
        refine lv_aload_n hx hb dX11_untold_12 rfl (lv_at hl 1 rfl) ?_
        refine lv_iload hx hb dX11_untold_13 (lv_at hl 3 rfl) ?_
        refine lv_iload hx hb dX11_untold_15 (lv_at hl 2 rfl) ?_
        refine lv_iload_n hx hb dX11_untold_17 rfl (lv_at hl 0 rfl) ?_
        refine lv_irem hx hb dX11_untold_18 (nz32 (y := x2.toInt) rfl (by omega)) (lv_topi (fun v19 e_v19 => ?_))
        have tb_v19 := i32b v19
        obtain ⟨v20, e_v20⟩ : ∃ x : Int64, v19.toInt64 = x := ⟨_, rfl⟩
        refine lv_i2l (v := v20) hx hb dX11_untold_19 e_v20 ?_
        have e_v20 := ai_i2l e_v20 rfl
        refine tz_last hx hb hK hT hS 1 rfl (by omega) (fun _ _ => trivial) dX11_untold_20 (fun H locs hT hS => ?_)
        refine lv_iload hx hb dX11_untold_21 (lv_at hl 2 rfl) ?_
        refine lv_iload_n hx hb dX11_untold_23 rfl (lv_at hl 0 rfl) ?_
        refine lv_idiv hx hb dX11_untold_24 (nz32 (y := x2.toInt) rfl (by omega)) (lv_topi (fun v21 e_v21 => ?_))
        refine lv_istore (lv' := [(4, .int v21), (2, .int x2), (3, .ref h1), (5, .int y15)]) hx hb dX11_untold_25 hl (by decide) rfl (fun ls hl => ?_)
        obtain ⟨v22, e_v22⟩ : ∃ x : Int32, x = y15 + Int32.ofInt (-1) := ⟨_, rfl⟩
        have f_v22 := e_v22.symm
        have e_v22 : v22.toInt = y15.toInt + (-1) := ai_add e_v22 rfl (show (Int32.ofInt (-1)).toInt = (-1) from (by decide +kernel)) (by omega)
        refine lv_iinc (v := v22) (lv' := [(5, .int v22), (4, .int v21), (2, .int x2), (3, .ref h1)]) hx hb dX11_untold_27 hl (k := 3) rfl f_v22 (by decide) rfl (fun ls hl => ?_)
        refine lv_goto (tgt := 7) hx hb dX11_untold_30 (by decide) ?_
        exact ih7_17 v22 v21 _ _ _ (by omega)  (by omega) hT hS (lv_sub hl [2, 3, 1, 0] rfl)
  exact lp7_17 (((8 : Int32).toInt + 1).toNat + 1) (8) x1 _ _ _ (by have := li_8; omega)  (Nat.lt_succ_self _) hT hS (lv_sub hl [4, 5, 1, 0] rfl)
abbrev Rm_cX11_told_9727c : Room := { frames := 0, cells := 0, slots := 0, locals := 0 }
abbrev B_cX11_told_9727c (D : va_G) (k : Nat → ClassId) (h0 h1 h2 h3 h4 h5 h6 h7 h8 h9 h10 h11 h12 h13 h14 h15 h16 h17 h18 h19 h20 h21 : Nat) (x2 : Int32) (h0f0 : Int32) (h0f1 : Int32) (h0f2 : Int32) (h0f3 : Int32) (h0f4 : Int32) (h0f5 : Int32) (h0f8 : Int32) (h0f9 : Int32) (h0f17 : Int32) (h0f18 : Int32) (h0f19 : Int32) (h0f24 : Int32) (h0f25 : Int32) (h0f30 : Int32) (h0f31 : Int32) (A : Nat → Prop) (r : Int32) (H : Heap) : Prop := TP D A [(h0, ob 8 [.int h0f0, .int h0f1, .int h0f2, .int h0f3, .int h0f4, .int h0f5, .ref h2, .ref h3, .int h0f8, .int h0f9, .ref h4, .ref h5, .ref h6, .ref h1, .ref h7, .ref h8, .ref h9, .int h0f17, .int h0f18, .int h0f19, .ref h10, .ref h11, .ref h12, .ref h13, .int h0f24, .int h0f25, .ref h14, .ref h15, .ref h16, .ref h17, .int h0f30, .int h0f31, .ref h18, .ref h19, .ref h20, .ref h21]), (h1, aJ (k 1) 9 anJ)] H
set_option maxHeartbeats 4000000 in
set_option maxRecDepth 100000 in
theorem cX11_told_9727c (l : Launch) (D : va_G) (k : Nat → ClassId) (sz : Nat) (h0 h1 h2 h3 h4 h5 h6 h7 h8 h9 h10 h11 h12 h13 h14 h15 h16 h17 h18 h19 h20 h21 : Nat) (x2 : Int32) (h0f0 : Int32) (h0f1 : Int32) (h0f2 : Int32) (h0f3 : Int32) (h0f4 : Int32) (h0f5 : Int32) (h0f8 : Int32) (h0f9 : Int32) (h0f17 : Int32) (h0f18 : Int32) (h0f19 : Int32) (h0f24 : Int32) (h0f25 : Int32) (h0f30 : Int32) (h0f31 : Int32) (b_x2 : 2 ≤ x2.toInt ∧ x2.toInt ≤ 7) (b_h0f0 : 1 ≤ h0f0.toInt ∧ h0f0.toInt ≤ 3) (b_h0f1 : 1 ≤ h0f1.toInt ∧ h0f1.toInt ≤ 4) (b_h0f3 : 0 ≤ h0f3.toInt ∧ h0f3.toInt ≤ 3) (b_h0f4 : 0 ≤ h0f4.toInt ∧ h0f4.toInt ≤ 4) (b_h0f8 : 0 ≤ h0f8.toInt ∧ h0f8.toInt ≤ 1) (b_h0f9 : 0 ≤ h0f9.toInt ∧ h0f9.toInt ≤ 1) (b_h0f17 : 0 ≤ h0f17.toInt ∧ h0f17.toInt ≤ 120) (b_h0f18 : 0 ≤ h0f18.toInt ∧ h0f18.toInt ≤ 120) (b_h0f19 : 0 ≤ h0f19.toInt ∧ h0f19.toInt ≤ 4) (b_h0f24 : 0 ≤ h0f24.toInt ∧ h0f24.toInt ≤ 100) (b_h0f25 : 0 ≤ h0f25.toInt ∧ h0f25.toInt ≤ 1) (b_h0f30 : 0 ≤ h0f30.toInt ∧ h0f30.toInt ≤ 60) (b_h0f31 : 0 ≤ h0f31.toInt ∧ h0f31.toInt ≤ 1) (i_0 : h0f8.toInt ≤ h0f3.toInt) (i_1 : h0f9.toInt ≤ h0f24.toInt) : Met l yX11_told (Cond.code yX11_told cX11_told 6 (some .int) :: uw) Rm_cX11_told_9727c (pT D k sz [.ref h0, .ref h1, .int x2] [(h0, ob 8 [.int h0f0, .int h0f1, .int h0f2, .int h0f3, .int h0f4, .int h0f5, .ref h2, .ref h3, .int h0f8, .int h0f9, .ref h4, .ref h5, .ref h6, .ref h1, .ref h7, .ref h8, .ref h9, .int h0f17, .int h0f18, .int h0f19, .ref h10, .ref h11, .ref h12, .ref h13, .int h0f24, .int h0f25, .ref h14, .ref h15, .ref h16, .ref h17, .int h0f30, .int h0f31, .ref h18, .ref h19, .ref h20, .ref h21]), (h1, aJ (k 1) 9 anJ)]) (qI (B_cX11_told_9727c D k h0 h1 h2 h3 h4 h5 h6 h7 h8 h9 h10 h11 h12 h13 h14 h15 h16 h17 h18 h19 h20 h21 x2 h0f0 h0f1 h0f2 h0f3 h0f4 h0f5 h0f8 h0f9 h0f17 h0f18 h0f19 h0f24 h0f25 h0f30 h0f31 (zA [h0, h1] sz)) (zA [h0, h1] sz)) 0 0 (zA [h0, h1] sz) := by
  refine tz_begin (as := [h0, h1]) (Qc := fun A => qI (B_cX11_told_9727c D k h0 h1 h2 h3 h4 h5 h6 h7 h8 h9 h10 h11 h12 h13 h14 h15 h16 h17 h18 h19 h20 h21 x2 h0f0 h0f1 h0f2 h0f3 h0f4 h0f5 h0f8 h0f9 h0f17 h0f18 h0f19 h0f24 h0f25 h0f30 h0f31 A) A) (by decide +kernel) rfl (Nat.le_of_ble_eq_true rfl) ?_
  intro p e s m args below meth c ls A Q hx hb hr hml hown hlocks hin hU hK hT hS hA hl hQ
  have hl : lv_has ls 6 [(0, .ref h0), (1, .ref h1), (2, .int x2)] := hl
  have hT : TP D A [(h0, ob 8 [.int h0f0, .int h0f1, .int h0f2, .int h0f3, .int h0f4, .int h0f5, .ref h2, .ref h3, .int h0f8, .int h0f9, .ref h4, .ref h5, .ref h6, .ref h1, .ref h7, .ref h8, .ref h9, .int h0f17, .int h0f18, .int h0f19, .ref h10, .ref h11, .ref h12, .ref h13, .int h0f24, .int h0f25, .ref h14, .ref h15, .ref h16, .ref h17, .int h0f30, .int h0f31, .ref h18, .ref h19, .ref h20, .ref h21]), (h1, aJ (k 1) 9 anJ)] s.heap := hT
  refine lv_iconst (v := 0) hx hb dX11_told_0 (by decide) ?_
  refine lv_istore_n (lv' := [(3, .int 0), (0, .ref h0), (1, .ref h1), (2, .int x2)]) hx hb dX11_told_1 rfl hl (by decide) rfl (fun ls hl => ?_)
  refine lv_iconst (v := 0) hx hb dX11_told_2 (by decide) ?_
  refine lv_istore (lv' := [(4, .int 0), (3, .int 0), (0, .ref h0), (1, .ref h1), (2, .int x2)]) hx hb dX11_told_3 hl (by decide) rfl (fun ls hl => ?_)
  have lp5_15 : ∀ (n : Nat) (y13 : Int32) (y14 : Int32) (H : Heap) (locs : List Loc) (ls : Array Slot), (0 ≤ y13.toInt ∧ y13.toInt ≤ 9) → ((-1) * y13.toInt + 9 + 1).toNat < n → TP D A [(h0, ob 8 [.int h0f0, .int h0f1, .int h0f2, .int h0f3, .int h0f4, .int h0f5, .ref h2, .ref h3, .int h0f8, .int h0f9, .ref h4, .ref h5, .ref h6, .ref h1, .ref h7, .ref h8, .ref h9, .int h0f17, .int h0f18, .int h0f19, .ref h10, .ref h11, .ref h12, .ref h13, .int h0f24, .int h0f25, .ref h14, .ref h15, .ref h16, .ref h17, .int h0f30, .int h0f31, .ref h18, .ref h19, .ref h20, .ref h21]), (h1, aJ (k 1) 9 anJ)] H → va_S A s.heap H locs → lv_has ls 6 [(1, .ref h1), (2, .int x2), (3, .int y14), (4, .int y13)] → W p l e Rm_cX11_told_9727c s m args below meth c H locs 0 0 Q (F0 m 5 ls []) := by
    intro n
    induction n with
    | zero => intro y13 y14 H locs ls b_y13 hm hT hS hl; exact absurd hm (Nat.not_lt_zero _)
    | succ n ih =>
      intro y13 y14 H locs ls b_y13 hm hT hS hl
      have ih5_15 := ih
      clear ih
      refine lv_iload hx hb dX11_told_5 (lv_at hl 3 rfl) ?_
      refine lv_bipush (v := 9) hx hb dX11_told_7 (by decide) ?_
      refine lv_icmp_ge (tgt := 47) hx hb dX11_told_9 (by decide) (fun c_16 => ?_) (fun c_16 => ?_)
      · skip
        have c_16 := ni_le c_16 li_9 rfl
        refine lv_iload_n hx hb dX11_told_47 rfl (lv_at hl 2 rfl) ?_
        exact tz_retI (B := B_cX11_told_9727c D k h0 h1 h2 h3 h4 h5 h6 h7 h8 h9 h10 h11 h12 h13 h14 h15 h16 h17 h18 h19 h20 h21 x2 h0f0 h0f1 h0f2 h0f3 h0f4 h0f5 h0f8 h0f9 h0f17 h0f18 h0f19 h0f24 h0f25 h0f30 h0f31) (v := y14) hQ hx hb hr hlocks hS (Nat.le_of_ble_eq_true rfl) (Nat.le_of_ble_eq_true rfl) dX11_told_48 (hT)
      · skip
        have c_16 := ni_nle c_16 li_9 rfl
        refine lv_aload_n hx hb dX11_told_12 rfl (lv_at hl 0 rfl) ?_
        refine lv_iload hx hb dX11_told_13 (lv_at hl 3 rfl) ?_
        refine tz_lald hx hb hK hT 1 rfl (by omega) dX11_told_15 (fun v17 e_v17 => ?_)
        clear e_v17
        refine lv_iload_n hx hb dX11_told_16 rfl (lv_at hl 1 rfl) ?_
        obtain ⟨v18, e_v18⟩ : ∃ x : Int64, x2.toInt64 = x := ⟨_, rfl⟩
        refine lv_i2l (v := v18) hx hb dX11_told_17 e_v18 ?_
        have e_v18 := ai_i2l e_v18 rfl
        refine lv_lrem hx hb dX11_told_18 (nz64 (y := v18.toInt) rfl (by omega)) (lv_topl (fun v19 e_v19 => ?_))
        have e_v19 := al_rem e_v19 (nz64 (y := v18.toInt) rfl (by omega))
        refine lv_l2i hx hb dX11_told_19 rfl (lv_topi (fun v20 _ => ?_))
        refine lv_istore (lv' := [(5, .int v20), (1, .ref h1), (2, .int x2), (3, .int y14), (4, .int y13)]) hx hb dX11_told_20 hl (by decide) rfl (fun ls hl => ?_)
        refine lv_iload_n hx hb dX11_told_22 rfl (lv_at hl 2 rfl) ?_
        refine lv_iload_n hx hb dX11_told_23 rfl (lv_at hl 3 rfl) ?_
        refine lv_imul hx hb dX11_told_24 (lv_topi (fun v21 e_v21 => ?_))
        refine lv_iload hx hb dX11_told_25 (lv_at hl 0 rfl) ?_
        refine lv_if_ge (tgt := 37) hx hb dX11_told_27 (by decide) (fun c_22 => ?_) (fun c_22 => ?_)
        · skip
          have c_22 := ni_le c_22 li_0 rfl
          refine lv_iload hx hb dX11_told_37 (lv_at hl 0 rfl) ?_
          refine lv_iadd hx hb dX11_told_39 (lv_topi (fun v23 e_v23 => ?_))
          refine lv_istore_n (lv' := [(3, .int v23), (5, .int v20), (1, .ref h1), (2, .int x2), (4, .int y13)]) hx hb dX11_told_40 rfl hl (by decide) rfl (fun ls hl => ?_)
          obtain ⟨v24, e_v24⟩ : ∃ x : Int32, x = y13 + Int32.ofInt 1 := ⟨_, rfl⟩
          have f_v24 := e_v24.symm
          have e_v24 : v24.toInt = y13.toInt + 1 := ai_add e_v24 rfl (show (Int32.ofInt 1).toInt = 1 from (by decide +kernel)) (by omega)
          refine lv_iinc (v := v24) (lv' := [(4, .int v24), (3, .int v23), (5, .int v20), (1, .ref h1), (2, .int x2)]) hx hb dX11_told_41 hl (k := 4) rfl f_v24 (by decide) rfl (fun ls hl => ?_)
          refine lv_goto (tgt := 5) hx hb dX11_told_44 (by decide) ?_
          exact ih5_15 v24 v23 _ _ _ (by omega)  (by omega) hT hS (lv_sub hl [3, 4, 1, 0] rfl)
        · skip
          have c_22 := ni_nle c_22 li_0 rfl
          refine lv_iload hx hb dX11_told_30 (lv_at hl 0 rfl) ?_
          refine lv_iload_n hx hb dX11_told_32 rfl (lv_at hl 2 rfl) ?_
          have tb_v20 := i32b v20
          refine lv_iadd hx hb dX11_told_33 (lv_topi (fun v25 e_v25 => ?_))
          have e_v25 := ai_add e_v25 rfl rfl (by omega)
          refine lv_goto (tgt := 39) hx hb dX11_told_34 (by decide) ?_
          refine lv_iadd hx hb dX11_told_39 (lv_topi (fun v26 e_v26 => ?_))
          refine lv_istore_n (lv' := [(3, .int v26), (5, .int v20), (1, .ref h1), (2, .int x2), (4, .int y13)]) hx hb dX11_told_40 rfl hl (by decide) rfl (fun ls hl => ?_)
          obtain ⟨v27, e_v27⟩ : ∃ x : Int32, x = y13 + Int32.ofInt 1 := ⟨_, rfl⟩
          have f_v27 := e_v27.symm
          have e_v27 : v27.toInt = y13.toInt + 1 := ai_add e_v27 rfl (show (Int32.ofInt 1).toInt = 1 from (by decide +kernel)) (by omega)
          refine lv_iinc (v := v27) (lv' := [(4, .int v27), (3, .int v26), (5, .int v20), (1, .ref h1), (2, .int x2)]) hx hb dX11_told_41 hl (k := 4) rfl f_v27 (by decide) rfl (fun ls hl => ?_)
          refine lv_goto (tgt := 5) hx hb dX11_told_44 (by decide) ?_
          exact ih5_15 v27 v26 _ _ _ (by omega)  (by omega) hT hS (lv_sub hl [3, 4, 1, 0] rfl)
  exact lp5_15 (((-1) * (0 : Int32).toInt + 9 + 1).toNat + 1) (0) (0) _ _ _ (by have := li_0; omega)  (Nat.lt_succ_self _) hT hS (lv_sub hl [3, 4, 1, 0] rfl)
abbrev Rm_cX11_isPrime_f19f2 : Room := { frames := 0, cells := 0, slots := 0, locals := 0 }
abbrev B_cX11_isPrime_f19f2 (D : va_G) (k : Nat → ClassId) (x0 : Int32) (A : Nat → Prop) (r : Int32) (H : Heap) : Prop := (x0.toInt = 2 ∧ 1 = r ∧ TP D A [] H) ∨ (x0.toInt ≠ 2 ∧ x0.toInt = 3 ∧ 1 = r ∧ TP D A [] H) ∨ (x0.toInt ≠ 2 ∧ x0.toInt ≠ 3 ∧ x0.toInt = 5 ∧ 1 = r ∧ TP D A [] H) ∨ (0 = r ∧ TP D A [] H) ∨ (x0.toInt ≠ 2 ∧ x0.toInt ≠ 3 ∧ x0.toInt ≠ 5 ∧ x0.toInt = 7 ∧ 1 = r ∧ TP D A [] H)
set_option maxHeartbeats 4000000 in
set_option maxRecDepth 100000 in
theorem cX11_isPrime_f19f2 (l : Launch) (D : va_G) (k : Nat → ClassId) (sz : Nat) (x0 : Int32) : Met l yX11_isPrime (Cond.code yX11_isPrime cX11_isPrime 1 (some .boolean) :: uw) Rm_cX11_isPrime_f19f2 (pT D k sz [.int x0] []) (qI (B_cX11_isPrime_f19f2 D k x0 (zA [] sz)) (zA [] sz)) 0 0 (zA [] sz) := by
  refine tz_begin (as := []) (Qc := fun A => qI (B_cX11_isPrime_f19f2 D k x0 A) A) (by decide +kernel) rfl (Nat.le_of_ble_eq_true rfl) ?_
  intro p e s m args below meth c ls A Q hx hb hr hml hown hlocks hin hU hK hT hS hA hl hQ
  have hl : lv_has ls 1 [(0, .int x0)] := hl
  have hT : TP D A [] s.heap := hT
  refine lv_iload_n hx hb dX11_isPrime_0 rfl (lv_at hl 0 rfl) ?_
  refine lv_iconst (v := 2) hx hb dX11_isPrime_1 (by decide) ?_
  refine lv_icmp_eq (tgt := 21) hx hb dX11_isPrime_2 (by decide) (fun c_1 => ?_) (fun c_1 => ?_)
  · skip
    have c_1 := ni_eq c_1 rfl li_2
    refine lv_iconst (v := 1) hx hb dX11_isPrime_21 (by decide) ?_
    refine lv_goto (tgt := 26) hx hb dX11_isPrime_22 (by decide) ?_
    exact tz_retZ (B := B_cX11_isPrime_f19f2 D k x0) (v := 1) hQ hx hb hr hlocks hS (Nat.le_of_ble_eq_true rfl) (Nat.le_of_ble_eq_true rfl) dX11_isPrime_26 (by have := li_1; omega) (Or.inl ⟨(by have := li_1; omega), rfl, hT⟩)
  · skip
    have c_1 := ni_ne c_1 rfl li_2
    refine lv_iload_n hx hb dX11_isPrime_5 rfl (lv_at hl 0 rfl) ?_
    refine lv_iconst (v := 3) hx hb dX11_isPrime_6 (by decide) ?_
    refine lv_icmp_eq (tgt := 21) hx hb dX11_isPrime_7 (by decide) (fun c_2 => ?_) (fun c_2 => ?_)
    · skip
      have c_2 := ni_eq c_2 rfl li_3
      refine lv_iconst (v := 1) hx hb dX11_isPrime_21 (by decide) ?_
      refine lv_goto (tgt := 26) hx hb dX11_isPrime_22 (by decide) ?_
      exact tz_retZ (B := B_cX11_isPrime_f19f2 D k x0) (v := 1) hQ hx hb hr hlocks hS (Nat.le_of_ble_eq_true rfl) (Nat.le_of_ble_eq_true rfl) dX11_isPrime_26 (by have := li_1; omega) (Or.inr (Or.inl ⟨(by have := li_1; omega), (by have := li_1; omega), rfl, hT⟩))
    · skip
      have c_2 := ni_ne c_2 rfl li_3
      refine lv_iload_n hx hb dX11_isPrime_10 rfl (lv_at hl 0 rfl) ?_
      refine lv_iconst (v := 5) hx hb dX11_isPrime_11 (by decide) ?_
      refine lv_icmp_eq (tgt := 21) hx hb dX11_isPrime_12 (by decide) (fun c_3 => ?_) (fun c_3 => ?_)
      · skip
        have c_3 := ni_eq c_3 rfl li_5
        refine lv_iconst (v := 1) hx hb dX11_isPrime_21 (by decide) ?_
        refine lv_goto (tgt := 26) hx hb dX11_isPrime_22 (by decide) ?_
        exact tz_retZ (B := B_cX11_isPrime_f19f2 D k x0) (v := 1) hQ hx hb hr hlocks hS (Nat.le_of_ble_eq_true rfl) (Nat.le_of_ble_eq_true rfl) dX11_isPrime_26 (by have := li_1; omega) (Or.inr (Or.inr (Or.inl ⟨(by have := li_1; omega), (by have := li_1; omega), (by have := li_1; omega), rfl, hT⟩)))
      · skip
        have c_3 := ni_ne c_3 rfl li_5
        refine lv_iload_n hx hb dX11_isPrime_15 rfl (lv_at hl 0 rfl) ?_
        refine lv_bipush (v := 7) hx hb dX11_isPrime_16 (by decide) ?_
        refine lv_icmp_ne (tgt := 25) hx hb dX11_isPrime_18 (by decide) (fun c_4 => ?_) (fun c_4 => ?_)
        · skip
          have c_4 := ni_ne c_4 rfl li_7
          refine lv_iconst (v := 0) hx hb dX11_isPrime_25 (by decide) ?_
          exact tz_retZ (B := B_cX11_isPrime_f19f2 D k x0) (v := 0) hQ hx hb hr hlocks hS (Nat.le_of_ble_eq_true rfl) (Nat.le_of_ble_eq_true rfl) dX11_isPrime_26 (by have := li_0; omega) (Or.inr (Or.inr (Or.inr (Or.inl ⟨rfl, hT⟩))))
        · skip
          have c_4 := ni_eq c_4 rfl li_7
          refine lv_iconst (v := 1) hx hb dX11_isPrime_21 (by decide) ?_
          refine lv_goto (tgt := 26) hx hb dX11_isPrime_22 (by decide) ?_
          exact tz_retZ (B := B_cX11_isPrime_f19f2 D k x0) (v := 1) hQ hx hb hr hlocks hS (Nat.le_of_ble_eq_true rfl) (Nat.le_of_ble_eq_true rfl) dX11_isPrime_26 (by have := li_1; omega) (Or.inr (Or.inr (Or.inr (Or.inr (⟨(by have := li_1; omega), (by have := li_1; omega), (by have := li_1; omega), (by have := li_1; omega), rfl, hT⟩)))))
abbrev Rm_cX11_told_6fc77 : Room := { frames := 0, cells := 0, slots := 0, locals := 0 }
abbrev B_cX11_told_6fc77 (D : va_G) (k : Nat → ClassId) (h0 h1 h2 h3 h4 h5 h6 h7 h8 h9 h10 h11 h12 h13 h14 h15 h16 h17 h18 h19 h20 h21 : Nat) (x2 : Int32) (h0f0 : Int32) (h0f1 : Int32) (h0f2 : Int32) (h0f3 : Int32) (h0f4 : Int32) (h0f5 : Int32) (h0f8 : Int32) (h0f9 : Int32) (h0f17 : Int32) (h0f18 : Int32) (h0f19 : Int32) (h0f24 : Int32) (h0f25 : Int32) (h0f30 : Int32) (h0f31 : Int32) (A : Nat → Prop) (r : Int32) (H : Heap) : Prop := TP D A [(h0, ob 8 [.int h0f0, .int h0f1, .int h0f2, .int h0f3, .int h0f4, .int h0f5, .ref h2, .ref h3, .int h0f8, .int h0f9, .ref h4, .ref h1, .ref h5, .ref h6, .ref h7, .ref h8, .ref h9, .int h0f17, .int h0f18, .int h0f19, .ref h10, .ref h11, .ref h12, .ref h13, .int h0f24, .int h0f25, .ref h14, .ref h15, .ref h16, .ref h17, .int h0f30, .int h0f31, .ref h18, .ref h19, .ref h20, .ref h21]), (h1, aJ (k 1) 9 anJ)] H
set_option maxHeartbeats 4000000 in
set_option maxRecDepth 100000 in
theorem cX11_told_6fc77 (l : Launch) (D : va_G) (k : Nat → ClassId) (sz : Nat) (h0 h1 h2 h3 h4 h5 h6 h7 h8 h9 h10 h11 h12 h13 h14 h15 h16 h17 h18 h19 h20 h21 : Nat) (x2 : Int32) (h0f0 : Int32) (h0f1 : Int32) (h0f2 : Int32) (h0f3 : Int32) (h0f4 : Int32) (h0f5 : Int32) (h0f8 : Int32) (h0f9 : Int32) (h0f17 : Int32) (h0f18 : Int32) (h0f19 : Int32) (h0f24 : Int32) (h0f25 : Int32) (h0f30 : Int32) (h0f31 : Int32) (b_x2 : 2 ≤ x2.toInt ∧ x2.toInt ≤ 7) (b_h0f0 : 1 ≤ h0f0.toInt ∧ h0f0.toInt ≤ 3) (b_h0f1 : 0 ≤ h0f1.toInt ∧ h0f1.toInt ≤ 4) (b_h0f3 : 0 ≤ h0f3.toInt ∧ h0f3.toInt ≤ 3) (b_h0f4 : 0 ≤ h0f4.toInt ∧ h0f4.toInt ≤ 4) (b_h0f8 : 0 ≤ h0f8.toInt ∧ h0f8.toInt ≤ 1) (b_h0f9 : 0 ≤ h0f9.toInt ∧ h0f9.toInt ≤ 1) (b_h0f17 : 0 ≤ h0f17.toInt ∧ h0f17.toInt ≤ 120) (b_h0f18 : 0 ≤ h0f18.toInt ∧ h0f18.toInt ≤ 120) (b_h0f19 : 0 ≤ h0f19.toInt ∧ h0f19.toInt ≤ 4) (b_h0f24 : 0 ≤ h0f24.toInt ∧ h0f24.toInt ≤ 100) (b_h0f25 : 0 ≤ h0f25.toInt ∧ h0f25.toInt ≤ 1) (b_h0f30 : 0 ≤ h0f30.toInt ∧ h0f30.toInt ≤ 60) (b_h0f31 : 0 ≤ h0f31.toInt ∧ h0f31.toInt ≤ 1) (i_0 : h0f8.toInt ≤ h0f3.toInt) (i_1 : h0f9.toInt ≤ h0f24.toInt) : Met l yX11_told (Cond.code yX11_told cX11_told 6 (some .int) :: uw) Rm_cX11_told_6fc77 (pT D k sz [.ref h0, .ref h1, .int x2] [(h0, ob 8 [.int h0f0, .int h0f1, .int h0f2, .int h0f3, .int h0f4, .int h0f5, .ref h2, .ref h3, .int h0f8, .int h0f9, .ref h4, .ref h1, .ref h5, .ref h6, .ref h7, .ref h8, .ref h9, .int h0f17, .int h0f18, .int h0f19, .ref h10, .ref h11, .ref h12, .ref h13, .int h0f24, .int h0f25, .ref h14, .ref h15, .ref h16, .ref h17, .int h0f30, .int h0f31, .ref h18, .ref h19, .ref h20, .ref h21]), (h1, aJ (k 1) 9 anJ)]) (qI (B_cX11_told_6fc77 D k h0 h1 h2 h3 h4 h5 h6 h7 h8 h9 h10 h11 h12 h13 h14 h15 h16 h17 h18 h19 h20 h21 x2 h0f0 h0f1 h0f2 h0f3 h0f4 h0f5 h0f8 h0f9 h0f17 h0f18 h0f19 h0f24 h0f25 h0f30 h0f31 (zA [h0, h1] sz)) (zA [h0, h1] sz)) 0 0 (zA [h0, h1] sz) := by
  refine tz_begin (as := [h0, h1]) (Qc := fun A => qI (B_cX11_told_6fc77 D k h0 h1 h2 h3 h4 h5 h6 h7 h8 h9 h10 h11 h12 h13 h14 h15 h16 h17 h18 h19 h20 h21 x2 h0f0 h0f1 h0f2 h0f3 h0f4 h0f5 h0f8 h0f9 h0f17 h0f18 h0f19 h0f24 h0f25 h0f30 h0f31 A) A) (by decide +kernel) rfl (Nat.le_of_ble_eq_true rfl) ?_
  intro p e s m args below meth c ls A Q hx hb hr hml hown hlocks hin hU hK hT hS hA hl hQ
  have hl : lv_has ls 6 [(0, .ref h0), (1, .ref h1), (2, .int x2)] := hl
  have hT : TP D A [(h0, ob 8 [.int h0f0, .int h0f1, .int h0f2, .int h0f3, .int h0f4, .int h0f5, .ref h2, .ref h3, .int h0f8, .int h0f9, .ref h4, .ref h1, .ref h5, .ref h6, .ref h7, .ref h8, .ref h9, .int h0f17, .int h0f18, .int h0f19, .ref h10, .ref h11, .ref h12, .ref h13, .int h0f24, .int h0f25, .ref h14, .ref h15, .ref h16, .ref h17, .int h0f30, .int h0f31, .ref h18, .ref h19, .ref h20, .ref h21]), (h1, aJ (k 1) 9 anJ)] s.heap := hT
  refine lv_iconst (v := 0) hx hb dX11_told_0 (by decide) ?_
  refine lv_istore_n (lv' := [(3, .int 0), (0, .ref h0), (1, .ref h1), (2, .int x2)]) hx hb dX11_told_1 rfl hl (by decide) rfl (fun ls hl => ?_)
  refine lv_iconst (v := 0) hx hb dX11_told_2 (by decide) ?_
  refine lv_istore (lv' := [(4, .int 0), (3, .int 0), (0, .ref h0), (1, .ref h1), (2, .int x2)]) hx hb dX11_told_3 hl (by decide) rfl (fun ls hl => ?_)
  have lp5_15 : ∀ (n : Nat) (y13 : Int32) (y14 : Int32) (H : Heap) (locs : List Loc) (ls : Array Slot), (0 ≤ y13.toInt ∧ y13.toInt ≤ 9) → ((-1) * y13.toInt + 9 + 1).toNat < n → TP D A [(h0, ob 8 [.int h0f0, .int h0f1, .int h0f2, .int h0f3, .int h0f4, .int h0f5, .ref h2, .ref h3, .int h0f8, .int h0f9, .ref h4, .ref h1, .ref h5, .ref h6, .ref h7, .ref h8, .ref h9, .int h0f17, .int h0f18, .int h0f19, .ref h10, .ref h11, .ref h12, .ref h13, .int h0f24, .int h0f25, .ref h14, .ref h15, .ref h16, .ref h17, .int h0f30, .int h0f31, .ref h18, .ref h19, .ref h20, .ref h21]), (h1, aJ (k 1) 9 anJ)] H → va_S A s.heap H locs → lv_has ls 6 [(1, .ref h1), (2, .int x2), (3, .int y14), (4, .int y13)] → W p l e Rm_cX11_told_6fc77 s m args below meth c H locs 0 0 Q (F0 m 5 ls []) := by
    intro n
    induction n with
    | zero => intro y13 y14 H locs ls b_y13 hm hT hS hl; exact absurd hm (Nat.not_lt_zero _)
    | succ n ih =>
      intro y13 y14 H locs ls b_y13 hm hT hS hl
      have ih5_15 := ih
      clear ih
      refine lv_iload hx hb dX11_told_5 (lv_at hl 3 rfl) ?_
      refine lv_bipush (v := 9) hx hb dX11_told_7 (by decide) ?_
      refine lv_icmp_ge (tgt := 47) hx hb dX11_told_9 (by decide) (fun c_16 => ?_) (fun c_16 => ?_)
      · skip
        have c_16 := ni_le c_16 li_9 rfl
        refine lv_iload_n hx hb dX11_told_47 rfl (lv_at hl 2 rfl) ?_
        exact tz_retI (B := B_cX11_told_6fc77 D k h0 h1 h2 h3 h4 h5 h6 h7 h8 h9 h10 h11 h12 h13 h14 h15 h16 h17 h18 h19 h20 h21 x2 h0f0 h0f1 h0f2 h0f3 h0f4 h0f5 h0f8 h0f9 h0f17 h0f18 h0f19 h0f24 h0f25 h0f30 h0f31) (v := y14) hQ hx hb hr hlocks hS (Nat.le_of_ble_eq_true rfl) (Nat.le_of_ble_eq_true rfl) dX11_told_48 (hT)
      · skip
        have c_16 := ni_nle c_16 li_9 rfl
        refine lv_aload_n hx hb dX11_told_12 rfl (lv_at hl 0 rfl) ?_
        refine lv_iload hx hb dX11_told_13 (lv_at hl 3 rfl) ?_
        refine tz_lald hx hb hK hT 1 rfl (by omega) dX11_told_15 (fun v17 e_v17 => ?_)
        clear e_v17
        refine lv_iload_n hx hb dX11_told_16 rfl (lv_at hl 1 rfl) ?_
        obtain ⟨v18, e_v18⟩ : ∃ x : Int64, x2.toInt64 = x := ⟨_, rfl⟩
        refine lv_i2l (v := v18) hx hb dX11_told_17 e_v18 ?_
        have e_v18 := ai_i2l e_v18 rfl
        refine lv_lrem hx hb dX11_told_18 (nz64 (y := v18.toInt) rfl (by omega)) (lv_topl (fun v19 e_v19 => ?_))
        have e_v19 := al_rem e_v19 (nz64 (y := v18.toInt) rfl (by omega))
        refine lv_l2i hx hb dX11_told_19 rfl (lv_topi (fun v20 _ => ?_))
        refine lv_istore (lv' := [(5, .int v20), (1, .ref h1), (2, .int x2), (3, .int y14), (4, .int y13)]) hx hb dX11_told_20 hl (by decide) rfl (fun ls hl => ?_)
        refine lv_iload_n hx hb dX11_told_22 rfl (lv_at hl 2 rfl) ?_
        refine lv_iload_n hx hb dX11_told_23 rfl (lv_at hl 3 rfl) ?_
        refine lv_imul hx hb dX11_told_24 (lv_topi (fun v21 e_v21 => ?_))
        refine lv_iload hx hb dX11_told_25 (lv_at hl 0 rfl) ?_
        refine lv_if_ge (tgt := 37) hx hb dX11_told_27 (by decide) (fun c_22 => ?_) (fun c_22 => ?_)
        · skip
          have c_22 := ni_le c_22 li_0 rfl
          refine lv_iload hx hb dX11_told_37 (lv_at hl 0 rfl) ?_
          refine lv_iadd hx hb dX11_told_39 (lv_topi (fun v23 e_v23 => ?_))
          refine lv_istore_n (lv' := [(3, .int v23), (5, .int v20), (1, .ref h1), (2, .int x2), (4, .int y13)]) hx hb dX11_told_40 rfl hl (by decide) rfl (fun ls hl => ?_)
          obtain ⟨v24, e_v24⟩ : ∃ x : Int32, x = y13 + Int32.ofInt 1 := ⟨_, rfl⟩
          have f_v24 := e_v24.symm
          have e_v24 : v24.toInt = y13.toInt + 1 := ai_add e_v24 rfl (show (Int32.ofInt 1).toInt = 1 from (by decide +kernel)) (by omega)
          refine lv_iinc (v := v24) (lv' := [(4, .int v24), (3, .int v23), (5, .int v20), (1, .ref h1), (2, .int x2)]) hx hb dX11_told_41 hl (k := 4) rfl f_v24 (by decide) rfl (fun ls hl => ?_)
          refine lv_goto (tgt := 5) hx hb dX11_told_44 (by decide) ?_
          exact ih5_15 v24 v23 _ _ _ (by omega)  (by omega) hT hS (lv_sub hl [3, 4, 1, 0] rfl)
        · skip
          have c_22 := ni_nle c_22 li_0 rfl
          refine lv_iload hx hb dX11_told_30 (lv_at hl 0 rfl) ?_
          refine lv_iload_n hx hb dX11_told_32 rfl (lv_at hl 2 rfl) ?_
          have tb_v20 := i32b v20
          refine lv_iadd hx hb dX11_told_33 (lv_topi (fun v25 e_v25 => ?_))
          have e_v25 := ai_add e_v25 rfl rfl (by omega)
          refine lv_goto (tgt := 39) hx hb dX11_told_34 (by decide) ?_
          refine lv_iadd hx hb dX11_told_39 (lv_topi (fun v26 e_v26 => ?_))
          refine lv_istore_n (lv' := [(3, .int v26), (5, .int v20), (1, .ref h1), (2, .int x2), (4, .int y13)]) hx hb dX11_told_40 rfl hl (by decide) rfl (fun ls hl => ?_)
          obtain ⟨v27, e_v27⟩ : ∃ x : Int32, x = y13 + Int32.ofInt 1 := ⟨_, rfl⟩
          have f_v27 := e_v27.symm
          have e_v27 : v27.toInt = y13.toInt + 1 := ai_add e_v27 rfl (show (Int32.ofInt 1).toInt = 1 from (by decide +kernel)) (by omega)
          refine lv_iinc (v := v27) (lv' := [(4, .int v27), (3, .int v26), (5, .int v20), (1, .ref h1), (2, .int x2)]) hx hb dX11_told_41 hl (k := 4) rfl f_v27 (by decide) rfl (fun ls hl => ?_)
          refine lv_goto (tgt := 5) hx hb dX11_told_44 (by decide) ?_
          exact ih5_15 v27 v26 _ _ _ (by omega)  (by omega) hT hS (lv_sub hl [3, 4, 1, 0] rfl)
  exact lp5_15 (((-1) * (0 : Int32).toInt + 9 + 1).toNat + 1) (0) (0) _ _ _ (by have := li_0; omega)  (Nat.lt_succ_self _) hT hS (lv_sub hl [3, 4, 1, 0] rfl)
abbrev Rm_cX11_image_316cc : Room := { frames := 2, cells := 0, slots := 0, locals := 48 }
abbrev B_cX11_image_316cc (D : va_G) (k : Nat → ClassId) (h0 h1 h4 h5 h6 h14 h2 h3 h7 h8 h9 h10 h11 h12 h13 h15 h16 h17 h18 h19 h20 h21 : Nat) (x1 : Int32) (h0f0 : Int32) (h0f1 : Int32) (h0f2 : Int32) (h0f3 : Int32) (h0f4 : Int32) (h0f5 : Int32) (h0f8 : Int32) (h0f9 : Int32) (h0f17 : Int32) (h0f18 : Int32) (h0f19 : Int32) (h0f24 : Int32) (h0f25 : Int32) (h0f30 : Int32) (h0f31 : Int32) (A : Nat → Prop) (r : Int32) (H : Heap) : Prop := ((-1) ≤ r.toInt ∧ r.toInt ≤ 400) ∧ TP D A [(h0, ob 8 [.int h0f0, .int h0f1, .int h0f2, .int h0f3, .int h0f4, .int h0f5, .ref h1, .ref h2, .int h0f8, .int h0f9, .ref h3, .ref h4, .ref h5, .ref h6, .ref h7, .ref h8, .ref h9, .int h0f17, .int h0f18, .int h0f19, .ref h10, .ref h11, .ref h12, .ref h13, .int h0f24, .int h0f25, .ref h14, .ref h15, .ref h16, .ref h17, .int h0f30, .int h0f31, .ref h18, .ref h19, .ref h20, .ref h21]), (h1, aI (k 0) 36 anI), (h4, aJ (k 1) 9 anJ), (h5, aJ (k 1) 9 anJ), (h6, aJ (k 1) 9 anJ), (h14, aI (k 0) 400 anI)] H
set_option maxHeartbeats 4000000 in
set_option maxRecDepth 100000 in
theorem cX11_image_316cc (l : Launch) (D : va_G) (k : Nat → ClassId) (sz : Nat) (h0 h1 h4 h5 h6 h14 h2 h3 h7 h8 h9 h10 h11 h12 h13 h15 h16 h17 h18 h19 h20 h21 : Nat) (x1 : Int32) (h0f0 : Int32) (h0f1 : Int32) (h0f2 : Int32) (h0f3 : Int32) (h0f4 : Int32) (h0f5 : Int32) (h0f8 : Int32) (h0f9 : Int32) (h0f17 : Int32) (h0f18 : Int32) (h0f19 : Int32) (h0f24 : Int32) (h0f25 : Int32) (h0f30 : Int32) (h0f31 : Int32) (b_h0f0 : 1 ≤ h0f0.toInt ∧ h0f0.toInt ≤ 3) (b_h0f1 : 0 ≤ h0f1.toInt ∧ h0f1.toInt ≤ 4) (b_h0f3 : 0 ≤ h0f3.toInt ∧ h0f3.toInt ≤ 3) (b_h0f4 : 0 ≤ h0f4.toInt ∧ h0f4.toInt ≤ 4) (b_h0f8 : 0 ≤ h0f8.toInt ∧ h0f8.toInt ≤ 1) (b_h0f9 : 0 ≤ h0f9.toInt ∧ h0f9.toInt ≤ 1) (b_h0f17 : 0 ≤ h0f17.toInt ∧ h0f17.toInt ≤ 120) (b_h0f18 : 0 ≤ h0f18.toInt ∧ h0f18.toInt ≤ 120) (b_h0f19 : 0 ≤ h0f19.toInt ∧ h0f19.toInt ≤ 4) (b_h0f24 : 0 ≤ h0f24.toInt ∧ h0f24.toInt ≤ 100) (b_h0f25 : 0 ≤ h0f25.toInt ∧ h0f25.toInt ≤ 1) (b_h0f30 : 0 ≤ h0f30.toInt ∧ h0f30.toInt ≤ 60) (b_h0f31 : 0 ≤ h0f31.toInt ∧ h0f31.toInt ≤ 1) (i_0 : h0f8.toInt ≤ h0f3.toInt) (i_1 : h0f9.toInt ≤ h0f24.toInt) : Met l yX11_image (Cond.code yX11_image cX11_image 8 (some .int) :: uw) Rm_cX11_image_316cc (pT D k sz [.ref h0, .int x1] [(h0, ob 8 [.int h0f0, .int h0f1, .int h0f2, .int h0f3, .int h0f4, .int h0f5, .ref h1, .ref h2, .int h0f8, .int h0f9, .ref h3, .ref h4, .ref h5, .ref h6, .ref h7, .ref h8, .ref h9, .int h0f17, .int h0f18, .int h0f19, .ref h10, .ref h11, .ref h12, .ref h13, .int h0f24, .int h0f25, .ref h14, .ref h15, .ref h16, .ref h17, .int h0f30, .int h0f31, .ref h18, .ref h19, .ref h20, .ref h21]), (h1, aI (k 0) 36 anI), (h4, aJ (k 1) 9 anJ), (h5, aJ (k 1) 9 anJ), (h6, aJ (k 1) 9 anJ), (h14, aI (k 0) 400 anI)]) (qI (B_cX11_image_316cc D k h0 h1 h4 h5 h6 h14 h2 h3 h7 h8 h9 h10 h11 h12 h13 h15 h16 h17 h18 h19 h20 h21 x1 h0f0 h0f1 h0f2 h0f3 h0f4 h0f5 h0f8 h0f9 h0f17 h0f18 h0f19 h0f24 h0f25 h0f30 h0f31 (zA [h0, h1, h4, h5, h6, h14] sz)) (zA [h0, h1, h4, h5, h6, h14] sz)) 0 0 (zA [h0, h1, h4, h5, h6, h14] sz) := by
  refine tz_begin (as := [h0, h1, h4, h5, h6, h14]) (Qc := fun A => qI (B_cX11_image_316cc D k h0 h1 h4 h5 h6 h14 h2 h3 h7 h8 h9 h10 h11 h12 h13 h15 h16 h17 h18 h19 h20 h21 x1 h0f0 h0f1 h0f2 h0f3 h0f4 h0f5 h0f8 h0f9 h0f17 h0f18 h0f19 h0f24 h0f25 h0f30 h0f31 A) A) (by decide +kernel) rfl (Nat.le_of_ble_eq_true rfl) ?_
  intro p e s m args below meth c ls A Q hx hb hr hml hown hlocks hin hU hK hT hS hA hl hQ
  have hl : lv_has ls 8 [(0, .ref h0), (1, .int x1)] := hl
  have hT : TP D A [(h0, ob 8 [.int h0f0, .int h0f1, .int h0f2, .int h0f3, .int h0f4, .int h0f5, .ref h1, .ref h2, .int h0f8, .int h0f9, .ref h3, .ref h4, .ref h5, .ref h6, .ref h7, .ref h8, .ref h9, .int h0f17, .int h0f18, .int h0f19, .ref h10, .ref h11, .ref h12, .ref h13, .int h0f24, .int h0f25, .ref h14, .ref h15, .ref h16, .ref h17, .int h0f30, .int h0f31, .ref h18, .ref h19, .ref h20, .ref h21]), (h1, aI (k 0) 36 anI), (h4, aJ (k 1) 9 anJ), (h5, aJ (k 1) 9 anJ), (h6, aJ (k 1) 9 anJ), (h14, aI (k 0) 400 anI)] s.heap := hT
  have lp36_49 : ∀ (n : Nat) (y47 : Int32) (y48 : Int32) (H : Heap) (locs : List Loc) (ls : Array Slot), (0 ≤ y47.toInt ∧ y47.toInt ≤ 400) → (1 ≤ y48.toInt ∧ y48.toInt ≤ 400) → (2 ≤ x1.toInt ∧ x1.toInt ≤ 7) → (400 - y47.toInt).toNat < n → TP D A [(h1, aI (k 0) 36 anI), (h5, aJ (k 1) 9 anJ), (h6, aJ (k 1) 9 anJ), (h14, aI (k 0) 400 anI), (h0, ob 8 [.int h0f0, .int h0f1, .int h0f2, .int h0f3, .int h0f4, .int h0f5, .ref h1, .ref h2, .int h0f8, .int h0f9, .ref h3, .ref h4, .ref h5, .ref h6, .ref h7, .ref h8, .ref h9, .int h0f17, .int h0f18, .int h0f19, .ref h10, .ref h11, .ref h12, .ref h13, .int h0f24, .int h0f25, .ref h14, .ref h15, .ref h16, .ref h17, .int h0f30, .int h0f31, .ref h18, .ref h19, .ref h20, .ref h21]), (h4, aJ (k 1) 9 anJ)] H → va_S A s.heap H locs → lv_has ls 8 [(0, .ref h0), (1, .int x1), (2, .int y48), (3, .int y47)] → W p l e Rm_cX11_image_316cc s m args below meth c H locs 0 0 Q (F0 m 36 ls []) := by
    intro n
    induction n with
    | zero => intro y47 y48 H locs ls b_y47 b_y48 b_x1 hm hT hS hl; exact absurd hm (Nat.not_lt_zero _)
    | succ n ih =>
      intro y47 y48 H locs ls b_y47 b_y48 b_x1 hm hT hS hl
      have ih36_49 := ih
      clear ih
      refine lv_iload_n hx hb dX11_image_36 rfl (lv_at hl 3 rfl) ?_
      refine lv_iload_n hx hb dX11_image_37 rfl (lv_at hl 2 rfl) ?_
      refine lv_icmp_ge (tgt := 182) hx hb dX11_image_38 (by decide) (fun c_50 => ?_) (fun c_50 => ?_)
      · skip
        have c_50 := ni_le c_50 rfl rfl
        refine lv_iload_n hx hb dX11_image_182 rfl (lv_at hl 2 rfl) ?_
        exact tz_retI (B := B_cX11_image_316cc D k h0 h1 h4 h5 h6 h14 h2 h3 h7 h8 h9 h10 h11 h12 h13 h15 h16 h17 h18 h19 h20 h21 x1 h0f0 h0f1 h0f2 h0f3 h0f4 h0f5 h0f8 h0f9 h0f17 h0f18 h0f19 h0f24 h0f25 h0f30 h0f31) (v := y48) hQ hx hb hr hlocks hS (Nat.le_of_ble_eq_true rfl) (Nat.le_of_ble_eq_true rfl) dX11_image_183 (⟨(by omega), (hT.sub [4, 0, 5, 1, 2, 3] (by decide) rfl)⟩)
      · skip
        have c_50 := ni_nle c_50 rfl rfl
        refine lv_iconst (v := 0) hx hb dX11_image_41 (by decide) ?_
        refine lv_istore (lv' := [(4, .int 0), (0, .ref h0), (1, .int x1), (2, .int y48), (3, .int y47)]) hx hb dX11_image_42 hl (by decide) rfl (fun ls hl => ?_)
        have lp44_59 : ∀ (n : Nat) (y57 : Int32) (y58 : Int32) (H : Heap) (locs : List Loc) (ls : Array Slot), (0 ≤ y57.toInt ∧ y57.toInt ≤ 4) → (1 ≤ y58.toInt ∧ y58.toInt ≤ 400) → (h0f1.toInt + (-1) * y57.toInt + 1).toNat < n → TP D A [(h1, aI (k 0) 36 anI), (h5, aJ (k 1) 9 anJ), (h6, aJ (k 1) 9 anJ), (h14, aI (k 0) 400 anI), (h0, ob 8 [.int h0f0, .int h0f1, .int h0f2, .int h0f3, .int h0f4, .int h0f5, .ref h1, .ref h2, .int h0f8, .int h0f9, .ref h3, .ref h4, .ref h5, .ref h6, .ref h7, .ref h8, .ref h9, .int h0f17, .int h0f18, .int h0f19, .ref h10, .ref h11, .ref h12, .ref h13, .int h0f24, .int h0f25, .ref h14, .ref h15, .ref h16, .ref h17, .int h0f30, .int h0f31, .ref h18, .ref h19, .ref h20, .ref h21]), (h4, aJ (k 1) 9 anJ)] H → va_S A s.heap H locs → lv_has ls 8 [(0, .ref h0), (1, .int x1), (2, .int y58), (3, .int y47), (4, .int y57)] → W p l e Rm_cX11_image_316cc s m args below meth c H locs 0 0 Q (F0 m 44 ls []) := by
          intro n
          induction n with
          | zero => intro y57 y58 H locs ls b_y57 b_y58 hm hT hS hl; exact absurd hm (Nat.not_lt_zero _)
          | succ n ih =>
            intro y57 y58 H locs ls b_y57 b_y58 hm hT hS hl
            have ih44_59 := ih
            clear ih
            refine lv_iload hx hb dX11_image_44 (lv_at hl 4 rfl) ?_
            refine lv_aload_n hx hb dX11_image_46 rfl (lv_at hl 0 rfl) ?_
            refine tz_get (ci := 8) (v := .int h0f1) (C := RX11) (F := TX11) (N := 36) hx hb hU iX11 hown hK hT 4 rfl rfl 1 (by decide) w786 (fun _ h9 => h9) rfl dX11_image_47 ?_
            refine lv_icmp_ge (tgt := 176) hx hb dX11_image_50 (by decide) (fun c_60 => ?_) (fun c_60 => ?_)
            · skip
              have c_60 := ni_le c_60 rfl rfl
              obtain ⟨v61, e_v61⟩ : ∃ x : Int32, x = y47 + Int32.ofInt 1 := ⟨_, rfl⟩
              have f_v61 := e_v61.symm
              have e_v61 : v61.toInt = y47.toInt + 1 := ai_add e_v61 rfl (show (Int32.ofInt 1).toInt = 1 from (by decide +kernel)) (by omega)
              refine lv_iinc (v := v61) (lv' := [(3, .int v61), (0, .ref h0), (1, .int x1), (2, .int y58), (4, .int y57)]) hx hb dX11_image_176 hl (k := 3) rfl f_v61 (by decide) rfl (fun ls hl => ?_)
              refine lv_goto (tgt := 36) hx hb dX11_image_179 (by decide) ?_
              exact ih36_49 v61 y58 _ _ _ (by omega) (by omega) (by omega)  (by omega) hT hS (lv_sub hl [1, 2, 3, 0] rfl)
            · skip
              have c_60 := ni_nle c_60 rfl rfl
              refine lv_iload_n hx hb dX11_image_53 rfl (lv_at hl 2 rfl) ?_
              refine lv_sipush (v := 400) hx hb dX11_image_54 (by decide) ?_
              refine lv_icmp_ge (tgt := 176) hx hb dX11_image_57 (by decide) (fun c_62 => ?_) (fun c_62 => ?_)
              · skip
                have c_62 := ni_le c_62 li_400 rfl
                obtain ⟨v63, e_v63⟩ : ∃ x : Int32, x = y47 + Int32.ofInt 1 := ⟨_, rfl⟩
                have f_v63 := e_v63.symm
                have e_v63 : v63.toInt = y47.toInt + 1 := ai_add e_v63 rfl (show (Int32.ofInt 1).toInt = 1 from (by decide +kernel)) (by omega)
                refine lv_iinc (v := v63) (lv' := [(3, .int v63), (0, .ref h0), (1, .int x1), (2, .int y58), (4, .int y57)]) hx hb dX11_image_176 hl (k := 3) rfl f_v63 (by decide) rfl (fun ls hl => ?_)
                refine lv_goto (tgt := 36) hx hb dX11_image_179 (by decide) ?_
                exact ih36_49 v63 y58 _ _ _ (by omega) (by omega) (by omega)  (by omega) hT hS (lv_sub hl [1, 2, 3, 0] rfl)
              · skip
                have c_62 := ni_nle c_62 li_400 rfl
                refine lv_aload_n hx hb dX11_image_60 rfl (lv_at hl 0 rfl) ?_
                refine lv_aload_n hx hb dX11_image_61 rfl (lv_at hl 0 rfl) ?_
                refine tz_get (ci := 8) (v := .ref h14) (C := RX11) (F := TX11) (N := 36) hx hb hU iX11 hown hK hT 4 rfl rfl 26 (by decide) w811 (fun _ h9 => h9) rfl dX11_image_62 ?_
                refine lv_iload_n hx hb dX11_image_65 rfl (lv_at hl 3 rfl) ?_
                refine tz_iald hx hb hK hT 3 rfl (by omega) dX11_image_66 (fun v64 e_v64 => ?_)
                clear e_v64
                refine lv_iload_n hx hb dX11_image_67 rfl (lv_at hl 1 rfl) ?_
                refine lv_aload_n hx hb dX11_image_68 rfl (lv_at hl 0 rfl) ?_
                refine tz_get (ci := 8) (v := .ref h4) (C := RX11) (F := TX11) (N := 36) hx hb hU iX11 hown hK hT 4 rfl rfl 11 (by decide) w796 (fun _ h9 => h9) rfl dX11_image_69 ?_
                refine tcV (Tc := [(h0, ob 8 [.int h0f0, .int h0f1, .int h0f2, .int h0f3, .int h0f4, .int h0f5, .ref h1, .ref h2, .int h0f8, .int h0f9, .ref h3, .ref h4, .ref h5, .ref h6, .ref h7, .ref h8, .ref h9, .int h0f17, .int h0f18, .int h0f19, .ref h10, .ref h11, .ref h12, .ref h13, .int h0f24, .int h0f25, .ref h14, .ref h15, .ref h16, .ref h17, .int h0f30, .int h0f31, .ref h18, .ref h19, .ref h20, .ref h21]), (h4, aJ (k 1) 9 anJ)]) (Tr := [(h1, aI (k 0) 36 anI), (h5, aJ (k 1) 9 anJ), (h6, aJ (k 1) 9 anJ), (h14, aI (k 0) 400 anI)]) (as := [h0, h4]) (zcV (q0 := 4) (ci := 8) (As := [.int v64, .int x1, .ref h4]) (rest := []) (Tc := [(h0, ob 8 [.int h0f0, .int h0f1, .int h0f2, .int h0f3, .int h0f4, .int h0f5, .ref h1, .ref h2, .int h0f8, .int h0f9, .ref h3, .ref h4, .ref h5, .ref h6, .ref h7, .ref h8, .ref h9, .int h0f17, .int h0f18, .int h0f19, .ref h10, .ref h11, .ref h12, .ref h13, .int h0f24, .int h0f25, .ref h14, .ref h15, .ref h16, .ref h17, .int h0f30, .int h0f31, .ref h18, .ref h19, .ref h20, .ref h21]), (h4, aJ (k 1) 9 anJ)]) hx hb hml hown hU hK hT rfl rfl [4, 5] rfl (by decide) (cX11_untold_26142 l D k _ h0 h4 h1 h2 h3 h5 h6 h7 h8 h9 h10 h11 h12 h13 h14 h15 h16 h17 h18 h19 h20 h21 v64 x1 h0f0 h0f1 h0f2 h0f3 h0f4 h0f5 h0f8 h0f9 h0f17 h0f18 h0f19 h0f24 h0f25 h0f30 h0f31 (by omega) (by omega) (by omega) (by omega) (by omega) (by omega) (by omega) (by omega) (by omega) (by omega) (by omega) (by omega) (by omega) (by omega) (by omega) (by omega)) w1126 w1123 w1125 w56 w72 hdX11_untold ⟨rfl, rfl⟩ ⟨Nat.le_of_ble_eq_true rfl, Nat.le_of_ble_eq_true rfl⟩ rfl hl.1 (Nat.le_of_ble_eq_true rfl) dX11_image_72 ⟨Nat.le_of_ble_eq_true rfl, Nat.le_of_ble_eq_true rfl⟩) hT hS hA [4, 5] [0, 1, 2, 3] rfl rfl rfl (by decide) (by decide) (fun H locs hB J hS => ?_)
                have hT1 := hB
                have hT := J _ hT1
                have hT : TP D A [(h1, aI (k 0) 36 anI), (h5, aJ (k 1) 9 anJ), (h6, aJ (k 1) 9 anJ), (h14, aI (k 0) 400 anI), (h0, ob 8 [.int h0f0, .int h0f1, .int h0f2, .int h0f3, .int h0f4, .int h0f5, .ref h1, .ref h2, .int h0f8, .int h0f9, .ref h3, .ref h4, .ref h5, .ref h6, .ref h7, .ref h8, .ref h9, .int h0f17, .int h0f18, .int h0f19, .ref h10, .ref h11, .ref h12, .ref h13, .int h0f24, .int h0f25, .ref h14, .ref h15, .ref h16, .ref h17, .int h0f30, .int h0f31, .ref h18, .ref h19, .ref h20, .ref h21]), (h4, aJ (k 1) 9 anJ)] _ := hT
                refine lv_aload_n hx hb dX11_image_75 rfl (lv_at hl 0 rfl) ?_
                refine lv_iload hx hb dX11_image_76 (lv_at hl 4 rfl) ?_
                refine lv_aload_n hx hb dX11_image_78 rfl (lv_at hl 0 rfl) ?_
                refine tz_get (ci := 8) (v := .ref h5) (C := RX11) (F := TX11) (N := 36) hx hb hU iX11 hown hK hT 4 rfl rfl 12 (by decide) w797 (fun _ h9 => h9) rfl dX11_image_79 ?_
                refine tcV (Tc := [(h0, ob 8 [.int h0f0, .int h0f1, .int h0f2, .int h0f3, .int h0f4, .int h0f5, .ref h1, .ref h2, .int h0f8, .int h0f9, .ref h3, .ref h4, .ref h5, .ref h6, .ref h7, .ref h8, .ref h9, .int h0f17, .int h0f18, .int h0f19, .ref h10, .ref h11, .ref h12, .ref h13, .int h0f24, .int h0f25, .ref h14, .ref h15, .ref h16, .ref h17, .int h0f30, .int h0f31, .ref h18, .ref h19, .ref h20, .ref h21]), (h5, aJ (k 1) 9 anJ), (h1, aI (k 0) 36 anI)]) (Tr := [(h6, aJ (k 1) 9 anJ), (h14, aI (k 0) 400 anI), (h4, aJ (k 1) 9 anJ)]) (as := [h0, h5, h1]) (zcV (q0 := 4) (ci := 8) (As := [.int y57, .ref h5]) (rest := []) (Tc := [(h0, ob 8 [.int h0f0, .int h0f1, .int h0f2, .int h0f3, .int h0f4, .int h0f5, .ref h1, .ref h2, .int h0f8, .int h0f9, .ref h3, .ref h4, .ref h5, .ref h6, .ref h7, .ref h8, .ref h9, .int h0f17, .int h0f18, .int h0f19, .ref h10, .ref h11, .ref h12, .ref h13, .int h0f24, .int h0f25, .ref h14, .ref h15, .ref h16, .ref h17, .int h0f30, .int h0f31, .ref h18, .ref h19, .ref h20, .ref h21]), (h5, aJ (k 1) 9 anJ), (h1, aI (k 0) 36 anI)]) hx hb hml hown hU hK hT rfl rfl [4, 1, 0] rfl (by decide) (cX11_takes_479bd l D k _ h0 h5 h1 h2 h3 h4 h6 h7 h8 h9 h10 h11 h12 h13 h14 h15 h16 h17 h18 h19 h20 h21 y57 h0f0 h0f1 h0f2 h0f3 h0f4 h0f5 h0f8 h0f9 h0f17 h0f18 h0f19 h0f24 h0f25 h0f30 h0f31 (by omega) (by omega) (by omega) (by omega) (by omega) (by omega) (by omega) (by omega) (by omega) (by omega) (by omega) (by omega) (by omega) (by omega) (by omega) (by omega)) w939 w936 w938 w32 w72 hdX11_takes ⟨rfl, rfl⟩ ⟨Nat.le_of_ble_eq_true rfl, Nat.le_of_ble_eq_true rfl⟩ rfl hl.1 (Nat.le_of_ble_eq_true rfl) dX11_image_82 ⟨Nat.le_of_ble_eq_true rfl, Nat.le_of_ble_eq_true rfl⟩) hT hS hA [4, 1, 0] [2, 3, 5] rfl rfl rfl (by decide) (by decide) (fun H locs hB J hS => ?_)
                have hT1 := hB
                have hT := J _ hT1
                have hT : TP D A [(h6, aJ (k 1) 9 anJ), (h14, aI (k 0) 400 anI), (h4, aJ (k 1) 9 anJ), (h0, ob 8 [.int h0f0, .int h0f1, .int h0f2, .int h0f3, .int h0f4, .int h0f5, .ref h1, .ref h2, .int h0f8, .int h0f9, .ref h3, .ref h4, .ref h5, .ref h6, .ref h7, .ref h8, .ref h9, .int h0f17, .int h0f18, .int h0f19, .ref h10, .ref h11, .ref h12, .ref h13, .int h0f24, .int h0f25, .ref h14, .ref h15, .ref h16, .ref h17, .int h0f30, .int h0f31, .ref h18, .ref h19, .ref h20, .ref h21]), (h5, aJ (k 1) 9 anJ), (h1, aI (k 0) 36 anI)] _ := hT
                refine lv_aload_n hx hb dX11_image_85 rfl (lv_at hl 0 rfl) ?_
                refine lv_aload_n hx hb dX11_image_86 rfl (lv_at hl 0 rfl) ?_
                refine tz_get (ci := 8) (v := .ref h4) (C := RX11) (F := TX11) (N := 36) hx hb hU iX11 hown hK hT 3 rfl rfl 11 (by decide) w796 (fun _ h9 => h9) rfl dX11_image_87 ?_
                refine lv_aload_n hx hb dX11_image_90 rfl (lv_at hl 0 rfl) ?_
                refine tz_get (ci := 8) (v := .ref h5) (C := RX11) (F := TX11) (N := 36) hx hb hU iX11 hown hK hT 3 rfl rfl 12 (by decide) w797 (fun _ h9 => h9) rfl dX11_image_91 ?_
                refine lv_aload_n hx hb dX11_image_94 rfl (lv_at hl 0 rfl) ?_
                refine tz_get (ci := 8) (v := .ref h6) (C := RX11) (F := TX11) (N := 36) hx hb hU iX11 hown hK hT 3 rfl rfl 13 (by decide) w798 (fun _ h9 => h9) rfl dX11_image_95 ?_
                refine tcV (Tc := [(h0, ob 8 [.int h0f0, .int h0f1, .int h0f2, .int h0f3, .int h0f4, .int h0f5, .ref h1, .ref h2, .int h0f8, .int h0f9, .ref h3, .ref h4, .ref h5, .ref h6, .ref h7, .ref h8, .ref h9, .int h0f17, .int h0f18, .int h0f19, .ref h10, .ref h11, .ref h12, .ref h13, .int h0f24, .int h0f25, .ref h14, .ref h15, .ref h16, .ref h17, .int h0f30, .int h0f31, .ref h18, .ref h19, .ref h20, .ref h21]), (h4, aJ (k 1) 9 anJ), (h5, aJ (k 1) 9 anJ), (h6, aJ (k 1) 9 anJ)]) (Tr := [(h14, aI (k 0) 400 anI), (h1, aI (k 0) 36 anI)]) (as := [h0, h4, h5, h6]) (zcV (q0 := 3) (ci := 8) (As := [.ref h4, .ref h5, .ref h6]) (rest := []) (Tc := [(h0, ob 8 [.int h0f0, .int h0f1, .int h0f2, .int h0f3, .int h0f4, .int h0f5, .ref h1, .ref h2, .int h0f8, .int h0f9, .ref h3, .ref h4, .ref h5, .ref h6, .ref h7, .ref h8, .ref h9, .int h0f17, .int h0f18, .int h0f19, .ref h10, .ref h11, .ref h12, .ref h13, .int h0f24, .int h0f25, .ref h14, .ref h15, .ref h16, .ref h17, .int h0f30, .int h0f31, .ref h18, .ref h19, .ref h20, .ref h21]), (h4, aJ (k 1) 9 anJ), (h5, aJ (k 1) 9 anJ), (h6, aJ (k 1) 9 anJ)]) hx hb hml hown hU hK hT rfl rfl [3, 2, 4, 0] rfl (by decide) (cX11_times_48221 l D k _ h0 h4 h5 h6 h1 h2 h3 h7 h8 h9 h10 h11 h12 h13 h14 h15 h16 h17 h18 h19 h20 h21 h0f0 h0f1 h0f2 h0f3 h0f4 h0f5 h0f8 h0f9 h0f17 h0f18 h0f19 h0f24 h0f25 h0f30 h0f31 (by omega) (by omega) (by omega) (by omega) (by omega) (by omega) (by omega) (by omega) (by omega) (by omega) (by omega) (by omega) (by omega) (by omega) (by omega)) w943 w940 w942 w33 w72 hdX11_times ⟨rfl, rfl⟩ ⟨Nat.le_of_ble_eq_true rfl, Nat.le_of_ble_eq_true rfl⟩ rfl hl.1 (Nat.le_of_ble_eq_true rfl) dX11_image_98 ⟨Nat.le_of_ble_eq_true rfl, Nat.le_of_ble_eq_true rfl⟩) hT hS hA [3, 2, 4, 0] [1, 5] rfl rfl rfl (by decide) (by decide) (fun H locs hB J hS => ?_)
                have hT1 := hB
                have hT := J _ hT1
                have hT : TP D A [(h14, aI (k 0) 400 anI), (h1, aI (k 0) 36 anI), (h0, ob 8 [.int h0f0, .int h0f1, .int h0f2, .int h0f3, .int h0f4, .int h0f5, .ref h1, .ref h2, .int h0f8, .int h0f9, .ref h3, .ref h4, .ref h5, .ref h6, .ref h7, .ref h8, .ref h9, .int h0f17, .int h0f18, .int h0f19, .ref h10, .ref h11, .ref h12, .ref h13, .int h0f24, .int h0f25, .ref h14, .ref h15, .ref h16, .ref h17, .int h0f30, .int h0f31, .ref h18, .ref h19, .ref h20, .ref h21]), (h4, aJ (k 1) 9 anJ), (h5, aJ (k 1) 9 anJ), (h6, aJ (k 1) 9 anJ)] _ := hT
                refine lv_aload_n hx hb dX11_image_101 rfl (lv_at hl 0 rfl) ?_
                refine lv_aload_n hx hb dX11_image_102 rfl (lv_at hl 0 rfl) ?_
                refine tz_get (ci := 8) (v := .ref h6) (C := RX11) (F := TX11) (N := 36) hx hb hU iX11 hown hK hT 2 rfl rfl 13 (by decide) w798 (fun _ h9 => h9) rfl dX11_image_103 ?_
                refine lv_iload_n hx hb dX11_image_106 rfl (lv_at hl 1 rfl) ?_
                refine tcI (Tc := [(h0, ob 8 [.int h0f0, .int h0f1, .int h0f2, .int h0f3, .int h0f4, .int h0f5, .ref h1, .ref h2, .int h0f8, .int h0f9, .ref h3, .ref h4, .ref h5, .ref h6, .ref h7, .ref h8, .ref h9, .int h0f17, .int h0f18, .int h0f19, .ref h10, .ref h11, .ref h12, .ref h13, .int h0f24, .int h0f25, .ref h14, .ref h15, .ref h16, .ref h17, .int h0f30, .int h0f31, .ref h18, .ref h19, .ref h20, .ref h21]), (h6, aJ (k 1) 9 anJ)]) (Tr := [(h14, aI (k 0) 400 anI), (h1, aI (k 0) 36 anI), (h4, aJ (k 1) 9 anJ), (h5, aJ (k 1) 9 anJ)]) (as := [h0, h6]) (zcV (q0 := 2) (ci := 8) (As := [.ref h6, .int x1]) (rest := []) (Tc := [(h0, ob 8 [.int h0f0, .int h0f1, .int h0f2, .int h0f3, .int h0f4, .int h0f5, .ref h1, .ref h2, .int h0f8, .int h0f9, .ref h3, .ref h4, .ref h5, .ref h6, .ref h7, .ref h8, .ref h9, .int h0f17, .int h0f18, .int h0f19, .ref h10, .ref h11, .ref h12, .ref h13, .int h0f24, .int h0f25, .ref h14, .ref h15, .ref h16, .ref h17, .int h0f30, .int h0f31, .ref h18, .ref h19, .ref h20, .ref h21]), (h6, aJ (k 1) 9 anJ)]) hx hb hml hown hU hK hT rfl rfl [2, 5] rfl (by decide) (cX11_told_9727c l D k _ h0 h6 h1 h2 h3 h4 h5 h7 h8 h9 h10 h11 h12 h13 h14 h15 h16 h17 h18 h19 h20 h21 x1 h0f0 h0f1 h0f2 h0f3 h0f4 h0f5 h0f8 h0f9 h0f17 h0f18 h0f19 h0f24 h0f25 h0f30 h0f31 (by omega) (by omega) (by omega) (by omega) (by omega) (by omega) (by omega) (by omega) (by omega) (by omega) (by omega) (by omega) (by omega) (by omega) (by omega) (by omega)) w1122 w1119 w1121 w55 w72 hdX11_told ⟨rfl, rfl⟩ ⟨Nat.le_of_ble_eq_true rfl, Nat.le_of_ble_eq_true rfl⟩ rfl hl.1 (Nat.le_of_ble_eq_true rfl) dX11_image_107 ⟨Nat.le_of_ble_eq_true rfl, Nat.le_of_ble_eq_true rfl⟩) hT hS hA [2, 5] [0, 1, 3, 4] rfl rfl rfl (by decide) (by decide) (fun r68 H locs hB J hS => ?_)
                have hT1 := hB
                have hT := J _ hT1
                have hT : TP D A [(h14, aI (k 0) 400 anI), (h1, aI (k 0) 36 anI), (h4, aJ (k 1) 9 anJ), (h5, aJ (k 1) 9 anJ), (h0, ob 8 [.int h0f0, .int h0f1, .int h0f2, .int h0f3, .int h0f4, .int h0f5, .ref h1, .ref h2, .int h0f8, .int h0f9, .ref h3, .ref h4, .ref h5, .ref h6, .ref h7, .ref h8, .ref h9, .int h0f17, .int h0f18, .int h0f19, .ref h10, .ref h11, .ref h12, .ref h13, .int h0f24, .int h0f25, .ref h14, .ref h15, .ref h16, .ref h17, .int h0f30, .int h0f31, .ref h18, .ref h19, .ref h20, .ref h21]), (h6, aJ (k 1) 9 anJ)] _ := hT
                refine lv_istore (lv' := [(5, .int r68), (0, .ref h0), (1, .int x1), (2, .int y58), (3, .int y47), (4, .int y57)]) hx hb dX11_image_110 hl (by decide) rfl (fun ls hl => ?_)
                refine lv_iconst (v := 1) hx hb dX11_image_112 (by decide) ?_
                refine lv_istore (lv' := [(6, .int 1), (5, .int r68), (0, .ref h0), (1, .int x1), (2, .int y58), (3, .int y47), (4, .int y57)]) hx hb dX11_image_113 hl (by decide) rfl (fun ls hl => ?_)
                refine lv_iconst (v := 0) hx hb dX11_image_115 (by decide) ?_
                refine lv_istore (lv' := [(7, .int 0), (6, .int 1), (5, .int r68), (0, .ref h0), (1, .int x1), (2, .int y58), (3, .int y47), (4, .int y57)]) hx hb dX11_image_116 hl (by decide) rfl (fun ls hl => ?_)
                have lp118_115 : ∀ (n : Nat) (y113 : Int32) (y114 : Int32) (H : Heap) (locs : List Loc) (ls : Array Slot), (0 ≤ y113.toInt ∧ y113.toInt ≤ 399) → (0 ≤ y114.toInt ∧ y114.toInt ≤ 1) → (y58.toInt + (-1) * y113.toInt + 1).toNat < n → TP D A [(h14, aI (k 0) 400 anI), (h1, aI (k 0) 36 anI), (h4, aJ (k 1) 9 anJ), (h5, aJ (k 1) 9 anJ), (h0, ob 8 [.int h0f0, .int h0f1, .int h0f2, .int h0f3, .int h0f4, .int h0f5, .ref h1, .ref h2, .int h0f8, .int h0f9, .ref h3, .ref h4, .ref h5, .ref h6, .ref h7, .ref h8, .ref h9, .int h0f17, .int h0f18, .int h0f19, .ref h10, .ref h11, .ref h12, .ref h13, .int h0f24, .int h0f25, .ref h14, .ref h15, .ref h16, .ref h17, .int h0f30, .int h0f31, .ref h18, .ref h19, .ref h20, .ref h21]), (h6, aJ (k 1) 9 anJ)] H → va_S A s.heap H locs → lv_has ls 8 [(0, .ref h0), (1, .int x1), (2, .int y58), (3, .int y47), (4, .int y57), (5, .int r68), (6, .int y114), (7, .int y113)] → W p l e Rm_cX11_image_316cc s m args below meth c H locs 0 0 Q (F0 m 118 ls []) := by
                  intro n
                  induction n with
                  | zero => intro y113 y114 H locs ls b_y113 b_y114 hm hT hS hl; exact absurd hm (Nat.not_lt_zero _)
                  | succ n ih =>
                    intro y113 y114 H locs ls b_y113 b_y114 hm hT hS hl
                    have ih118_115 := ih
                    clear ih
                    refine lv_iload hx hb dX11_image_118 (lv_at hl 7 rfl) ?_
                    refine lv_iload_n hx hb dX11_image_120 rfl (lv_at hl 2 rfl) ?_
                    refine lv_icmp_ge (tgt := 154) hx hb dX11_image_121 (by decide) (fun c_116 => ?_) (fun c_116 => ?_)
                    · skip
                      have c_116 := ni_le c_116 rfl rfl
                      refine lv_iload hx hb dX11_image_154 (lv_at hl 6 rfl) ?_
                      refine lv_if_eq (tgt := 170) hx hb dX11_image_156 (by decide) (fun c_117 => ?_) (fun c_117 => ?_)
                      · skip
                        have c_117 := ni_eq c_117 rfl li_0
                        obtain ⟨v118, e_v118⟩ : ∃ x : Int32, x = y57 + Int32.ofInt 1 := ⟨_, rfl⟩
                        have f_v118 := e_v118.symm
                        have e_v118 : v118.toInt = y57.toInt + 1 := ai_add e_v118 rfl (show (Int32.ofInt 1).toInt = 1 from (by decide +kernel)) (by omega)
                        refine lv_iinc (v := v118) (lv' := [(4, .int v118), (0, .ref h0), (1, .int x1), (2, .int y58), (3, .int y47), (5, .int r68), (6, .int y114), (7, .int y113)]) hx hb dX11_image_170 hl (k := 4) rfl f_v118 (by decide) rfl (fun ls hl => ?_)
                        refine lv_goto (tgt := 44) hx hb dX11_image_173 (by decide) ?_
                        exact ih44_59 v118 y58 _ _ _ (by omega) (by omega)  (by omega) (hT.sub [1, 3, 5, 0, 4, 2] (by decide) rfl) hS (lv_sub hl [1, 2, 3, 4, 0] rfl)
                      · skip
                        have c_117 := ni_ne c_117 rfl li_0
                        refine lv_aload_n hx hb dX11_image_159 rfl (lv_at hl 0 rfl) ?_
                        refine tz_get (ci := 8) (v := .ref h14) (C := RX11) (F := TX11) (N := 36) hx hb hU iX11 hown hK hT 4 rfl rfl 26 (by decide) w811 (fun _ h9 => h9) rfl dX11_image_160 ?_
                        refine lv_iload_n hx hb dX11_image_163 rfl (lv_at hl 2 rfl) ?_
                        refine lv_iload hx hb dX11_image_164 (lv_at hl 5 rfl) ?_
                        refine tz_iast hx hb hK hT hS 0 rfl (by omega) (fun _ _ => trivial) dX11_image_166 (fun H locs hT hS => ?_)
                        obtain ⟨v119, e_v119⟩ : ∃ x : Int32, x = y58 + Int32.ofInt 1 := ⟨_, rfl⟩
                        have f_v119 := e_v119.symm
                        have e_v119 : v119.toInt = y58.toInt + 1 := ai_add e_v119 rfl (show (Int32.ofInt 1).toInt = 1 from (by decide +kernel)) (by omega)
                        refine lv_iinc (v := v119) (lv' := [(2, .int v119), (0, .ref h0), (1, .int x1), (3, .int y47), (4, .int y57), (5, .int r68), (6, .int y114), (7, .int y113)]) hx hb dX11_image_167 hl (k := 2) rfl f_v119 (by decide) rfl (fun ls hl => ?_)
                        obtain ⟨v120, e_v120⟩ : ∃ x : Int32, x = y57 + Int32.ofInt 1 := ⟨_, rfl⟩
                        have f_v120 := e_v120.symm
                        have e_v120 : v120.toInt = y57.toInt + 1 := ai_add e_v120 rfl (show (Int32.ofInt 1).toInt = 1 from (by decide +kernel)) (by omega)
                        refine lv_iinc (v := v120) (lv' := [(4, .int v120), (2, .int v119), (0, .ref h0), (1, .int x1), (3, .int y47), (5, .int r68), (6, .int y114), (7, .int y113)]) hx hb dX11_image_170 hl (k := 4) rfl f_v120 (by decide) rfl (fun ls hl => ?_)
                        refine lv_goto (tgt := 44) hx hb dX11_image_173 (by decide) ?_
                        exact ih44_59 v120 v119 _ _ _ (by omega) (by omega)  (by omega) (hT.sub [1, 3, 5, 0, 4, 2] (by decide) rfl) hS (lv_sub hl [2, 3, 1, 4, 0] rfl)
                    · skip
                      have c_116 := ni_nle c_116 rfl rfl
                      refine lv_iload hx hb dX11_image_124 (lv_at hl 6 rfl) ?_
                      refine lv_if_eq (tgt := 154) hx hb dX11_image_126 (by decide) (fun c_121 => ?_) (fun c_121 => ?_)
                      · skip
                        have c_121 := ni_eq c_121 rfl li_0
                        refine lv_iload hx hb dX11_image_154 (lv_at hl 6 rfl) ?_
                        refine lv_if_eq (tgt := 170) hx hb dX11_image_156 (by decide) (fun c_122 => ?_) (fun c_122 => ?_)
                        · skip
                          have c_122 := ni_eq c_122 rfl li_0
                          obtain ⟨v123, e_v123⟩ : ∃ x : Int32, x = y57 + Int32.ofInt 1 := ⟨_, rfl⟩
                          have f_v123 := e_v123.symm
                          have e_v123 : v123.toInt = y57.toInt + 1 := ai_add e_v123 rfl (show (Int32.ofInt 1).toInt = 1 from (by decide +kernel)) (by omega)
                          refine lv_iinc (v := v123) (lv' := [(4, .int v123), (0, .ref h0), (1, .int x1), (2, .int y58), (3, .int y47), (5, .int r68), (6, .int y114), (7, .int y113)]) hx hb dX11_image_170 hl (k := 4) rfl f_v123 (by decide) rfl (fun ls hl => ?_)
                          refine lv_goto (tgt := 44) hx hb dX11_image_173 (by decide) ?_
                          exact ih44_59 v123 y58 _ _ _ (by omega) (by omega)  (by omega) (hT.sub [1, 3, 5, 0, 4, 2] (by decide) rfl) hS (lv_sub hl [1, 2, 3, 4, 0] rfl)
                        · skip
                          have c_122 := ni_ne c_122 rfl li_0
                          exfalso; omega
                      · skip
                        have c_121 := ni_ne c_121 rfl li_0
                        refine lv_aload_n hx hb dX11_image_129 rfl (lv_at hl 0 rfl) ?_
                        refine tz_get (ci := 8) (v := .ref h14) (C := RX11) (F := TX11) (N := 36) hx hb hU iX11 hown hK hT 4 rfl rfl 26 (by decide) w811 (fun _ h9 => h9) rfl dX11_image_130 ?_
                        refine lv_iload hx hb dX11_image_133 (lv_at hl 7 rfl) ?_
                        refine tz_iald hx hb hK hT 0 rfl (by omega) dX11_image_135 (fun v124 e_v124 => ?_)
                        clear e_v124
                        refine lv_iload hx hb dX11_image_136 (lv_at hl 5 rfl) ?_
                        refine lv_icmp_eq (tgt := 145) hx hb dX11_image_138 (by decide) (fun c_125 => ?_) (fun c_125 => ?_)
                        · skip
                          have c_125 := ni_eq c_125 rfl rfl
                          refine lv_iconst (v := 0) hx hb dX11_image_145 (by decide) ?_
                          refine lv_istore (lv' := [(6, .int 0), (0, .ref h0), (1, .int x1), (2, .int y58), (3, .int y47), (4, .int y57), (5, .int r68), (7, .int y113)]) hx hb dX11_image_146 hl (by decide) rfl (fun ls hl => ?_)
                          obtain ⟨v126, e_v126⟩ : ∃ x : Int32, x = y113 + Int32.ofInt 1 := ⟨_, rfl⟩
                          have f_v126 := e_v126.symm
                          have e_v126 : v126.toInt = y113.toInt + 1 := ai_add e_v126 rfl (show (Int32.ofInt 1).toInt = 1 from (by decide +kernel)) (by omega)
                          refine lv_iinc (v := v126) (lv' := [(7, .int v126), (6, .int 0), (0, .ref h0), (1, .int x1), (2, .int y58), (3, .int y47), (4, .int y57), (5, .int r68)]) hx hb dX11_image_148 hl (k := 7) rfl f_v126 (by decide) rfl (fun ls hl => ?_)
                          refine lv_goto (tgt := 118) hx hb dX11_image_151 (by decide) ?_
                          exact ih118_115 v126 (0) _ _ _ (by have := li_0; omega) (by have := li_0; omega)  (by have := li_0; omega) hT hS (lv_sub hl [2, 3, 4, 5, 6, 7, 1, 0] rfl)
                        · skip
                          have c_125 := ni_ne c_125 rfl rfl
                          refine lv_iconst (v := 1) hx hb dX11_image_141 (by decide) ?_
                          refine lv_goto (tgt := 146) hx hb dX11_image_142 (by decide) ?_
                          refine lv_istore (lv' := [(6, .int 1), (0, .ref h0), (1, .int x1), (2, .int y58), (3, .int y47), (4, .int y57), (5, .int r68), (7, .int y113)]) hx hb dX11_image_146 hl (by decide) rfl (fun ls hl => ?_)
                          obtain ⟨v127, e_v127⟩ : ∃ x : Int32, x = y113 + Int32.ofInt 1 := ⟨_, rfl⟩
                          have f_v127 := e_v127.symm
                          have e_v127 : v127.toInt = y113.toInt + 1 := ai_add e_v127 rfl (show (Int32.ofInt 1).toInt = 1 from (by decide +kernel)) (by omega)
                          refine lv_iinc (v := v127) (lv' := [(7, .int v127), (6, .int 1), (0, .ref h0), (1, .int x1), (2, .int y58), (3, .int y47), (4, .int y57), (5, .int r68)]) hx hb dX11_image_148 hl (k := 7) rfl f_v127 (by decide) rfl (fun ls hl => ?_)
                          refine lv_goto (tgt := 118) hx hb dX11_image_151 (by decide) ?_
                          exact ih118_115 v127 (1) _ _ _ (by have := li_1; omega) (by have := li_1; omega)  (by have := li_1; omega) hT hS (lv_sub hl [2, 3, 4, 5, 6, 7, 1, 0] rfl)
                exact lp118_115 ((y58.toInt + (-1) * (0 : Int32).toInt + 1).toNat + 1) (0) (1) _ _ _ (by have := li_0; have := li_1; omega) (by have := li_0; have := li_1; omega)  (Nat.lt_succ_self _) hT hS (lv_sub hl [3, 4, 5, 6, 7, 2, 1, 0] rfl)
        exact lp44_59 ((h0f1.toInt + (-1) * (0 : Int32).toInt + 1).toNat + 1) (0) y48 _ _ _ (by have := li_0; omega) (by have := li_0; omega)  (Nat.lt_succ_self _) hT hS (lv_sub hl [1, 2, 3, 4, 0] rfl)
  refine lv_iload_n hx hb dX11_image_0 rfl (lv_at hl 1 rfl) ?_
  refine tcI (Tc := []) (Tr := [(h0, ob 8 [.int h0f0, .int h0f1, .int h0f2, .int h0f3, .int h0f4, .int h0f5, .ref h1, .ref h2, .int h0f8, .int h0f9, .ref h3, .ref h4, .ref h5, .ref h6, .ref h7, .ref h8, .ref h9, .int h0f17, .int h0f18, .int h0f19, .ref h10, .ref h11, .ref h12, .ref h13, .int h0f24, .int h0f25, .ref h14, .ref h15, .ref h16, .ref h17, .int h0f30, .int h0f31, .ref h18, .ref h19, .ref h20, .ref h21]), (h1, aI (k 0) 36 anI), (h4, aJ (k 1) 9 anJ), (h5, aJ (k 1) 9 anJ), (h6, aJ (k 1) 9 anJ), (h14, aI (k 0) 400 anI)]) (as := []) (zcS (As := [.int x1]) (rest := []) (Tc := []) hx hb hml hown hU hK hT [] rfl (by decide) (cX11_isPrime_f19f2 l D k _ x1) w1118 w1116 w1117 w72 hdX11_isPrime ⟨rfl, rfl⟩ ⟨Nat.le_of_ble_eq_true rfl, Nat.le_of_ble_eq_true rfl⟩ rfl hl.1 (Nat.le_of_ble_eq_true rfl) dX11_image_1 ⟨Nat.le_of_ble_eq_true rfl, Nat.le_of_ble_eq_true rfl⟩) hT hS hA [] [0, 1, 2, 3, 4, 5] rfl rfl rfl (by decide) (by decide) (fun r128 H locs hB J hS => ?_)
  rcases hB with ⟨c_129, rfl, hT1⟩ | ⟨c_130, c_131, rfl, hT1⟩ | ⟨c_132, c_133, c_134, rfl, hT1⟩ | ⟨rfl, hT1⟩ | ⟨c_135, c_136, c_137, c_138, rfl, hT1⟩
  · skip
    have hT := J _ hT1
    have hT : TP D A [(h0, ob 8 [.int h0f0, .int h0f1, .int h0f2, .int h0f3, .int h0f4, .int h0f5, .ref h1, .ref h2, .int h0f8, .int h0f9, .ref h3, .ref h4, .ref h5, .ref h6, .ref h7, .ref h8, .ref h9, .int h0f17, .int h0f18, .int h0f19, .ref h10, .ref h11, .ref h12, .ref h13, .int h0f24, .int h0f25, .ref h14, .ref h15, .ref h16, .ref h17, .int h0f30, .int h0f31, .ref h18, .ref h19, .ref h20, .ref h21]), (h1, aI (k 0) 36 anI), (h4, aJ (k 1) 9 anJ), (h5, aJ (k 1) 9 anJ), (h6, aJ (k 1) 9 anJ), (h14, aI (k 0) 400 anI)] _ := hT
    refine lv_if_ne (tgt := 9) hx hb dX11_image_4 (by decide) (fun _ => ?_) (fun cc => absurd cc (by decide +kernel))
    refine lv_aload_n hx hb dX11_image_9 rfl (lv_at hl 0 rfl) ?_
    refine lv_aload_n hx hb dX11_image_10 rfl (lv_at hl 0 rfl) ?_
    refine tz_get (ci := 8) (v := .ref h4) (C := RX11) (F := TX11) (N := 36) hx hb hU iX11 hown hK hT 0 rfl rfl 11 (by decide) w796 (fun _ h9 => h9) rfl dX11_image_11 ?_
    refine tcV (Tc := [(h0, ob 8 [.int h0f0, .int h0f1, .int h0f2, .int h0f3, .int h0f4, .int h0f5, .ref h1, .ref h2, .int h0f8, .int h0f9, .ref h3, .ref h4, .ref h5, .ref h6, .ref h7, .ref h8, .ref h9, .int h0f17, .int h0f18, .int h0f19, .ref h10, .ref h11, .ref h12, .ref h13, .int h0f24, .int h0f25, .ref h14, .ref h15, .ref h16, .ref h17, .int h0f30, .int h0f31, .ref h18, .ref h19, .ref h20, .ref h21]), (h4, aJ (k 1) 9 anJ)]) (Tr := [(h1, aI (k 0) 36 anI), (h5, aJ (k 1) 9 anJ), (h6, aJ (k 1) 9 anJ), (h14, aI (k 0) 400 anI)]) (as := [h0, h4]) (zcV (q0 := 0) (ci := 8) (As := [.ref h4]) (rest := []) (Tc := [(h0, ob 8 [.int h0f0, .int h0f1, .int h0f2, .int h0f3, .int h0f4, .int h0f5, .ref h1, .ref h2, .int h0f8, .int h0f9, .ref h3, .ref h4, .ref h5, .ref h6, .ref h7, .ref h8, .ref h9, .int h0f17, .int h0f18, .int h0f19, .ref h10, .ref h11, .ref h12, .ref h13, .int h0f24, .int h0f25, .ref h14, .ref h15, .ref h16, .ref h17, .int h0f30, .int h0f31, .ref h18, .ref h19, .ref h20, .ref h21]), (h4, aJ (k 1) 9 anJ)]) hx hb hml hown hU hK hT rfl rfl [0, 2] rfl (by decide) (cX11_first_23143 l D k _ h0 h4 h1 h2 h3 h5 h6 h7 h8 h9 h10 h11 h12 h13 h14 h15 h16 h17 h18 h19 h20 h21 h0f0 h0f1 h0f2 h0f3 h0f4 h0f5 h0f8 h0f9 h0f17 h0f18 h0f19 h0f24 h0f25 h0f30 h0f31 (by omega) (by omega) (by omega) (by omega) (by omega) (by omega) (by omega) (by omega) (by omega) (by omega) (by omega) (by omega) (by omega) (by omega) (by omega)) w919 w916 w918 w28 w72 hdX11_first ⟨rfl, rfl⟩ ⟨Nat.le_of_ble_eq_true rfl, Nat.le_of_ble_eq_true rfl⟩ rfl hl.1 (Nat.le_of_ble_eq_true rfl) dX11_image_14 ⟨Nat.le_of_ble_eq_true rfl, Nat.le_of_ble_eq_true rfl⟩) hT hS hA [0, 2] [1, 3, 4, 5] rfl rfl rfl (by decide) (by decide) (fun H locs hB J hS => ?_)
    have hT1 := hB
    have hT := J _ hT1
    have hT : TP D A [(h1, aI (k 0) 36 anI), (h5, aJ (k 1) 9 anJ), (h6, aJ (k 1) 9 anJ), (h14, aI (k 0) 400 anI), (h0, ob 8 [.int h0f0, .int h0f1, .int h0f2, .int h0f3, .int h0f4, .int h0f5, .ref h1, .ref h2, .int h0f8, .int h0f9, .ref h3, .ref h4, .ref h5, .ref h6, .ref h7, .ref h8, .ref h9, .int h0f17, .int h0f18, .int h0f19, .ref h10, .ref h11, .ref h12, .ref h13, .int h0f24, .int h0f25, .ref h14, .ref h15, .ref h16, .ref h17, .int h0f30, .int h0f31, .ref h18, .ref h19, .ref h20, .ref h21]), (h4, aJ (k 1) 9 anJ)] _ := hT
    refine lv_aload_n hx hb dX11_image_17 rfl (lv_at hl 0 rfl) ?_
    refine tz_get (ci := 8) (v := .ref h14) (C := RX11) (F := TX11) (N := 36) hx hb hU iX11 hown hK hT 4 rfl rfl 26 (by decide) w811 (fun _ h9 => h9) rfl dX11_image_18 ?_
    refine lv_iconst (v := 0) hx hb dX11_image_21 (by decide) ?_
    refine lv_aload_n hx hb dX11_image_22 rfl (lv_at hl 0 rfl) ?_
    refine lv_aload_n hx hb dX11_image_23 rfl (lv_at hl 0 rfl) ?_
    refine tz_get (ci := 8) (v := .ref h4) (C := RX11) (F := TX11) (N := 36) hx hb hU iX11 hown hK hT 4 rfl rfl 11 (by decide) w796 (fun _ h9 => h9) rfl dX11_image_24 ?_
    refine lv_iload_n hx hb dX11_image_27 rfl (lv_at hl 1 rfl) ?_
    refine tcI (Tc := [(h0, ob 8 [.int h0f0, .int h0f1, .int h0f2, .int h0f3, .int h0f4, .int h0f5, .ref h1, .ref h2, .int h0f8, .int h0f9, .ref h3, .ref h4, .ref h5, .ref h6, .ref h7, .ref h8, .ref h9, .int h0f17, .int h0f18, .int h0f19, .ref h10, .ref h11, .ref h12, .ref h13, .int h0f24, .int h0f25, .ref h14, .ref h15, .ref h16, .ref h17, .int h0f30, .int h0f31, .ref h18, .ref h19, .ref h20, .ref h21]), (h4, aJ (k 1) 9 anJ)]) (Tr := [(h1, aI (k 0) 36 anI), (h5, aJ (k 1) 9 anJ), (h6, aJ (k 1) 9 anJ), (h14, aI (k 0) 400 anI)]) (as := [h0, h4]) (zcV (q0 := 4) (ci := 8) (As := [.ref h4, .int x1]) (rest := [.int 0, .ref h14]) (Tc := [(h0, ob 8 [.int h0f0, .int h0f1, .int h0f2, .int h0f3, .int h0f4, .int h0f5, .ref h1, .ref h2, .int h0f8, .int h0f9, .ref h3, .ref h4, .ref h5, .ref h6, .ref h7, .ref h8, .ref h9, .int h0f17, .int h0f18, .int h0f19, .ref h10, .ref h11, .ref h12, .ref h13, .int h0f24, .int h0f25, .ref h14, .ref h15, .ref h16, .ref h17, .int h0f30, .int h0f31, .ref h18, .ref h19, .ref h20, .ref h21]), (h4, aJ (k 1) 9 anJ)]) hx hb hml hown hU hK hT rfl rfl [4, 5] rfl (by decide) (cX11_told_6fc77 l D k _ h0 h4 h1 h2 h3 h5 h6 h7 h8 h9 h10 h11 h12 h13 h14 h15 h16 h17 h18 h19 h20 h21 x1 h0f0 h0f1 h0f2 h0f3 h0f4 h0f5 h0f8 h0f9 h0f17 h0f18 h0f19 h0f24 h0f25 h0f30 h0f31 (by omega) (by omega) (by omega) (by omega) (by omega) (by omega) (by omega) (by omega) (by omega) (by omega) (by omega) (by omega) (by omega) (by omega) (by omega) (by omega)) w1122 w1119 w1121 w55 w72 hdX11_told ⟨rfl, rfl⟩ ⟨Nat.le_of_ble_eq_true rfl, Nat.le_of_ble_eq_true rfl⟩ rfl hl.1 (Nat.le_of_ble_eq_true rfl) dX11_image_28 ⟨Nat.le_of_ble_eq_true rfl, Nat.le_of_ble_eq_true rfl⟩) hT hS hA [4, 5] [0, 1, 2, 3] rfl rfl rfl (by decide) (by decide) (fun r140 H locs hB J hS => ?_)
    have hT1 := hB
    have hT := J _ hT1
    have hT : TP D A [(h1, aI (k 0) 36 anI), (h5, aJ (k 1) 9 anJ), (h6, aJ (k 1) 9 anJ), (h14, aI (k 0) 400 anI), (h0, ob 8 [.int h0f0, .int h0f1, .int h0f2, .int h0f3, .int h0f4, .int h0f5, .ref h1, .ref h2, .int h0f8, .int h0f9, .ref h3, .ref h4, .ref h5, .ref h6, .ref h7, .ref h8, .ref h9, .int h0f17, .int h0f18, .int h0f19, .ref h10, .ref h11, .ref h12, .ref h13, .int h0f24, .int h0f25, .ref h14, .ref h15, .ref h16, .ref h17, .int h0f30, .int h0f31, .ref h18, .ref h19, .ref h20, .ref h21]), (h4, aJ (k 1) 9 anJ)] _ := hT
    refine tz_iast hx hb hK hT hS 3 rfl (by have := li_0; omega) (fun _ _ => trivial) dX11_image_31 (fun H locs hT hS => ?_)
    refine lv_iconst (v := 1) hx hb dX11_image_32 (by decide) ?_
    refine lv_istore_n (lv' := [(2, .int 1), (0, .ref h0), (1, .int x1)]) hx hb dX11_image_33 rfl hl (by decide) rfl (fun ls hl => ?_)
    refine lv_iconst (v := 0) hx hb dX11_image_34 (by decide) ?_
    refine lv_istore_n (lv' := [(3, .int 0), (2, .int 1), (0, .ref h0), (1, .int x1)]) hx hb dX11_image_35 rfl hl (by decide) rfl (fun ls hl => ?_)
    exact lp36_49 ((400 - (0 : Int32).toInt).toNat + 1) (0) (1) _ _ _ (by have := li_0; have := li_1; omega) (by have := li_0; have := li_1; omega) (by have := li_0; have := li_1; omega)  (Nat.lt_succ_self _) hT hS (lv_sub hl [2, 3, 1, 0] rfl)
  · skip
    have hT := J _ hT1
    have hT : TP D A [(h0, ob 8 [.int h0f0, .int h0f1, .int h0f2, .int h0f3, .int h0f4, .int h0f5, .ref h1, .ref h2, .int h0f8, .int h0f9, .ref h3, .ref h4, .ref h5, .ref h6, .ref h7, .ref h8, .ref h9, .int h0f17, .int h0f18, .int h0f19, .ref h10, .ref h11, .ref h12, .ref h13, .int h0f24, .int h0f25, .ref h14, .ref h15, .ref h16, .ref h17, .int h0f30, .int h0f31, .ref h18, .ref h19, .ref h20, .ref h21]), (h1, aI (k 0) 36 anI), (h4, aJ (k 1) 9 anJ), (h5, aJ (k 1) 9 anJ), (h6, aJ (k 1) 9 anJ), (h14, aI (k 0) 400 anI)] _ := hT
    refine lv_if_ne (tgt := 9) hx hb dX11_image_4 (by decide) (fun _ => ?_) (fun cc => absurd cc (by decide +kernel))
    refine lv_aload_n hx hb dX11_image_9 rfl (lv_at hl 0 rfl) ?_
    refine lv_aload_n hx hb dX11_image_10 rfl (lv_at hl 0 rfl) ?_
    refine tz_get (ci := 8) (v := .ref h4) (C := RX11) (F := TX11) (N := 36) hx hb hU iX11 hown hK hT 0 rfl rfl 11 (by decide) w796 (fun _ h9 => h9) rfl dX11_image_11 ?_
    refine tcV (Tc := [(h0, ob 8 [.int h0f0, .int h0f1, .int h0f2, .int h0f3, .int h0f4, .int h0f5, .ref h1, .ref h2, .int h0f8, .int h0f9, .ref h3, .ref h4, .ref h5, .ref h6, .ref h7, .ref h8, .ref h9, .int h0f17, .int h0f18, .int h0f19, .ref h10, .ref h11, .ref h12, .ref h13, .int h0f24, .int h0f25, .ref h14, .ref h15, .ref h16, .ref h17, .int h0f30, .int h0f31, .ref h18, .ref h19, .ref h20, .ref h21]), (h4, aJ (k 1) 9 anJ)]) (Tr := [(h1, aI (k 0) 36 anI), (h5, aJ (k 1) 9 anJ), (h6, aJ (k 1) 9 anJ), (h14, aI (k 0) 400 anI)]) (as := [h0, h4]) (zcV (q0 := 0) (ci := 8) (As := [.ref h4]) (rest := []) (Tc := [(h0, ob 8 [.int h0f0, .int h0f1, .int h0f2, .int h0f3, .int h0f4, .int h0f5, .ref h1, .ref h2, .int h0f8, .int h0f9, .ref h3, .ref h4, .ref h5, .ref h6, .ref h7, .ref h8, .ref h9, .int h0f17, .int h0f18, .int h0f19, .ref h10, .ref h11, .ref h12, .ref h13, .int h0f24, .int h0f25, .ref h14, .ref h15, .ref h16, .ref h17, .int h0f30, .int h0f31, .ref h18, .ref h19, .ref h20, .ref h21]), (h4, aJ (k 1) 9 anJ)]) hx hb hml hown hU hK hT rfl rfl [0, 2] rfl (by decide) (cX11_first_23143 l D k _ h0 h4 h1 h2 h3 h5 h6 h7 h8 h9 h10 h11 h12 h13 h14 h15 h16 h17 h18 h19 h20 h21 h0f0 h0f1 h0f2 h0f3 h0f4 h0f5 h0f8 h0f9 h0f17 h0f18 h0f19 h0f24 h0f25 h0f30 h0f31 (by omega) (by omega) (by omega) (by omega) (by omega) (by omega) (by omega) (by omega) (by omega) (by omega) (by omega) (by omega) (by omega) (by omega) (by omega)) w919 w916 w918 w28 w72 hdX11_first ⟨rfl, rfl⟩ ⟨Nat.le_of_ble_eq_true rfl, Nat.le_of_ble_eq_true rfl⟩ rfl hl.1 (Nat.le_of_ble_eq_true rfl) dX11_image_14 ⟨Nat.le_of_ble_eq_true rfl, Nat.le_of_ble_eq_true rfl⟩) hT hS hA [0, 2] [1, 3, 4, 5] rfl rfl rfl (by decide) (by decide) (fun H locs hB J hS => ?_)
    have hT1 := hB
    have hT := J _ hT1
    have hT : TP D A [(h1, aI (k 0) 36 anI), (h5, aJ (k 1) 9 anJ), (h6, aJ (k 1) 9 anJ), (h14, aI (k 0) 400 anI), (h0, ob 8 [.int h0f0, .int h0f1, .int h0f2, .int h0f3, .int h0f4, .int h0f5, .ref h1, .ref h2, .int h0f8, .int h0f9, .ref h3, .ref h4, .ref h5, .ref h6, .ref h7, .ref h8, .ref h9, .int h0f17, .int h0f18, .int h0f19, .ref h10, .ref h11, .ref h12, .ref h13, .int h0f24, .int h0f25, .ref h14, .ref h15, .ref h16, .ref h17, .int h0f30, .int h0f31, .ref h18, .ref h19, .ref h20, .ref h21]), (h4, aJ (k 1) 9 anJ)] _ := hT
    refine lv_aload_n hx hb dX11_image_17 rfl (lv_at hl 0 rfl) ?_
    refine tz_get (ci := 8) (v := .ref h14) (C := RX11) (F := TX11) (N := 36) hx hb hU iX11 hown hK hT 4 rfl rfl 26 (by decide) w811 (fun _ h9 => h9) rfl dX11_image_18 ?_
    refine lv_iconst (v := 0) hx hb dX11_image_21 (by decide) ?_
    refine lv_aload_n hx hb dX11_image_22 rfl (lv_at hl 0 rfl) ?_
    refine lv_aload_n hx hb dX11_image_23 rfl (lv_at hl 0 rfl) ?_
    refine tz_get (ci := 8) (v := .ref h4) (C := RX11) (F := TX11) (N := 36) hx hb hU iX11 hown hK hT 4 rfl rfl 11 (by decide) w796 (fun _ h9 => h9) rfl dX11_image_24 ?_
    refine lv_iload_n hx hb dX11_image_27 rfl (lv_at hl 1 rfl) ?_
    refine tcI (Tc := [(h0, ob 8 [.int h0f0, .int h0f1, .int h0f2, .int h0f3, .int h0f4, .int h0f5, .ref h1, .ref h2, .int h0f8, .int h0f9, .ref h3, .ref h4, .ref h5, .ref h6, .ref h7, .ref h8, .ref h9, .int h0f17, .int h0f18, .int h0f19, .ref h10, .ref h11, .ref h12, .ref h13, .int h0f24, .int h0f25, .ref h14, .ref h15, .ref h16, .ref h17, .int h0f30, .int h0f31, .ref h18, .ref h19, .ref h20, .ref h21]), (h4, aJ (k 1) 9 anJ)]) (Tr := [(h1, aI (k 0) 36 anI), (h5, aJ (k 1) 9 anJ), (h6, aJ (k 1) 9 anJ), (h14, aI (k 0) 400 anI)]) (as := [h0, h4]) (zcV (q0 := 4) (ci := 8) (As := [.ref h4, .int x1]) (rest := [.int 0, .ref h14]) (Tc := [(h0, ob 8 [.int h0f0, .int h0f1, .int h0f2, .int h0f3, .int h0f4, .int h0f5, .ref h1, .ref h2, .int h0f8, .int h0f9, .ref h3, .ref h4, .ref h5, .ref h6, .ref h7, .ref h8, .ref h9, .int h0f17, .int h0f18, .int h0f19, .ref h10, .ref h11, .ref h12, .ref h13, .int h0f24, .int h0f25, .ref h14, .ref h15, .ref h16, .ref h17, .int h0f30, .int h0f31, .ref h18, .ref h19, .ref h20, .ref h21]), (h4, aJ (k 1) 9 anJ)]) hx hb hml hown hU hK hT rfl rfl [4, 5] rfl (by decide) (cX11_told_6fc77 l D k _ h0 h4 h1 h2 h3 h5 h6 h7 h8 h9 h10 h11 h12 h13 h14 h15 h16 h17 h18 h19 h20 h21 x1 h0f0 h0f1 h0f2 h0f3 h0f4 h0f5 h0f8 h0f9 h0f17 h0f18 h0f19 h0f24 h0f25 h0f30 h0f31 (by omega) (by omega) (by omega) (by omega) (by omega) (by omega) (by omega) (by omega) (by omega) (by omega) (by omega) (by omega) (by omega) (by omega) (by omega) (by omega)) w1122 w1119 w1121 w55 w72 hdX11_told ⟨rfl, rfl⟩ ⟨Nat.le_of_ble_eq_true rfl, Nat.le_of_ble_eq_true rfl⟩ rfl hl.1 (Nat.le_of_ble_eq_true rfl) dX11_image_28 ⟨Nat.le_of_ble_eq_true rfl, Nat.le_of_ble_eq_true rfl⟩) hT hS hA [4, 5] [0, 1, 2, 3] rfl rfl rfl (by decide) (by decide) (fun r142 H locs hB J hS => ?_)
    have hT1 := hB
    have hT := J _ hT1
    have hT : TP D A [(h1, aI (k 0) 36 anI), (h5, aJ (k 1) 9 anJ), (h6, aJ (k 1) 9 anJ), (h14, aI (k 0) 400 anI), (h0, ob 8 [.int h0f0, .int h0f1, .int h0f2, .int h0f3, .int h0f4, .int h0f5, .ref h1, .ref h2, .int h0f8, .int h0f9, .ref h3, .ref h4, .ref h5, .ref h6, .ref h7, .ref h8, .ref h9, .int h0f17, .int h0f18, .int h0f19, .ref h10, .ref h11, .ref h12, .ref h13, .int h0f24, .int h0f25, .ref h14, .ref h15, .ref h16, .ref h17, .int h0f30, .int h0f31, .ref h18, .ref h19, .ref h20, .ref h21]), (h4, aJ (k 1) 9 anJ)] _ := hT
    refine tz_iast hx hb hK hT hS 3 rfl (by have := li_0; omega) (fun _ _ => trivial) dX11_image_31 (fun H locs hT hS => ?_)
    refine lv_iconst (v := 1) hx hb dX11_image_32 (by decide) ?_
    refine lv_istore_n (lv' := [(2, .int 1), (0, .ref h0), (1, .int x1)]) hx hb dX11_image_33 rfl hl (by decide) rfl (fun ls hl => ?_)
    refine lv_iconst (v := 0) hx hb dX11_image_34 (by decide) ?_
    refine lv_istore_n (lv' := [(3, .int 0), (2, .int 1), (0, .ref h0), (1, .int x1)]) hx hb dX11_image_35 rfl hl (by decide) rfl (fun ls hl => ?_)
    exact lp36_49 ((400 - (0 : Int32).toInt).toNat + 1) (0) (1) _ _ _ (by have := li_0; have := li_1; omega) (by have := li_0; have := li_1; omega) (by have := li_0; have := li_1; omega)  (Nat.lt_succ_self _) hT hS (lv_sub hl [2, 3, 1, 0] rfl)
  · skip
    have hT := J _ hT1
    have hT : TP D A [(h0, ob 8 [.int h0f0, .int h0f1, .int h0f2, .int h0f3, .int h0f4, .int h0f5, .ref h1, .ref h2, .int h0f8, .int h0f9, .ref h3, .ref h4, .ref h5, .ref h6, .ref h7, .ref h8, .ref h9, .int h0f17, .int h0f18, .int h0f19, .ref h10, .ref h11, .ref h12, .ref h13, .int h0f24, .int h0f25, .ref h14, .ref h15, .ref h16, .ref h17, .int h0f30, .int h0f31, .ref h18, .ref h19, .ref h20, .ref h21]), (h1, aI (k 0) 36 anI), (h4, aJ (k 1) 9 anJ), (h5, aJ (k 1) 9 anJ), (h6, aJ (k 1) 9 anJ), (h14, aI (k 0) 400 anI)] _ := hT
    refine lv_if_ne (tgt := 9) hx hb dX11_image_4 (by decide) (fun _ => ?_) (fun cc => absurd cc (by decide +kernel))
    refine lv_aload_n hx hb dX11_image_9 rfl (lv_at hl 0 rfl) ?_
    refine lv_aload_n hx hb dX11_image_10 rfl (lv_at hl 0 rfl) ?_
    refine tz_get (ci := 8) (v := .ref h4) (C := RX11) (F := TX11) (N := 36) hx hb hU iX11 hown hK hT 0 rfl rfl 11 (by decide) w796 (fun _ h9 => h9) rfl dX11_image_11 ?_
    refine tcV (Tc := [(h0, ob 8 [.int h0f0, .int h0f1, .int h0f2, .int h0f3, .int h0f4, .int h0f5, .ref h1, .ref h2, .int h0f8, .int h0f9, .ref h3, .ref h4, .ref h5, .ref h6, .ref h7, .ref h8, .ref h9, .int h0f17, .int h0f18, .int h0f19, .ref h10, .ref h11, .ref h12, .ref h13, .int h0f24, .int h0f25, .ref h14, .ref h15, .ref h16, .ref h17, .int h0f30, .int h0f31, .ref h18, .ref h19, .ref h20, .ref h21]), (h4, aJ (k 1) 9 anJ)]) (Tr := [(h1, aI (k 0) 36 anI), (h5, aJ (k 1) 9 anJ), (h6, aJ (k 1) 9 anJ), (h14, aI (k 0) 400 anI)]) (as := [h0, h4]) (zcV (q0 := 0) (ci := 8) (As := [.ref h4]) (rest := []) (Tc := [(h0, ob 8 [.int h0f0, .int h0f1, .int h0f2, .int h0f3, .int h0f4, .int h0f5, .ref h1, .ref h2, .int h0f8, .int h0f9, .ref h3, .ref h4, .ref h5, .ref h6, .ref h7, .ref h8, .ref h9, .int h0f17, .int h0f18, .int h0f19, .ref h10, .ref h11, .ref h12, .ref h13, .int h0f24, .int h0f25, .ref h14, .ref h15, .ref h16, .ref h17, .int h0f30, .int h0f31, .ref h18, .ref h19, .ref h20, .ref h21]), (h4, aJ (k 1) 9 anJ)]) hx hb hml hown hU hK hT rfl rfl [0, 2] rfl (by decide) (cX11_first_23143 l D k _ h0 h4 h1 h2 h3 h5 h6 h7 h8 h9 h10 h11 h12 h13 h14 h15 h16 h17 h18 h19 h20 h21 h0f0 h0f1 h0f2 h0f3 h0f4 h0f5 h0f8 h0f9 h0f17 h0f18 h0f19 h0f24 h0f25 h0f30 h0f31 (by omega) (by omega) (by omega) (by omega) (by omega) (by omega) (by omega) (by omega) (by omega) (by omega) (by omega) (by omega) (by omega) (by omega) (by omega)) w919 w916 w918 w28 w72 hdX11_first ⟨rfl, rfl⟩ ⟨Nat.le_of_ble_eq_true rfl, Nat.le_of_ble_eq_true rfl⟩ rfl hl.1 (Nat.le_of_ble_eq_true rfl) dX11_image_14 ⟨Nat.le_of_ble_eq_true rfl, Nat.le_of_ble_eq_true rfl⟩) hT hS hA [0, 2] [1, 3, 4, 5] rfl rfl rfl (by decide) (by decide) (fun H locs hB J hS => ?_)
    have hT1 := hB
    have hT := J _ hT1
    have hT : TP D A [(h1, aI (k 0) 36 anI), (h5, aJ (k 1) 9 anJ), (h6, aJ (k 1) 9 anJ), (h14, aI (k 0) 400 anI), (h0, ob 8 [.int h0f0, .int h0f1, .int h0f2, .int h0f3, .int h0f4, .int h0f5, .ref h1, .ref h2, .int h0f8, .int h0f9, .ref h3, .ref h4, .ref h5, .ref h6, .ref h7, .ref h8, .ref h9, .int h0f17, .int h0f18, .int h0f19, .ref h10, .ref h11, .ref h12, .ref h13, .int h0f24, .int h0f25, .ref h14, .ref h15, .ref h16, .ref h17, .int h0f30, .int h0f31, .ref h18, .ref h19, .ref h20, .ref h21]), (h4, aJ (k 1) 9 anJ)] _ := hT
    refine lv_aload_n hx hb dX11_image_17 rfl (lv_at hl 0 rfl) ?_
    refine tz_get (ci := 8) (v := .ref h14) (C := RX11) (F := TX11) (N := 36) hx hb hU iX11 hown hK hT 4 rfl rfl 26 (by decide) w811 (fun _ h9 => h9) rfl dX11_image_18 ?_
    refine lv_iconst (v := 0) hx hb dX11_image_21 (by decide) ?_
    refine lv_aload_n hx hb dX11_image_22 rfl (lv_at hl 0 rfl) ?_
    refine lv_aload_n hx hb dX11_image_23 rfl (lv_at hl 0 rfl) ?_
    refine tz_get (ci := 8) (v := .ref h4) (C := RX11) (F := TX11) (N := 36) hx hb hU iX11 hown hK hT 4 rfl rfl 11 (by decide) w796 (fun _ h9 => h9) rfl dX11_image_24 ?_
    refine lv_iload_n hx hb dX11_image_27 rfl (lv_at hl 1 rfl) ?_
    refine tcI (Tc := [(h0, ob 8 [.int h0f0, .int h0f1, .int h0f2, .int h0f3, .int h0f4, .int h0f5, .ref h1, .ref h2, .int h0f8, .int h0f9, .ref h3, .ref h4, .ref h5, .ref h6, .ref h7, .ref h8, .ref h9, .int h0f17, .int h0f18, .int h0f19, .ref h10, .ref h11, .ref h12, .ref h13, .int h0f24, .int h0f25, .ref h14, .ref h15, .ref h16, .ref h17, .int h0f30, .int h0f31, .ref h18, .ref h19, .ref h20, .ref h21]), (h4, aJ (k 1) 9 anJ)]) (Tr := [(h1, aI (k 0) 36 anI), (h5, aJ (k 1) 9 anJ), (h6, aJ (k 1) 9 anJ), (h14, aI (k 0) 400 anI)]) (as := [h0, h4]) (zcV (q0 := 4) (ci := 8) (As := [.ref h4, .int x1]) (rest := [.int 0, .ref h14]) (Tc := [(h0, ob 8 [.int h0f0, .int h0f1, .int h0f2, .int h0f3, .int h0f4, .int h0f5, .ref h1, .ref h2, .int h0f8, .int h0f9, .ref h3, .ref h4, .ref h5, .ref h6, .ref h7, .ref h8, .ref h9, .int h0f17, .int h0f18, .int h0f19, .ref h10, .ref h11, .ref h12, .ref h13, .int h0f24, .int h0f25, .ref h14, .ref h15, .ref h16, .ref h17, .int h0f30, .int h0f31, .ref h18, .ref h19, .ref h20, .ref h21]), (h4, aJ (k 1) 9 anJ)]) hx hb hml hown hU hK hT rfl rfl [4, 5] rfl (by decide) (cX11_told_6fc77 l D k _ h0 h4 h1 h2 h3 h5 h6 h7 h8 h9 h10 h11 h12 h13 h14 h15 h16 h17 h18 h19 h20 h21 x1 h0f0 h0f1 h0f2 h0f3 h0f4 h0f5 h0f8 h0f9 h0f17 h0f18 h0f19 h0f24 h0f25 h0f30 h0f31 (by omega) (by omega) (by omega) (by omega) (by omega) (by omega) (by omega) (by omega) (by omega) (by omega) (by omega) (by omega) (by omega) (by omega) (by omega) (by omega)) w1122 w1119 w1121 w55 w72 hdX11_told ⟨rfl, rfl⟩ ⟨Nat.le_of_ble_eq_true rfl, Nat.le_of_ble_eq_true rfl⟩ rfl hl.1 (Nat.le_of_ble_eq_true rfl) dX11_image_28 ⟨Nat.le_of_ble_eq_true rfl, Nat.le_of_ble_eq_true rfl⟩) hT hS hA [4, 5] [0, 1, 2, 3] rfl rfl rfl (by decide) (by decide) (fun r144 H locs hB J hS => ?_)
    have hT1 := hB
    have hT := J _ hT1
    have hT : TP D A [(h1, aI (k 0) 36 anI), (h5, aJ (k 1) 9 anJ), (h6, aJ (k 1) 9 anJ), (h14, aI (k 0) 400 anI), (h0, ob 8 [.int h0f0, .int h0f1, .int h0f2, .int h0f3, .int h0f4, .int h0f5, .ref h1, .ref h2, .int h0f8, .int h0f9, .ref h3, .ref h4, .ref h5, .ref h6, .ref h7, .ref h8, .ref h9, .int h0f17, .int h0f18, .int h0f19, .ref h10, .ref h11, .ref h12, .ref h13, .int h0f24, .int h0f25, .ref h14, .ref h15, .ref h16, .ref h17, .int h0f30, .int h0f31, .ref h18, .ref h19, .ref h20, .ref h21]), (h4, aJ (k 1) 9 anJ)] _ := hT
    refine tz_iast hx hb hK hT hS 3 rfl (by have := li_0; omega) (fun _ _ => trivial) dX11_image_31 (fun H locs hT hS => ?_)
    refine lv_iconst (v := 1) hx hb dX11_image_32 (by decide) ?_
    refine lv_istore_n (lv' := [(2, .int 1), (0, .ref h0), (1, .int x1)]) hx hb dX11_image_33 rfl hl (by decide) rfl (fun ls hl => ?_)
    refine lv_iconst (v := 0) hx hb dX11_image_34 (by decide) ?_
    refine lv_istore_n (lv' := [(3, .int 0), (2, .int 1), (0, .ref h0), (1, .int x1)]) hx hb dX11_image_35 rfl hl (by decide) rfl (fun ls hl => ?_)
    exact lp36_49 ((400 - (0 : Int32).toInt).toNat + 1) (0) (1) _ _ _ (by have := li_0; have := li_1; omega) (by have := li_0; have := li_1; omega) (by have := li_0; have := li_1; omega)  (Nat.lt_succ_self _) hT hS (lv_sub hl [2, 3, 1, 0] rfl)
  · skip
    have hT := J _ hT1
    have hT : TP D A [(h0, ob 8 [.int h0f0, .int h0f1, .int h0f2, .int h0f3, .int h0f4, .int h0f5, .ref h1, .ref h2, .int h0f8, .int h0f9, .ref h3, .ref h4, .ref h5, .ref h6, .ref h7, .ref h8, .ref h9, .int h0f17, .int h0f18, .int h0f19, .ref h10, .ref h11, .ref h12, .ref h13, .int h0f24, .int h0f25, .ref h14, .ref h15, .ref h16, .ref h17, .int h0f30, .int h0f31, .ref h18, .ref h19, .ref h20, .ref h21]), (h1, aI (k 0) 36 anI), (h4, aJ (k 1) 9 anJ), (h5, aJ (k 1) 9 anJ), (h6, aJ (k 1) 9 anJ), (h14, aI (k 0) 400 anI)] _ := hT
    refine lv_if_ne (tgt := 9) hx hb dX11_image_4 (by decide) (fun cc => absurd (by decide +kernel) cc) (fun _ => ?_)
    refine lv_iconst (v := (-1)) hx hb dX11_image_7 (by decide) ?_
    exact tz_retI (B := B_cX11_image_316cc D k h0 h1 h4 h5 h6 h14 h2 h3 h7 h8 h9 h10 h11 h12 h13 h15 h16 h17 h18 h19 h20 h21 x1 h0f0 h0f1 h0f2 h0f3 h0f4 h0f5 h0f8 h0f9 h0f17 h0f18 h0f19 h0f24 h0f25 h0f30 h0f31) (v := (-1)) hQ hx hb hr hlocks hS (Nat.le_of_ble_eq_true rfl) (Nat.le_of_ble_eq_true rfl) dX11_image_8 (⟨(by have := li_m1; omega), hT⟩)
  · skip
    have hT := J _ hT1
    have hT : TP D A [(h0, ob 8 [.int h0f0, .int h0f1, .int h0f2, .int h0f3, .int h0f4, .int h0f5, .ref h1, .ref h2, .int h0f8, .int h0f9, .ref h3, .ref h4, .ref h5, .ref h6, .ref h7, .ref h8, .ref h9, .int h0f17, .int h0f18, .int h0f19, .ref h10, .ref h11, .ref h12, .ref h13, .int h0f24, .int h0f25, .ref h14, .ref h15, .ref h16, .ref h17, .int h0f30, .int h0f31, .ref h18, .ref h19, .ref h20, .ref h21]), (h1, aI (k 0) 36 anI), (h4, aJ (k 1) 9 anJ), (h5, aJ (k 1) 9 anJ), (h6, aJ (k 1) 9 anJ), (h14, aI (k 0) 400 anI)] _ := hT
    refine lv_if_ne (tgt := 9) hx hb dX11_image_4 (by decide) (fun _ => ?_) (fun cc => absurd cc (by decide +kernel))
    refine lv_aload_n hx hb dX11_image_9 rfl (lv_at hl 0 rfl) ?_
    refine lv_aload_n hx hb dX11_image_10 rfl (lv_at hl 0 rfl) ?_
    refine tz_get (ci := 8) (v := .ref h4) (C := RX11) (F := TX11) (N := 36) hx hb hU iX11 hown hK hT 0 rfl rfl 11 (by decide) w796 (fun _ h9 => h9) rfl dX11_image_11 ?_
    refine tcV (Tc := [(h0, ob 8 [.int h0f0, .int h0f1, .int h0f2, .int h0f3, .int h0f4, .int h0f5, .ref h1, .ref h2, .int h0f8, .int h0f9, .ref h3, .ref h4, .ref h5, .ref h6, .ref h7, .ref h8, .ref h9, .int h0f17, .int h0f18, .int h0f19, .ref h10, .ref h11, .ref h12, .ref h13, .int h0f24, .int h0f25, .ref h14, .ref h15, .ref h16, .ref h17, .int h0f30, .int h0f31, .ref h18, .ref h19, .ref h20, .ref h21]), (h4, aJ (k 1) 9 anJ)]) (Tr := [(h1, aI (k 0) 36 anI), (h5, aJ (k 1) 9 anJ), (h6, aJ (k 1) 9 anJ), (h14, aI (k 0) 400 anI)]) (as := [h0, h4]) (zcV (q0 := 0) (ci := 8) (As := [.ref h4]) (rest := []) (Tc := [(h0, ob 8 [.int h0f0, .int h0f1, .int h0f2, .int h0f3, .int h0f4, .int h0f5, .ref h1, .ref h2, .int h0f8, .int h0f9, .ref h3, .ref h4, .ref h5, .ref h6, .ref h7, .ref h8, .ref h9, .int h0f17, .int h0f18, .int h0f19, .ref h10, .ref h11, .ref h12, .ref h13, .int h0f24, .int h0f25, .ref h14, .ref h15, .ref h16, .ref h17, .int h0f30, .int h0f31, .ref h18, .ref h19, .ref h20, .ref h21]), (h4, aJ (k 1) 9 anJ)]) hx hb hml hown hU hK hT rfl rfl [0, 2] rfl (by decide) (cX11_first_23143 l D k _ h0 h4 h1 h2 h3 h5 h6 h7 h8 h9 h10 h11 h12 h13 h14 h15 h16 h17 h18 h19 h20 h21 h0f0 h0f1 h0f2 h0f3 h0f4 h0f5 h0f8 h0f9 h0f17 h0f18 h0f19 h0f24 h0f25 h0f30 h0f31 (by omega) (by omega) (by omega) (by omega) (by omega) (by omega) (by omega) (by omega) (by omega) (by omega) (by omega) (by omega) (by omega) (by omega) (by omega)) w919 w916 w918 w28 w72 hdX11_first ⟨rfl, rfl⟩ ⟨Nat.le_of_ble_eq_true rfl, Nat.le_of_ble_eq_true rfl⟩ rfl hl.1 (Nat.le_of_ble_eq_true rfl) dX11_image_14 ⟨Nat.le_of_ble_eq_true rfl, Nat.le_of_ble_eq_true rfl⟩) hT hS hA [0, 2] [1, 3, 4, 5] rfl rfl rfl (by decide) (by decide) (fun H locs hB J hS => ?_)
    have hT1 := hB
    have hT := J _ hT1
    have hT : TP D A [(h1, aI (k 0) 36 anI), (h5, aJ (k 1) 9 anJ), (h6, aJ (k 1) 9 anJ), (h14, aI (k 0) 400 anI), (h0, ob 8 [.int h0f0, .int h0f1, .int h0f2, .int h0f3, .int h0f4, .int h0f5, .ref h1, .ref h2, .int h0f8, .int h0f9, .ref h3, .ref h4, .ref h5, .ref h6, .ref h7, .ref h8, .ref h9, .int h0f17, .int h0f18, .int h0f19, .ref h10, .ref h11, .ref h12, .ref h13, .int h0f24, .int h0f25, .ref h14, .ref h15, .ref h16, .ref h17, .int h0f30, .int h0f31, .ref h18, .ref h19, .ref h20, .ref h21]), (h4, aJ (k 1) 9 anJ)] _ := hT
    refine lv_aload_n hx hb dX11_image_17 rfl (lv_at hl 0 rfl) ?_
    refine tz_get (ci := 8) (v := .ref h14) (C := RX11) (F := TX11) (N := 36) hx hb hU iX11 hown hK hT 4 rfl rfl 26 (by decide) w811 (fun _ h9 => h9) rfl dX11_image_18 ?_
    refine lv_iconst (v := 0) hx hb dX11_image_21 (by decide) ?_
    refine lv_aload_n hx hb dX11_image_22 rfl (lv_at hl 0 rfl) ?_
    refine lv_aload_n hx hb dX11_image_23 rfl (lv_at hl 0 rfl) ?_
    refine tz_get (ci := 8) (v := .ref h4) (C := RX11) (F := TX11) (N := 36) hx hb hU iX11 hown hK hT 4 rfl rfl 11 (by decide) w796 (fun _ h9 => h9) rfl dX11_image_24 ?_
    refine lv_iload_n hx hb dX11_image_27 rfl (lv_at hl 1 rfl) ?_
    refine tcI (Tc := [(h0, ob 8 [.int h0f0, .int h0f1, .int h0f2, .int h0f3, .int h0f4, .int h0f5, .ref h1, .ref h2, .int h0f8, .int h0f9, .ref h3, .ref h4, .ref h5, .ref h6, .ref h7, .ref h8, .ref h9, .int h0f17, .int h0f18, .int h0f19, .ref h10, .ref h11, .ref h12, .ref h13, .int h0f24, .int h0f25, .ref h14, .ref h15, .ref h16, .ref h17, .int h0f30, .int h0f31, .ref h18, .ref h19, .ref h20, .ref h21]), (h4, aJ (k 1) 9 anJ)]) (Tr := [(h1, aI (k 0) 36 anI), (h5, aJ (k 1) 9 anJ), (h6, aJ (k 1) 9 anJ), (h14, aI (k 0) 400 anI)]) (as := [h0, h4]) (zcV (q0 := 4) (ci := 8) (As := [.ref h4, .int x1]) (rest := [.int 0, .ref h14]) (Tc := [(h0, ob 8 [.int h0f0, .int h0f1, .int h0f2, .int h0f3, .int h0f4, .int h0f5, .ref h1, .ref h2, .int h0f8, .int h0f9, .ref h3, .ref h4, .ref h5, .ref h6, .ref h7, .ref h8, .ref h9, .int h0f17, .int h0f18, .int h0f19, .ref h10, .ref h11, .ref h12, .ref h13, .int h0f24, .int h0f25, .ref h14, .ref h15, .ref h16, .ref h17, .int h0f30, .int h0f31, .ref h18, .ref h19, .ref h20, .ref h21]), (h4, aJ (k 1) 9 anJ)]) hx hb hml hown hU hK hT rfl rfl [4, 5] rfl (by decide) (cX11_told_6fc77 l D k _ h0 h4 h1 h2 h3 h5 h6 h7 h8 h9 h10 h11 h12 h13 h14 h15 h16 h17 h18 h19 h20 h21 x1 h0f0 h0f1 h0f2 h0f3 h0f4 h0f5 h0f8 h0f9 h0f17 h0f18 h0f19 h0f24 h0f25 h0f30 h0f31 (by omega) (by omega) (by omega) (by omega) (by omega) (by omega) (by omega) (by omega) (by omega) (by omega) (by omega) (by omega) (by omega) (by omega) (by omega) (by omega)) w1122 w1119 w1121 w55 w72 hdX11_told ⟨rfl, rfl⟩ ⟨Nat.le_of_ble_eq_true rfl, Nat.le_of_ble_eq_true rfl⟩ rfl hl.1 (Nat.le_of_ble_eq_true rfl) dX11_image_28 ⟨Nat.le_of_ble_eq_true rfl, Nat.le_of_ble_eq_true rfl⟩) hT hS hA [4, 5] [0, 1, 2, 3] rfl rfl rfl (by decide) (by decide) (fun r146 H locs hB J hS => ?_)
    have hT1 := hB
    have hT := J _ hT1
    have hT : TP D A [(h1, aI (k 0) 36 anI), (h5, aJ (k 1) 9 anJ), (h6, aJ (k 1) 9 anJ), (h14, aI (k 0) 400 anI), (h0, ob 8 [.int h0f0, .int h0f1, .int h0f2, .int h0f3, .int h0f4, .int h0f5, .ref h1, .ref h2, .int h0f8, .int h0f9, .ref h3, .ref h4, .ref h5, .ref h6, .ref h7, .ref h8, .ref h9, .int h0f17, .int h0f18, .int h0f19, .ref h10, .ref h11, .ref h12, .ref h13, .int h0f24, .int h0f25, .ref h14, .ref h15, .ref h16, .ref h17, .int h0f30, .int h0f31, .ref h18, .ref h19, .ref h20, .ref h21]), (h4, aJ (k 1) 9 anJ)] _ := hT
    refine tz_iast hx hb hK hT hS 3 rfl (by have := li_0; omega) (fun _ _ => trivial) dX11_image_31 (fun H locs hT hS => ?_)
    refine lv_iconst (v := 1) hx hb dX11_image_32 (by decide) ?_
    refine lv_istore_n (lv' := [(2, .int 1), (0, .ref h0), (1, .int x1)]) hx hb dX11_image_33 rfl hl (by decide) rfl (fun ls hl => ?_)
    refine lv_iconst (v := 0) hx hb dX11_image_34 (by decide) ?_
    refine lv_istore_n (lv' := [(3, .int 0), (2, .int 1), (0, .ref h0), (1, .int x1)]) hx hb dX11_image_35 rfl hl (by decide) rfl (fun ls hl => ?_)
    exact lp36_49 ((400 - (0 : Int32).toInt).toNat + 1) (0) (1) _ _ _ (by have := li_0; have := li_1; omega) (by have := li_0; have := li_1; omega) (by have := li_0; have := li_1; omega)  (Nat.lt_succ_self _) hT hS (lv_sub hl [2, 3, 1, 0] rfl)
abbrev Rm_cX7_reduce_4e1e3 : Room := { frames := 1, cells := 0, slots := 0, locals := 25 }
abbrev B_cX7_reduce_4e1e3 (D : va_G) (k : Nat → ClassId) (h0 : Nat) (x1 : Int32) (x2 : Int32) (A : Nat → Prop) (H : Heap) : Prop := TP D A [(h0, aJ (k 1) 9 anJ)] H
set_option maxHeartbeats 4000000 in
set_option maxRecDepth 100000 in
theorem cX7_reduce_4e1e3 (l : Launch) (D : va_G) (k : Nat → ClassId) (sz : Nat) (h0 : Nat) (x1 : Int32) (x2 : Int32) (b_x1 : 1 ≤ x1.toInt ∧ x1.toInt ≤ 9) (b_x2 : 2 ≤ x2.toInt ∧ x2.toInt ≤ 7) : Met l yX7_reduce (Cond.code yX7_reduce cX7_reduce 4 none :: uw) Rm_cX7_reduce_4e1e3 (pT D k sz [.ref h0, .int x1, .int x2] [(h0, aJ (k 1) 9 anJ)]) (qV (B_cX7_reduce_4e1e3 D k h0 x1 x2 (zA [h0] sz)) (zA [h0] sz)) 0 0 (zA [h0] sz) := by
  refine tz_begin (as := [h0]) (Qc := fun A => qV (B_cX7_reduce_4e1e3 D k h0 x1 x2 A) A) (by decide +kernel) rfl (Nat.le_of_ble_eq_true rfl) ?_
  intro p e s m args below meth c ls A Q hx hb hr hml hown hlocks hin hU hK hT hS hA hl hQ
  have hl : lv_has ls 4 [(0, .ref h0), (1, .int x1), (2, .int x2)] := hl
  have hT : TP D A [(h0, aJ (k 1) 9 anJ)] s.heap := hT
  refine lv_iload_n hx hb dX7_reduce_0 rfl (lv_at hl 2 rfl) ?_
  refine lv_if_gt (tgt := 5) hx hb dX7_reduce_1 (by decide) (fun c_1 => ?_) (fun c_1 => ?_)
  · skip
    have c_1 := ni_lt c_1 li_0 rfl
    refine lv_iconst (v := 0) hx hb dX7_reduce_5 (by decide) ?_
    refine lv_istore_n (lv' := [(3, .int 0), (0, .ref h0), (1, .int x1), (2, .int x2)]) hx hb dX7_reduce_6 rfl hl (by decide) rfl (fun ls hl => ?_)
    have lp7_9 : ∀ (n : Nat) (y8 : Int32) (H : Heap) (locs : List Loc) (ls : Array Slot), (0 ≤ y8.toInt ∧ y8.toInt ≤ 9) → (x1.toInt + (-1) * y8.toInt + 1).toNat < n → TP D A [(h0, aJ (k 1) 9 anJ)] H → va_S A s.heap H locs → lv_has ls 4 [(0, .ref h0), (1, .int x1), (2, .int x2), (3, .int y8)] → W p l e Rm_cX7_reduce_4e1e3 s m args below meth c H locs 0 0 Q (F0 m 7 ls []) := by
      intro n
      induction n with
      | zero => intro y8 H locs ls b_y8 hm hT hS hl; exact absurd hm (Nat.not_lt_zero _)
      | succ n ih =>
        intro y8 H locs ls b_y8 hm hT hS hl
        have ih7_9 := ih
        clear ih
        refine lv_iload_n hx hb dX7_reduce_7 rfl (lv_at hl 3 rfl) ?_
        refine lv_iload_n hx hb dX7_reduce_8 rfl (lv_at hl 1 rfl) ?_
        refine lv_icmp_ge (tgt := 29) hx hb dX7_reduce_9 (by decide) (fun c_10 => ?_) (fun c_10 => ?_)
        · skip
          have c_10 := ni_le c_10 rfl rfl
          exact tz_retV (B := B_cX7_reduce_4e1e3 D k h0 x1 x2) hQ hx hb hr hlocks hS (Nat.le_of_ble_eq_true rfl) (Nat.le_of_ble_eq_true rfl) dX7_reduce_29 (hT)
        · skip
          have c_10 := ni_nle c_10 rfl rfl
          refine lv_aload_n hx hb dX7_reduce_12 rfl (lv_at hl 0 rfl) ?_
          refine lv_iload_n hx hb dX7_reduce_13 rfl (lv_at hl 3 rfl) ?_
          refine lv_aload_n hx hb dX7_reduce_14 rfl (lv_at hl 0 rfl) ?_
          refine lv_iload_n hx hb dX7_reduce_15 rfl (lv_at hl 3 rfl) ?_
          refine tz_lald hx hb hK hT 0 rfl (by omega) dX7_reduce_16 (fun v11 e_v11 => ?_)
          clear e_v11
          refine lv_iload_n hx hb dX7_reduce_17 rfl (lv_at hl 2 rfl) ?_
          obtain ⟨v12, e_v12⟩ : ∃ x : Int64, x2.toInt64 = x := ⟨_, rfl⟩
          refine lv_i2l (v := v12) hx hb dX7_reduce_18 e_v12 ?_
          have e_v12 := ai_i2l e_v12 rfl
          refine tcL (Tc := []) (Tr := [(h0, aJ (k 1) 9 anJ)]) (as := []) (zcS (As := [.long v11, .long v12]) (rest := [.int y8, .ref h0]) (Tc := []) hx hb hml hown hU hK hT [] rfl (by decide) (cJ9_floorMod_f86c9_e6271 l D k _ v11 v12 (by omega)) w549 w547 w548 w77 hdJ9_floorMod_f86c9 ⟨rfl, rfl⟩ ⟨Nat.le_of_ble_eq_true rfl, Nat.le_of_ble_eq_true rfl⟩ rfl hl.1 (Nat.le_of_ble_eq_true rfl) dX7_reduce_19 ⟨Nat.le_of_ble_eq_true rfl, Nat.le_of_ble_eq_true rfl⟩) hT hS hA [] [0] rfl rfl rfl (by decide) (by decide) (fun r13 H locs hB J hS => ?_)
          have hT1 := hB
          have hT := J _ hT1
          have hT : TP D A [(h0, aJ (k 1) 9 anJ)] _ := hT
          refine tz_last hx hb hK hT hS 0 rfl (by omega) (fun _ _ => trivial) dX7_reduce_22 (fun H locs hT hS => ?_)
          obtain ⟨v14, e_v14⟩ : ∃ x : Int32, x = y8 + Int32.ofInt 1 := ⟨_, rfl⟩
          have f_v14 := e_v14.symm
          have e_v14 : v14.toInt = y8.toInt + 1 := ai_add e_v14 rfl (show (Int32.ofInt 1).toInt = 1 from (by decide +kernel)) (by omega)
          refine lv_iinc (v := v14) (lv' := [(3, .int v14), (0, .ref h0), (1, .int x1), (2, .int x2)]) hx hb dX7_reduce_23 hl (k := 3) rfl f_v14 (by decide) rfl (fun ls hl => ?_)
          refine lv_goto (tgt := 7) hx hb dX7_reduce_26 (by decide) ?_
          exact ih7_9 v14 _ _ _ (by omega)  (by omega) hT hS (lv_sub hl [1, 2, 3, 0] rfl)
    exact lp7_9 ((x1.toInt + (-1) * (0 : Int32).toInt + 1).toNat + 1) (0) _ _ _ (by have := li_0; omega)  (Nat.lt_succ_self _) hT hS (lv_sub hl [1, 2, 3, 0] rfl)
  · skip
    have c_1 := ni_nlt c_1 li_0 rfl
    exfalso; omega
abbrev Rm_cX4_isRow_914e6 : Room := { frames := 1, cells := 0, slots := 0, locals := 21 }
abbrev B_cX4_isRow_914e6 (D : va_G) (k : Nat → ClassId) (h0 h1 h2 h3 h4 h5 h6 h7 h8 h9 : Nat) (x1 : Int32) (h0f8 : Int32) (h0f9 : Int32) (h0f10 : Int32) (h0f11 : Int32) (A : Nat → Prop) (r : Int32) (H : Heap) : Prop := (0 ≤ r.toInt ∧ r.toInt ≤ 1) ∧ TP D A [(h0, ob 3 [.ref h2, .ref h3, .ref h4, .ref h5, .ref h6, .ref h7, .ref h8, .ref h9, .int h0f8, .int h0f9, .int h0f10, .int h0f11]), (h1, aJ (k 1) 9 anJ), (h2, aJ (k 1) 12000 anJ)] H
set_option maxHeartbeats 4000000 in
set_option maxRecDepth 100000 in
theorem cX4_isRow_914e6 (l : Launch) (D : va_G) (k : Nat → ClassId) (sz : Nat) (h0 h1 h2 h3 h4 h5 h6 h7 h8 h9 : Nat) (x1 : Int32) (h0f8 : Int32) (h0f9 : Int32) (h0f10 : Int32) (h0f11 : Int32) (b_x1 : 0 ≤ x1.toInt ∧ x1.toInt ≤ 399) (b_h0f8 : 1 ≤ h0f8.toInt ∧ h0f8.toInt ≤ 9) (b_h0f9 : 400 ≤ h0f9.toInt ∧ h0f9.toInt ≤ 400) (b_h0f10 : 1 ≤ h0f10.toInt ∧ h0f10.toInt ≤ 400) (b_h0f11 : 0 ≤ h0f11.toInt ∧ h0f11.toInt ≤ 0) : Met l yX4_isRow (Cond.code yX4_isRow cX4_isRow 5 (some .boolean) :: uw) Rm_cX4_isRow_914e6 (pT D k sz [.ref h0, .int x1, .ref h1] [(h0, ob 3 [.ref h2, .ref h3, .ref h4, .ref h5, .ref h6, .ref h7, .ref h8, .ref h9, .int h0f8, .int h0f9, .int h0f10, .int h0f11]), (h1, aJ (k 1) 9 anJ), (h2, aJ (k 1) 12000 anJ)]) (qI (B_cX4_isRow_914e6 D k h0 h1 h2 h3 h4 h5 h6 h7 h8 h9 x1 h0f8 h0f9 h0f10 h0f11 (zA [h0, h1, h2] sz)) (zA [h0, h1, h2] sz)) 0 0 (zA [h0, h1, h2] sz) := by
  refine tz_begin (as := [h0, h1, h2]) (Qc := fun A => qI (B_cX4_isRow_914e6 D k h0 h1 h2 h3 h4 h5 h6 h7 h8 h9 x1 h0f8 h0f9 h0f10 h0f11 A) A) (by decide +kernel) rfl (Nat.le_of_ble_eq_true rfl) ?_
  intro p e s m args below meth c ls A Q hx hb hr hml hown hlocks hin hU hK hT hS hA hl hQ
  have hl : lv_has ls 5 [(0, .ref h0), (1, .int x1), (2, .ref h1)] := hl
  have hT : TP D A [(h0, ob 3 [.ref h2, .ref h3, .ref h4, .ref h5, .ref h6, .ref h7, .ref h8, .ref h9, .int h0f8, .int h0f9, .int h0f10, .int h0f11]), (h1, aJ (k 1) 9 anJ), (h2, aJ (k 1) 12000 anJ)] s.heap := hT
  refine lv_aload_n hx hb dX4_isRow_0 rfl (lv_at hl 0 rfl) ?_
  refine lv_iload_n hx hb dX4_isRow_1 rfl (lv_at hl 1 rfl) ?_
  refine tcI (Tc := [(h0, ob 3 [.ref h2, .ref h3, .ref h4, .ref h5, .ref h6, .ref h7, .ref h8, .ref h9, .int h0f8, .int h0f9, .int h0f10, .int h0f11])]) (Tr := [(h1, aJ (k 1) 9 anJ), (h2, aJ (k 1) 12000 anJ)]) (as := [h0]) (zcV (q0 := 0) (ci := 3) (As := [.int x1]) (rest := []) (Tc := [(h0, ob 3 [.ref h2, .ref h3, .ref h4, .ref h5, .ref h6, .ref h7, .ref h8, .ref h9, .int h0f8, .int h0f9, .int h0f10, .int h0f11])]) hx hb hml hown hU hK hT rfl rfl [0] rfl (by decide) (cX4_start_4cfb7 l D k _ h0 h2 h3 h4 h5 h6 h7 h8 h9 x1 h0f8 h0f9 h0f10 h0f11 (by omega) (by omega) (by omega) (by omega) (by omega)) w505 w502 w503 w504 w66 hdX4_start ⟨rfl, rfl⟩ ⟨Nat.le_of_ble_eq_true rfl, Nat.le_of_ble_eq_true rfl⟩ rfl hl.1 (Nat.le_of_ble_eq_true rfl) dX4_isRow_2 ⟨Nat.le_of_ble_eq_true rfl, Nat.le_of_ble_eq_true rfl⟩) hT hS hA [0] [1, 2] rfl rfl rfl (by decide) (by decide) (fun r1 H locs hB J hS => ?_)
  obtain ⟨b_r1, hT1⟩ := hB
  have hT := J _ hT1
  have hT : TP D A [(h1, aJ (k 1) 9 anJ), (h2, aJ (k 1) 12000 anJ), (h0, ob 3 [.ref h2, .ref h3, .ref h4, .ref h5, .ref h6, .ref h7, .ref h8, .ref h9, .int h0f8, .int h0f9, .int h0f10, .int h0f11])] _ := hT
  refine lv_istore_n (lv' := [(3, .int r1), (0, .ref h0), (1, .int x1), (2, .ref h1)]) hx hb dX4_isRow_5 rfl hl (by decide) rfl (fun ls hl => ?_)
  refine lv_iconst (v := 0) hx hb dX4_isRow_6 (by decide) ?_
  refine lv_istore (lv' := [(4, .int 0), (3, .int r1), (0, .ref h0), (1, .int x1), (2, .ref h1)]) hx hb dX4_isRow_7 hl (by decide) rfl (fun ls hl => ?_)
  have lp9_9 : ∀ (n : Nat) (y8 : Int32) (H : Heap) (locs : List Loc) (ls : Array Slot), (0 ≤ y8.toInt ∧ y8.toInt ≤ 9) → (h0f8.toInt + (-1) * y8.toInt + 1).toNat < n → TP D A [(h1, aJ (k 1) 9 anJ), (h2, aJ (k 1) 12000 anJ), (h0, ob 3 [.ref h2, .ref h3, .ref h4, .ref h5, .ref h6, .ref h7, .ref h8, .ref h9, .int h0f8, .int h0f9, .int h0f10, .int h0f11])] H → va_S A s.heap H locs → lv_has ls 5 [(0, .ref h0), (2, .ref h1), (3, .int r1), (4, .int y8)] → W p l e Rm_cX4_isRow_914e6 s m args below meth c H locs 0 0 Q (F0 m 9 ls []) := by
    intro n
    induction n with
    | zero => intro y8 H locs ls b_y8 hm hT hS hl; exact absurd hm (Nat.not_lt_zero _)
    | succ n ih =>
      intro y8 H locs ls b_y8 hm hT hS hl
      have ih9_9 := ih
      clear ih
      refine lv_iload hx hb dX4_isRow_9 (lv_at hl 3 rfl) ?_
      refine lv_aload_n hx hb dX4_isRow_11 rfl (lv_at hl 0 rfl) ?_
      refine tz_get (ci := 3) (v := .int h0f8) (C := RX4) (F := TX4) (N := 12) hx hb hU iX4 hown hK hT 2 rfl rfl 8 (by decide) w162 (fun _ h9 => h9) rfl dX4_isRow_12 ?_
      refine lv_icmp_ge (tgt := 43) hx hb dX4_isRow_15 (by decide) (fun c_10 => ?_) (fun c_10 => ?_)
      · skip
        have c_10 := ni_le c_10 rfl rfl
        refine lv_iconst (v := 1) hx hb dX4_isRow_43 (by decide) ?_
        exact tz_retZ (B := B_cX4_isRow_914e6 D k h0 h1 h2 h3 h4 h5 h6 h7 h8 h9 x1 h0f8 h0f9 h0f10 h0f11) (v := 1) hQ hx hb hr hlocks hS (Nat.le_of_ble_eq_true rfl) (Nat.le_of_ble_eq_true rfl) dX4_isRow_44 (by have := li_1; omega) (⟨(by have := li_1; omega), (hT.sub [2, 0, 1] (by decide) rfl)⟩)
      · skip
        have c_10 := ni_nle c_10 rfl rfl
        refine lv_aload_n hx hb dX4_isRow_18 rfl (lv_at hl 0 rfl) ?_
        refine tz_get (ci := 3) (v := .ref h2) (C := RX4) (F := TX4) (N := 12) hx hb hU iX4 hown hK hT 2 rfl rfl 0 (by decide) w149 (fun _ h9 => h9) rfl dX4_isRow_19 ?_
        refine lv_iload_n hx hb dX4_isRow_22 rfl (lv_at hl 2 rfl) ?_
        refine lv_iload hx hb dX4_isRow_23 (lv_at hl 3 rfl) ?_
        refine lv_iadd hx hb dX4_isRow_25 (lv_topi (fun v11 e_v11 => ?_))
        have e_v11 := ai_add e_v11 rfl rfl (by omega)
        refine tz_lald hx hb hK hT 1 rfl (by omega) dX4_isRow_26 (fun v12 e_v12 => ?_)
        clear e_v12
        refine lv_aload_n hx hb dX4_isRow_27 rfl (lv_at hl 1 rfl) ?_
        refine lv_iload hx hb dX4_isRow_28 (lv_at hl 3 rfl) ?_
        refine tz_lald hx hb hK hT 0 rfl (by omega) dX4_isRow_30 (fun v13 e_v13 => ?_)
        clear e_v13
        refine W.lcmp hx hb dX4_isRow_31 ?_
        refine lv_if_eq (tgt := 37) hx hb dX4_isRow_32 (by decide) (fun c_14 => ?_) (fun c_14 => ?_)
        · skip
          have c_14 := nl_eq c_14 rfl rfl
          obtain ⟨v15, e_v15⟩ : ∃ x : Int32, x = y8 + Int32.ofInt 1 := ⟨_, rfl⟩
          have f_v15 := e_v15.symm
          have e_v15 : v15.toInt = y8.toInt + 1 := ai_add e_v15 rfl (show (Int32.ofInt 1).toInt = 1 from (by decide +kernel)) (by omega)
          refine lv_iinc (v := v15) (lv' := [(4, .int v15), (0, .ref h0), (2, .ref h1), (3, .int r1)]) hx hb dX4_isRow_37 hl (k := 3) rfl f_v15 (by decide) rfl (fun ls hl => ?_)
          refine lv_goto (tgt := 9) hx hb dX4_isRow_40 (by decide) ?_
          exact ih9_9 v15 _ _ _ (by omega)  (by omega) hT hS (lv_sub hl [1, 2, 3, 0] rfl)
        · skip
          have c_14 := nl_ne c_14 rfl rfl
          refine lv_iconst (v := 0) hx hb dX4_isRow_35 (by decide) ?_
          exact tz_retZ (B := B_cX4_isRow_914e6 D k h0 h1 h2 h3 h4 h5 h6 h7 h8 h9 x1 h0f8 h0f9 h0f10 h0f11) (v := 0) hQ hx hb hr hlocks hS (Nat.le_of_ble_eq_true rfl) (Nat.le_of_ble_eq_true rfl) dX4_isRow_36 (by have := li_0; omega) (⟨(by have := li_0; omega), (hT.sub [2, 0, 1] (by decide) rfl)⟩)
  exact lp9_9 ((h0f8.toInt + (-1) * (0 : Int32).toInt + 1).toNat + 1) (0) _ _ _ (by have := li_0; omega)  (Nat.lt_succ_self _) hT hS (lv_sub hl [2, 4, 1, 0] rfl)
abbrev Rm_cX4_search_15ae4 : Room := { frames := 2, cells := 0, slots := 0, locals := 45 }
abbrev B_cX4_search_15ae4 (D : va_G) (k : Nat → ClassId) (h0 h1 h2 h7 h8 h3 h4 h5 h6 h9 : Nat) (h0f8 : Int32) (h0f9 : Int32) (h0f10 : Int32) (h0f11 : Int32) (A : Nat → Prop) (r : Int32) (H : Heap) : Prop := ((-1) ≤ r.toInt ∧ r.toInt ≤ 399) ∧ TP D A [(h0, ob 3 [.ref h2, .ref h3, .ref h4, .ref h5, .ref h6, .ref h7, .ref h8, .ref h9, .int h0f8, .int h0f9, .int h0f10, .int h0f11]), (h1, aJ (k 1) 9 anJ), (h2, aJ (k 1) 12000 anJ), (h7, aI (k 0) 1024 (rgI (-1) (h0f10.toInt - 1))), (h8, aI (k 0) 400 (pfI (h0f10.toInt)))] H
set_option maxHeartbeats 4000000 in
set_option maxRecDepth 100000 in
theorem cX4_search_15ae4 (l : Launch) (D : va_G) (k : Nat → ClassId) (sz : Nat) (h0 h1 h2 h7 h8 h3 h4 h5 h6 h9 : Nat) (h0f8 : Int32) (h0f9 : Int32) (h0f10 : Int32) (h0f11 : Int32) (b_h0f8 : 1 ≤ h0f8.toInt ∧ h0f8.toInt ≤ 9) (b_h0f9 : 400 ≤ h0f9.toInt ∧ h0f9.toInt ≤ 400) (b_h0f10 : 0 ≤ h0f10.toInt ∧ h0f10.toInt ≤ 400) (b_h0f11 : 0 ≤ h0f11.toInt ∧ h0f11.toInt ≤ 0) : Met l yX4_search (Cond.code yX4_search cX4_search 4 (some .int) :: uw) Rm_cX4_search_15ae4 (pT D k sz [.ref h0, .ref h1] [(h0, ob 3 [.ref h2, .ref h3, .ref h4, .ref h5, .ref h6, .ref h7, .ref h8, .ref h9, .int h0f8, .int h0f9, .int h0f10, .int h0f11]), (h1, aJ (k 1) 9 anJ), (h2, aJ (k 1) 12000 anJ), (h7, aI (k 0) 1024 (rgI (-1) (h0f10.toInt - 1))), (h8, aI (k 0) 400 (pfI (h0f10.toInt)))]) (qI (B_cX4_search_15ae4 D k h0 h1 h2 h7 h8 h3 h4 h5 h6 h9 h0f8 h0f9 h0f10 h0f11 (zA [h0, h1, h2, h7, h8] sz)) (zA [h0, h1, h2, h7, h8] sz)) 0 0 (zA [h0, h1, h2, h7, h8] sz) := by
  refine tz_begin (as := [h0, h1, h2, h7, h8]) (Qc := fun A => qI (B_cX4_search_15ae4 D k h0 h1 h2 h7 h8 h3 h4 h5 h6 h9 h0f8 h0f9 h0f10 h0f11 A) A) (by decide +kernel) rfl (Nat.le_of_ble_eq_true rfl) ?_
  intro p e s m args below meth c ls A Q hx hb hr hml hown hlocks hin hU hK hT hS hA hl hQ
  have hl : lv_has ls 4 [(0, .ref h0), (1, .ref h1)] := hl
  have hT : TP D A [(h0, ob 3 [.ref h2, .ref h3, .ref h4, .ref h5, .ref h6, .ref h7, .ref h8, .ref h9, .int h0f8, .int h0f9, .int h0f10, .int h0f11]), (h1, aJ (k 1) 9 anJ), (h2, aJ (k 1) 12000 anJ), (h7, aI (k 0) 1024 (rgI (-1) (h0f10.toInt - 1))), (h8, aI (k 0) 400 (pfI (h0f10.toInt)))] s.heap := hT
  refine lv_aload_n hx hb dX4_search_0 rfl (lv_at hl 0 rfl) ?_
  refine tz_get (ci := 3) (v := .ref h7) (C := RX4) (F := TX4) (N := 12) hx hb hU iX4 hown hK hT 0 rfl rfl 5 (by decide) w159 (fun _ h9 => h9) rfl dX4_search_1 ?_
  refine lv_aload_n hx hb dX4_search_4 rfl (lv_at hl 0 rfl) ?_
  refine lv_aload_n hx hb dX4_search_5 rfl (lv_at hl 1 rfl) ?_
  refine tcI (Tc := [(h0, ob 3 [.ref h2, .ref h3, .ref h4, .ref h5, .ref h6, .ref h7, .ref h8, .ref h9, .int h0f8, .int h0f9, .int h0f10, .int h0f11]), (h1, aJ (k 1) 9 anJ), (h7, aI (k 0) 1024 (rgI (-1) (h0f10.toInt - 1)))]) (Tr := [(h2, aJ (k 1) 12000 anJ), (h8, aI (k 0) 400 (pfI (h0f10.toInt)))]) (as := [h0, h1, h7]) (zcV (q0 := 0) (ci := 3) (As := [.ref h1]) (rest := [.ref h7]) (Tc := [(h0, ob 3 [.ref h2, .ref h3, .ref h4, .ref h5, .ref h6, .ref h7, .ref h8, .ref h9, .int h0f8, .int h0f9, .int h0f10, .int h0f11]), (h1, aJ (k 1) 9 anJ), (h7, aI (k 0) 1024 (rgI (-1) (h0f10.toInt - 1)))]) hx hb hml hown hU hK hT rfl rfl [0, 1, 3] rfl (by decide) (cX4_slotOf_71ced l D k _ h0 h1 h7 h2 h3 h4 h5 h6 h8 h9 h0f8 h0f9 h0f10 h0f11 (by omega) (by omega) (by omega) (by omega)) w514 w511 w513 w11 w66 hdX4_slotOf ⟨rfl, rfl⟩ ⟨Nat.le_of_ble_eq_true rfl, Nat.le_of_ble_eq_true rfl⟩ rfl hl.1 (Nat.le_of_ble_eq_true rfl) dX4_search_6 ⟨Nat.le_of_ble_eq_true rfl, Nat.le_of_ble_eq_true rfl⟩) hT hS hA [0, 1, 3] [2, 4] rfl rfl rfl (by decide) (by decide) (fun r1 H locs hB J hS => ?_)
  obtain ⟨b_r1, hT1⟩ := hB
  have hT := J _ hT1
  have hT : TP D A [(h2, aJ (k 1) 12000 anJ), (h8, aI (k 0) 400 (pfI (h0f10.toInt))), (h0, ob 3 [.ref h2, .ref h3, .ref h4, .ref h5, .ref h6, .ref h7, .ref h8, .ref h9, .int h0f8, .int h0f9, .int h0f10, .int h0f11]), (h1, aJ (k 1) 9 anJ), (h7, aI (k 0) 1024 (rgI (-1) (h0f10.toInt - 1)))] _ := hT
  refine tz_iald hx hb hK hT 4 rfl (by omega) dX4_search_9 (fun v2 e_v2 => ?_)
  have e_v2 := rg_get e_v2
  refine lv_istore_n (lv' := [(2, .int v2), (0, .ref h0), (1, .ref h1)]) hx hb dX4_search_10 rfl hl (by decide) rfl (fun ls hl => ?_)
  refine lv_iconst (v := 0) hx hb dX4_search_11 (by decide) ?_
  refine lv_istore_n (lv' := [(3, .int 0), (2, .int v2), (0, .ref h0), (1, .ref h1)]) hx hb dX4_search_12 rfl hl (by decide) rfl (fun ls hl => ?_)
  have lp13_51 : ∀ (n : Nat) (y49 : Int32) (y50 : Int32) (H : Heap) (locs : List Loc) (ls : Array Slot), (0 ≤ y49.toInt ∧ y49.toInt ≤ 400) → ((-1) ≤ y50.toInt ∧ y50.toInt ≤ 399) → (y50.toInt < h0f10.toInt) → (h0f10.toInt + (-1) * y49.toInt + 1).toNat < n → TP D A [(h2, aJ (k 1) 12000 anJ), (h8, aI (k 0) 400 (pfI (h0f10.toInt))), (h0, ob 3 [.ref h2, .ref h3, .ref h4, .ref h5, .ref h6, .ref h7, .ref h8, .ref h9, .int h0f8, .int h0f9, .int h0f10, .int h0f11]), (h1, aJ (k 1) 9 anJ), (h7, aI (k 0) 1024 (rgI (-1) (h0f10.toInt - 1)))] H → va_S A s.heap H locs → lv_has ls 4 [(0, .ref h0), (1, .ref h1), (2, .int y50), (3, .int y49)] → W p l e Rm_cX4_search_15ae4 s m args below meth c H locs 0 0 Q (F0 m 13 ls []) := by
    intro n
    induction n with
    | zero => intro y49 y50 H locs ls b_y49 b_y50 x_0 hm hT hS hl; exact absurd hm (Nat.not_lt_zero _)
    | succ n ih =>
      intro y49 y50 H locs ls b_y49 b_y50 x_0 hm hT hS hl
      have ih13_51 := ih
      clear ih
      refine lv_iload_n hx hb dX4_search_13 rfl (lv_at hl 3 rfl) ?_
      refine lv_aload_n hx hb dX4_search_14 rfl (lv_at hl 0 rfl) ?_
      refine tz_get (ci := 3) (v := .int h0f10) (C := RX4) (F := TX4) (N := 12) hx hb hU iX4 hown hK hT 2 rfl rfl 10 (by decide) w164 (fun _ h9 => h9) rfl dX4_search_15 ?_
      refine lv_icmp_ge (tgt := 49) hx hb dX4_search_18 (by decide) (fun c_52 => ?_) (fun c_52 => ?_)
      · skip
        have c_52 := ni_le c_52 rfl rfl
        refine lv_iconst (v := (-1)) hx hb dX4_search_49 (by decide) ?_
        exact tz_retI (B := B_cX4_search_15ae4 D k h0 h1 h2 h7 h8 h3 h4 h5 h6 h9 h0f8 h0f9 h0f10 h0f11) (v := (-1)) hQ hx hb hr hlocks hS (Nat.le_of_ble_eq_true rfl) (Nat.le_of_ble_eq_true rfl) dX4_search_50 (⟨(by have := li_m1; omega), (hT.sub [2, 3, 0, 4, 1] (by decide) rfl)⟩)
      · skip
        have c_52 := ni_nle c_52 rfl rfl
        refine lv_iload_n hx hb dX4_search_21 rfl (lv_at hl 2 rfl) ?_
        refine lv_if_lt (tgt := 49) hx hb dX4_search_22 (by decide) (fun c_53 => ?_) (fun c_53 => ?_)
        · skip
          have c_53 := ni_lt c_53 rfl li_0
          refine lv_iconst (v := (-1)) hx hb dX4_search_49 (by decide) ?_
          exact tz_retI (B := B_cX4_search_15ae4 D k h0 h1 h2 h7 h8 h3 h4 h5 h6 h9 h0f8 h0f9 h0f10 h0f11) (v := (-1)) hQ hx hb hr hlocks hS (Nat.le_of_ble_eq_true rfl) (Nat.le_of_ble_eq_true rfl) dX4_search_50 (⟨(by have := li_m1; omega), (hT.sub [2, 3, 0, 4, 1] (by decide) rfl)⟩)
        · skip
          have c_53 := ni_nlt c_53 rfl li_0
          refine lv_aload_n hx hb dX4_search_25 rfl (lv_at hl 0 rfl) ?_
          refine lv_iload_n hx hb dX4_search_26 rfl (lv_at hl 2 rfl) ?_
          refine lv_aload_n hx hb dX4_search_27 rfl (lv_at hl 1 rfl) ?_
          refine tcI (Tc := [(h0, ob 3 [.ref h2, .ref h3, .ref h4, .ref h5, .ref h6, .ref h7, .ref h8, .ref h9, .int h0f8, .int h0f9, .int h0f10, .int h0f11]), (h1, aJ (k 1) 9 anJ), (h2, aJ (k 1) 12000 anJ)]) (Tr := [(h8, aI (k 0) 400 (pfI (h0f10.toInt))), (h7, aI (k 0) 1024 (rgI (-1) (h0f10.toInt - 1)))]) (as := [h0, h1, h2]) (zcV (q0 := 2) (ci := 3) (As := [.int y50, .ref h1]) (rest := []) (Tc := [(h0, ob 3 [.ref h2, .ref h3, .ref h4, .ref h5, .ref h6, .ref h7, .ref h8, .ref h9, .int h0f8, .int h0f9, .int h0f10, .int h0f11]), (h1, aJ (k 1) 9 anJ), (h2, aJ (k 1) 12000 anJ)]) hx hb hml hown hU hK hT rfl rfl [2, 3, 0] rfl (by decide) (cX4_isRow_914e6 l D k _ h0 h1 h2 h3 h4 h5 h6 h7 h8 h9 y50 h0f8 h0f9 h0f10 h0f11 (by omega) (by omega) (by omega) (by omega) (by omega)) w559 w556 w558 w13 w66 hdX4_isRow ⟨rfl, rfl⟩ ⟨Nat.le_of_ble_eq_true rfl, Nat.le_of_ble_eq_true rfl⟩ rfl hl.1 (Nat.le_of_ble_eq_true rfl) dX4_search_28 ⟨Nat.le_of_ble_eq_true rfl, Nat.le_of_ble_eq_true rfl⟩) hT hS hA [2, 3, 0] [1, 4] rfl rfl rfl (by decide) (by decide) (fun r54 H locs hB J hS => ?_)
          obtain ⟨b_r54, hT1⟩ := hB
          have hT := J _ hT1
          have hT : TP D A [(h8, aI (k 0) 400 (pfI (h0f10.toInt))), (h7, aI (k 0) 1024 (rgI (-1) (h0f10.toInt - 1))), (h0, ob 3 [.ref h2, .ref h3, .ref h4, .ref h5, .ref h6, .ref h7, .ref h8, .ref h9, .int h0f8, .int h0f9, .int h0f10, .int h0f11]), (h1, aJ (k 1) 9 anJ), (h2, aJ (k 1) 12000 anJ)] _ := hT
          refine lv_if_eq (tgt := 36) hx hb dX4_search_31 (by decide) (fun c_55 => ?_) (fun c_55 => ?_)
          · skip
            have c_55 := ni_eq c_55 rfl li_0
            refine lv_aload_n hx hb dX4_search_36 rfl (lv_at hl 0 rfl) ?_
            refine tz_get (ci := 3) (v := .ref h8) (C := RX4) (F := TX4) (N := 12) hx hb hU iX4 hown hK hT 2 rfl rfl 6 (by decide) w160 (fun _ h9 => h9) rfl dX4_search_37 ?_
            refine lv_iload_n hx hb dX4_search_40 rfl (lv_at hl 2 rfl) ?_
            refine tz_iald hx hb hK hT 0 rfl (by omega) dX4_search_41 (fun v56 e_v56 => ?_)
            have e_v56 := pf_get e_v56 (by omega)
            refine lv_istore_n (lv' := [(2, .int v56), (0, .ref h0), (1, .ref h1), (3, .int y49)]) hx hb dX4_search_42 rfl hl (by decide) rfl (fun ls hl => ?_)
            obtain ⟨v57, e_v57⟩ : ∃ x : Int32, x = y49 + Int32.ofInt 1 := ⟨_, rfl⟩
            have f_v57 := e_v57.symm
            have e_v57 : v57.toInt = y49.toInt + 1 := ai_add e_v57 rfl (show (Int32.ofInt 1).toInt = 1 from (by decide +kernel)) (by omega)
            refine lv_iinc (v := v57) (lv' := [(3, .int v57), (2, .int v56), (0, .ref h0), (1, .ref h1)]) hx hb dX4_search_43 hl (k := 3) rfl f_v57 (by decide) rfl (fun ls hl => ?_)
            refine lv_goto (tgt := 13) hx hb dX4_search_46 (by decide) ?_
            exact ih13_51 v57 v56 _ _ _ (by omega) (by omega) (by omega) (by omega) (hT.sub [4, 0, 2, 3, 1] (by decide) rfl) hS (lv_sub hl [2, 3, 1, 0] rfl)
          · skip
            have c_55 := ni_ne c_55 rfl li_0
            refine lv_iload_n hx hb dX4_search_34 rfl (lv_at hl 2 rfl) ?_
            exact tz_retI (B := B_cX4_search_15ae4 D k h0 h1 h2 h7 h8 h3 h4 h5 h6 h9 h0f8 h0f9 h0f10 h0f11) (v := y50) hQ hx hb hr hlocks hS (Nat.le_of_ble_eq_true rfl) (Nat.le_of_ble_eq_true rfl) dX4_search_35 (⟨(by omega), (hT.sub [2, 3, 4, 1, 0] (by decide) rfl)⟩)
  exact lp13_51 ((h0f10.toInt + (-1) * (0 : Int32).toInt + 1).toNat + 1) (0) v2 _ _ _ (by have := li_0; omega) (by have := li_0; omega) (by have := li_0; omega) (Nat.lt_succ_self _) hT hS (lv_sub hl [2, 3, 1, 0] rfl)
abbrev Rm_cX10_areApartBy_0198b : Room := { frames := 3, cells := 9, slots := 16296, locals := 68 }
abbrev B_cX10_areApartBy_0198b (D : va_G) (k : Nat → ClassId) (h0 h1 h5 h11 h21 h2 h3 h4 h6 h7 h8 h9 h10 h12 h13 h22 h23 h24 h25 h26 h27 h28 : Nat) (x1 : Int32) (h0f2 : Int32) (h0f6 : Int32) (h0f8 : Int32) (h0f11 : Int32) (h1f0 : Int32) (h1f1 : Int32) (h1f2 : Int32) (h5f8 : Int32) (h5f9 : Int32) (h5f10 : Int32) (h5f11 : Int32) (A : Nat → Prop) (r : Int32) (H : Heap) : Prop := ∃ n0 : Nat, ∃ n1 : Nat, ∃ n2 : Nat, ∃ n3 : Nat, ∃ n4 : Nat, ∃ n5 : Nat, ∃ n6 : Nat, ∃ n7 : Nat, ∃ n8 : Nat, ∃ o0 : Int32, ∃ o1 : Int32, (1 ≤ o0.toInt ∧ o0.toInt ≤ 9) ∧ (0 ≤ o1.toInt ∧ o1.toInt ≤ 400) ∧ (0 ≤ r.toInt ∧ r.toInt ≤ 1) ∧ TP D A [(h0, ob 7 [.ref h1, .ref h2, .int h0f2, .ref h3, .ref h4, .ref h5, .int h0f6, .ref h6, .int h0f8, .ref n0, .ref h7, .int h0f11, .ref h8, .ref h9, .ref h10, .ref h11, .ref h12]), (h1, ob 4 [.int h1f0, .int h1f1, .int h1f2, .ref h13]), (h5, ob 3 [.ref h21, .ref h22, .ref h23, .ref h24, .ref h25, .ref h26, .ref h27, .ref h28, .int h5f8, .int h5f9, .int h5f10, .int h5f11]), (h11, aJ (k 1) 9 anJ), (h21, aJ (k 1) 900 anJ), (n0, ob 3 [.ref n1, .ref n2, .ref n3, .ref n4, .ref n5, .ref n6, .ref n7, .ref n8, .int o0, .int 400, .int o1, .int 0]), (n1, aJ (k 1) 12000 anJ), (n2, aI (k 0) 400 anI), (n3, aI (k 0) 400 anI), (n4, aI (k 0) 400 anI), (n5, aI (k 0) 1600 anI), (n6, aI (k 0) 1024 anI), (n7, aI (k 0) 400 anI), (n8, aJ (k 1) 60 anJ)] H
set_option maxHeartbeats 4000000 in
set_option maxRecDepth 100000 in
theorem cX10_areApartBy_0198b (l : Launch) (D : va_G) (k : Nat → ClassId) (sz : Nat) (h0 h1 h5 h11 h21 h2 h3 h4 h6 h7 h8 h9 h10 h12 h13 h22 h23 h24 h25 h26 h27 h28 : Nat) (x1 : Int32) (h0f2 : Int32) (h0f6 : Int32) (h0f8 : Int32) (h0f11 : Int32) (h1f0 : Int32) (h1f1 : Int32) (h1f2 : Int32) (h5f8 : Int32) (h5f9 : Int32) (h5f10 : Int32) (h5f11 : Int32) (b_x1 : 2 ≤ x1.toInt ∧ x1.toInt ≤ 7) (b_h0f2 : 0 ≤ h0f2.toInt ∧ h0f2.toInt ≤ 1) (b_h0f6 : 1 ≤ h0f6.toInt ∧ h0f6.toInt ≤ 1) (b_h0f8 : 0 ≤ h0f8.toInt ∧ h0f8.toInt ≤ 1) (b_h0f11 : 0 ≤ h0f11.toInt ∧ h0f11.toInt ≤ 200) (b_h1f0 : 1 ≤ h1f0.toInt ∧ h1f0.toInt ≤ 3) (b_h1f1 : 0 ≤ h1f1.toInt ∧ h1f1.toInt ≤ 4) (b_h5f8 : 0 ≤ h5f8.toInt ∧ h5f8.toInt ≤ 9) (b_h5f9 : 0 ≤ h5f9.toInt ∧ h5f9.toInt ≤ 100) (b_h5f10 : 0 ≤ h5f10.toInt ∧ h5f10.toInt ≤ 100) (b_h5f11 : 0 ≤ h5f11.toInt ∧ h5f11.toInt ≤ 1) : Met l yX10_areApartBy (Cond.code yX10_areApartBy cX10_areApartBy 5 (some .boolean) :: uw) Rm_cX10_areApartBy_0198b (pT D k sz [.ref h0, .int x1] [(h0, ob 7 [.ref h1, .ref h2, .int h0f2, .ref h3, .ref h4, .ref h5, .int h0f6, .ref h6, .int h0f8, .null, .ref h7, .int h0f11, .ref h8, .ref h9, .ref h10, .ref h11, .ref h12]), (h1, ob 4 [.int h1f0, .int h1f1, .int h1f2, .ref h13]), (h5, ob 3 [.ref h21, .ref h22, .ref h23, .ref h24, .ref h25, .ref h26, .ref h27, .ref h28, .int h5f8, .int h5f9, .int h5f10, .int h5f11]), (h11, aJ (k 1) 9 anJ), (h21, aJ (k 1) 900 anJ)]) (qI (B_cX10_areApartBy_0198b D k h0 h1 h5 h11 h21 h2 h3 h4 h6 h7 h8 h9 h10 h12 h13 h22 h23 h24 h25 h26 h27 h28 x1 h0f2 h0f6 h0f8 h0f11 h1f0 h1f1 h1f2 h5f8 h5f9 h5f10 h5f11 (zA [h0, h1, h5, h11, h21] sz)) (zA [h0, h1, h5, h11, h21] sz)) 9 16296 (zA [h0, h1, h5, h11, h21] sz) := by
  refine tz_begin (as := [h0, h1, h5, h11, h21]) (Qc := fun A => qI (B_cX10_areApartBy_0198b D k h0 h1 h5 h11 h21 h2 h3 h4 h6 h7 h8 h9 h10 h12 h13 h22 h23 h24 h25 h26 h27 h28 x1 h0f2 h0f6 h0f8 h0f11 h1f0 h1f1 h1f2 h5f8 h5f9 h5f10 h5f11 A) A) (by decide +kernel) rfl (Nat.le_of_ble_eq_true rfl) ?_
  intro p e s m args below meth c ls A Q hx hb hr hml hown hlocks hin hU hK hT hS hA hl hQ
  have hl : lv_has ls 5 [(0, .ref h0), (1, .int x1)] := hl
  have hT : TP D A [(h0, ob 7 [.ref h1, .ref h2, .int h0f2, .ref h3, .ref h4, .ref h5, .int h0f6, .ref h6, .int h0f8, .null, .ref h7, .int h0f11, .ref h8, .ref h9, .ref h10, .ref h11, .ref h12]), (h1, ob 4 [.int h1f0, .int h1f1, .int h1f2, .ref h13]), (h5, ob 3 [.ref h21, .ref h22, .ref h23, .ref h24, .ref h25, .ref h26, .ref h27, .ref h28, .int h5f8, .int h5f9, .int h5f10, .int h5f11]), (h11, aJ (k 1) 9 anJ), (h21, aJ (k 1) 900 anJ)] s.heap := hT
  refine lv_aload_n hx hb dX10_areApartBy_0 rfl (lv_at hl 0 rfl) ?_
  refine tz_get (ci := 7) (v := .ref h1) (C := RX10) (F := TX10) (N := 17) hx hb hU iX10 hown hK hT 0 rfl rfl 0 (by decide) w249 (fun _ h9 => h9) rfl dX10_areApartBy_1 ?_
  refine tcI (Tc := [(h1, ob 4 [.int h1f0, .int h1f1, .int h1f2, .ref h13])]) (Tr := [(h0, ob 7 [.ref h1, .ref h2, .int h0f2, .ref h3, .ref h4, .ref h5, .int h0f6, .ref h6, .int h0f8, .null, .ref h7, .int h0f11, .ref h8, .ref h9, .ref h10, .ref h11, .ref h12]), (h5, ob 3 [.ref h21, .ref h22, .ref h23, .ref h24, .ref h25, .ref h26, .ref h27, .ref h28, .int h5f8, .int h5f9, .int h5f10, .int h5f11]), (h11, aJ (k 1) 9 anJ), (h21, aJ (k 1) 900 anJ)]) (as := [h1]) (zcV (q0 := 1) (ci := 4) (As := []) (rest := []) (Tc := [(h1, ob 4 [.int h1f0, .int h1f1, .int h1f2, .ref h13])]) hx hb hml hown hU hK hT rfl rfl [1] rfl (by decide) (cX5_cellCount_642c9 l D k _ h1 h13 h1f0 h1f1 h1f2 (by omega) (by omega)) w385 w382 w383 w384 w64 hdX5_cellCount ⟨rfl, rfl⟩ ⟨Nat.le_of_ble_eq_true rfl, Nat.le_of_ble_eq_true rfl⟩ rfl hl.1 (Nat.le_of_ble_eq_true rfl) dX10_areApartBy_4 ⟨Nat.le_of_ble_eq_true rfl, Nat.le_of_ble_eq_true rfl⟩) hT hS hA [1] [0, 2, 3, 4] rfl rfl rfl (by decide) (by decide) (fun r1 H locs hB J hS => ?_)
  obtain ⟨b_r1, hT1⟩ := hB
  have hT := J _ hT1
  have hT : TP D A [(h0, ob 7 [.ref h1, .ref h2, .int h0f2, .ref h3, .ref h4, .ref h5, .int h0f6, .ref h6, .int h0f8, .null, .ref h7, .int h0f11, .ref h8, .ref h9, .ref h10, .ref h11, .ref h12]), (h5, ob 3 [.ref h21, .ref h22, .ref h23, .ref h24, .ref h25, .ref h26, .ref h27, .ref h28, .int h5f8, .int h5f9, .int h5f10, .int h5f11]), (h11, aJ (k 1) 9 anJ), (h21, aJ (k 1) 900 anJ), (h1, ob 4 [.int h1f0, .int h1f1, .int h1f2, .ref h13])] _ := hT
  refine lv_istore_n (lv' := [(2, .int r1), (0, .ref h0), (1, .int x1)]) hx hb dX10_areApartBy_7 rfl hl (by decide) rfl (fun ls hl => ?_)
  refine lv_aload_n hx hb dX10_areApartBy_8 rfl (lv_at hl 1 rfl) ?_
  refine lv_iload_n hx hb dX10_areApartBy_9 rfl (lv_at hl 0 rfl) ?_
  refine lv_sipush (v := 400) hx hb dX10_areApartBy_10 (by decide) ?_
  have q_q3 := li_400
  refine tcR (Tc := [(h0, ob 7 [.ref h1, .ref h2, .int h0f2, .ref h3, .ref h4, .ref h5, .int h0f6, .ref h6, .int h0f8, .null, .ref h7, .int h0f11, .ref h8, .ref h9, .ref h10, .ref h11, .ref h12])]) (Tr := [(h5, ob 3 [.ref h21, .ref h22, .ref h23, .ref h24, .ref h25, .ref h26, .ref h27, .ref h28, .int h5f8, .int h5f9, .int h5f10, .int h5f11]), (h11, aJ (k 1) 9 anJ), (h21, aJ (k 1) 900 anJ), (h1, ob 4 [.int h1f0, .int h1f1, .int h1f2, .ref h13])]) (as := [h0]) (zcV (q0 := 0) (ci := 7) (As := [.int r1, .int 400]) (rest := []) (Tc := [(h0, ob 7 [.ref h1, .ref h2, .int h0f2, .ref h3, .ref h4, .ref h5, .int h0f6, .ref h6, .int h0f8, .null, .ref h7, .int h0f11, .ref h8, .ref h9, .ref h10, .ref h11, .ref h12])]) hx hb hml hown hU hK hT rfl rfl [0] rfl (by decide) (cX10_clearBench_37f2f l D k _ h0 h1 h2 h3 h4 h5 h6 h7 h8 h9 h10 h11 h12 r1 (400) h0f2 h0f6 h0f8 h0f11 (by omega) (by have := li_400; omega) (by omega) (by omega) (by omega) (by omega)) w672 w669 w671 w22 w63 hdX10_clearBench ⟨rfl, rfl⟩ ⟨Nat.le_of_ble_eq_true rfl, Nat.le_of_ble_eq_true rfl⟩ rfl hl.1 (Nat.le_of_ble_eq_true rfl) dX10_areApartBy_13 ⟨Nat.le_of_ble_eq_true rfl, Nat.le_of_ble_eq_true rfl⟩) hT hS hA [0] [1, 2, 3, 4] rfl rfl rfl (by decide) (by decide) (fun r2 H locs hB J hS => ?_)
  obtain ⟨q4, q5, q6, q7, q8, q9, q10, q11, q12, rfl, hT1⟩ := hB
  have hT := J _ hT1
  have hT : TP D A [(h5, ob 3 [.ref h21, .ref h22, .ref h23, .ref h24, .ref h25, .ref h26, .ref h27, .ref h28, .int h5f8, .int h5f9, .int h5f10, .int h5f11]), (h11, aJ (k 1) 9 anJ), (h21, aJ (k 1) 900 anJ), (h1, ob 4 [.int h1f0, .int h1f1, .int h1f2, .ref h13]), (h0, ob 7 [.ref h1, .ref h2, .int h0f2, .ref h3, .ref h4, .ref h5, .int h0f6, .ref h6, .int h0f8, .ref q4, .ref h7, .int h0f11, .ref h8, .ref h9, .ref h10, .ref h11, .ref h12]), (q4, ob 3 [.ref q5, .ref q6, .ref q7, .ref q8, .ref q9, .ref q10, .ref q11, .ref q12, .int r1, .int 400, .int 0, .int 0]), (q5, aJ (k 1) 12000 anJ), (q6, aI (k 0) 400 anI), (q7, aI (k 0) 400 anI), (q8, aI (k 0) 400 anI), (q9, aI (k 0) 1600 anI), (q10, aI (k 0) 1024 (rgI (-1) (0 - 1))), (q11, aI (k 0) 400 (pfI (0))), (q12, aJ (k 1) 60 anJ)] _ := hT
  refine lv_astore_n (lv' := [(3, .ref q4), (2, .int r1), (0, .ref h0), (1, .int x1)]) hx hb dX10_areApartBy_16 rfl hl (by decide) rfl (fun ls hl => ?_)
  refine lv_iconst (v := 0) hx hb dX10_areApartBy_17 (by decide) ?_
  refine lv_istore (lv' := [(4, .int 0), (3, .ref q4), (2, .int r1), (0, .ref h0), (1, .int x1)]) hx hb dX10_areApartBy_18 hl (by decide) rfl (fun ls hl => ?_)
  have lp20_39 : ∀ (n : Nat) (y37 : Int32) (y38 : Int32) (H : Heap) (locs : List Loc) (ls : Array Slot), (0 ≤ y37.toInt ∧ y37.toInt ≤ 100) → (0 ≤ y38.toInt ∧ y38.toInt ≤ 400) → (h5f10.toInt + (-1) * y37.toInt + 1).toNat < n → TP D A [(h5, ob 3 [.ref h21, .ref h22, .ref h23, .ref h24, .ref h25, .ref h26, .ref h27, .ref h28, .int h5f8, .int h5f9, .int h5f10, .int h5f11]), (h11, aJ (k 1) 9 anJ), (h21, aJ (k 1) 900 anJ), (h1, ob 4 [.int h1f0, .int h1f1, .int h1f2, .ref h13]), (h0, ob 7 [.ref h1, .ref h2, .int h0f2, .ref h3, .ref h4, .ref h5, .int h0f6, .ref h6, .int h0f8, .ref q4, .ref h7, .int h0f11, .ref h8, .ref h9, .ref h10, .ref h11, .ref h12]), (q4, ob 3 [.ref q5, .ref q6, .ref q7, .ref q8, .ref q9, .ref q10, .ref q11, .ref q12, .int r1, .int 400, .int y38, .int 0]), (q5, aJ (k 1) 12000 anJ), (q6, aI (k 0) 400 anI), (q7, aI (k 0) 400 anI), (q8, aI (k 0) 400 anI), (q9, aI (k 0) 1600 anI), (q10, aI (k 0) 1024 (rgI (-1) (y38.toInt - 1))), (q11, aI (k 0) 400 (pfI (y38.toInt))), (q12, aJ (k 1) 60 anJ)] H → va_S A s.heap H locs → lv_has ls 5 [(0, .ref h0), (1, .int x1), (2, .int r1), (3, .ref q4), (4, .int y37)] → W p l e Rm_cX10_areApartBy_0198b s m args below meth c H locs 9 16296 Q (F0 m 20 ls []) := by
    intro n
    induction n with
    | zero => intro y37 y38 H locs ls b_y37 b_y38 hm hT hS hl; exact absurd hm (Nat.not_lt_zero _)
    | succ n ih =>
      intro y37 y38 H locs ls b_y37 b_y38 hm hT hS hl
      have ih20_39 := ih
      clear ih
      refine lv_iload hx hb dX10_areApartBy_20 (lv_at hl 4 rfl) ?_
      refine lv_aload_n hx hb dX10_areApartBy_22 rfl (lv_at hl 0 rfl) ?_
      refine tz_get (ci := 7) (v := .ref h5) (C := RX10) (F := TX10) (N := 17) hx hb hU iX10 hown hK hT 4 rfl rfl 5 (by decide) w254 (fun _ h9 => h9) rfl dX10_areApartBy_23 ?_
      refine tz_get (ci := 3) (v := .int h5f10) (C := RX4) (F := TX4) (N := 12) hx hb hU iX4 hown hK hT 0 rfl rfl 10 (by decide) w166 (fun _ h9 => h9) rfl dX10_areApartBy_26 ?_
      refine lv_icmp_ge (tgt := 98) hx hb dX10_areApartBy_29 (by decide) (fun c_40 => ?_) (fun c_40 => ?_)
      · skip
        have c_40 := ni_le c_40 rfl rfl
        refine lv_iconst (v := 1) hx hb dX10_areApartBy_98 (by decide) ?_
        have hT := hT.wk (q := 11) rfl (an_I (c := k 0) (n := 1024))
        have hT : TP D A [(h5, ob 3 [.ref h21, .ref h22, .ref h23, .ref h24, .ref h25, .ref h26, .ref h27, .ref h28, .int h5f8, .int h5f9, .int h5f10, .int h5f11]), (h11, aJ (k 1) 9 anJ), (h21, aJ (k 1) 900 anJ), (h1, ob 4 [.int h1f0, .int h1f1, .int h1f2, .ref h13]), (h0, ob 7 [.ref h1, .ref h2, .int h0f2, .ref h3, .ref h4, .ref h5, .int h0f6, .ref h6, .int h0f8, .ref q4, .ref h7, .int h0f11, .ref h8, .ref h9, .ref h10, .ref h11, .ref h12]), (q4, ob 3 [.ref q5, .ref q6, .ref q7, .ref q8, .ref q9, .ref q10, .ref q11, .ref q12, .int r1, .int 400, .int y38, .int 0]), (q5, aJ (k 1) 12000 anJ), (q6, aI (k 0) 400 anI), (q7, aI (k 0) 400 anI), (q8, aI (k 0) 400 anI), (q9, aI (k 0) 1600 anI), (q10, aI (k 0) 1024 anI), (q11, aI (k 0) 400 (pfI (y38.toInt))), (q12, aJ (k 1) 60 anJ)] _ := hT
        have hT := hT.wk (q := 12) rfl (an_I (c := k 0) (n := 400))
        have hT : TP D A [(h5, ob 3 [.ref h21, .ref h22, .ref h23, .ref h24, .ref h25, .ref h26, .ref h27, .ref h28, .int h5f8, .int h5f9, .int h5f10, .int h5f11]), (h11, aJ (k 1) 9 anJ), (h21, aJ (k 1) 900 anJ), (h1, ob 4 [.int h1f0, .int h1f1, .int h1f2, .ref h13]), (h0, ob 7 [.ref h1, .ref h2, .int h0f2, .ref h3, .ref h4, .ref h5, .int h0f6, .ref h6, .int h0f8, .ref q4, .ref h7, .int h0f11, .ref h8, .ref h9, .ref h10, .ref h11, .ref h12]), (q4, ob 3 [.ref q5, .ref q6, .ref q7, .ref q8, .ref q9, .ref q10, .ref q11, .ref q12, .int r1, .int 400, .int y38, .int 0]), (q5, aJ (k 1) 12000 anJ), (q6, aI (k 0) 400 anI), (q7, aI (k 0) 400 anI), (q8, aI (k 0) 400 anI), (q9, aI (k 0) 1600 anI), (q10, aI (k 0) 1024 anI), (q11, aI (k 0) 400 anI), (q12, aJ (k 1) 60 anJ)] _ := hT
        exact tz_retZ (B := B_cX10_areApartBy_0198b D k h0 h1 h5 h11 h21 h2 h3 h4 h6 h7 h8 h9 h10 h12 h13 h22 h23 h24 h25 h26 h27 h28 x1 h0f2 h0f6 h0f8 h0f11 h1f0 h1f1 h1f2 h5f8 h5f9 h5f10 h5f11) (v := 1) hQ hx hb hr hlocks hS (Nat.le_of_ble_eq_true rfl) (Nat.le_of_ble_eq_true rfl) dX10_areApartBy_99 (by have := li_1; omega) (⟨q4, q5, q6, q7, q8, q9, q10, q11, q12, r1, y38, (by have := li_1; omega), (by have := li_1; omega), (by have := li_1; omega), (hT.sub [4, 3, 0, 1, 2, 5, 6, 7, 8, 9, 10, 11, 12, 13] (by decide) rfl)⟩)
      · skip
        have c_40 := ni_nle c_40 rfl rfl
        refine lv_aload_n hx hb dX10_areApartBy_32 rfl (lv_at hl 0 rfl) ?_
        refine tz_get (ci := 7) (v := .ref h5) (C := RX10) (F := TX10) (N := 17) hx hb hU iX10 hown hK hT 4 rfl rfl 5 (by decide) w254 (fun _ h9 => h9) rfl dX10_areApartBy_33 ?_
        refine tz_get (ci := 3) (v := .ref h21) (C := RX4) (F := TX4) (N := 12) hx hb hU iX4 hown hK hT 0 rfl rfl 0 (by decide) w150 (fun _ h9 => h9) rfl dX10_areApartBy_36 ?_
        refine lv_aload_n hx hb dX10_areApartBy_39 rfl (lv_at hl 0 rfl) ?_
        refine tz_get (ci := 7) (v := .ref h5) (C := RX10) (F := TX10) (N := 17) hx hb hU iX10 hown hK hT 4 rfl rfl 5 (by decide) w254 (fun _ h9 => h9) rfl dX10_areApartBy_40 ?_
        refine lv_iload hx hb dX10_areApartBy_43 (lv_at hl 4 rfl) ?_
        refine tcI (Tc := [(h5, ob 3 [.ref h21, .ref h22, .ref h23, .ref h24, .ref h25, .ref h26, .ref h27, .ref h28, .int h5f8, .int h5f9, .int h5f10, .int h5f11])]) (Tr := [(h11, aJ (k 1) 9 anJ), (h21, aJ (k 1) 900 anJ), (h1, ob 4 [.int h1f0, .int h1f1, .int h1f2, .ref h13]), (h0, ob 7 [.ref h1, .ref h2, .int h0f2, .ref h3, .ref h4, .ref h5, .int h0f6, .ref h6, .int h0f8, .ref q4, .ref h7, .int h0f11, .ref h8, .ref h9, .ref h10, .ref h11, .ref h12]), (q4, ob 3 [.ref q5, .ref q6, .ref q7, .ref q8, .ref q9, .ref q10, .ref q11, .ref q12, .int r1, .int 400, .int y38, .int 0]), (q5, aJ (k 1) 12000 anJ), (q6, aI (k 0) 400 anI), (q7, aI (k 0) 400 anI), (q8, aI (k 0) 400 anI), (q9, aI (k 0) 1600 anI), (q10, aI (k 0) 1024 (rgI (-1) (y38.toInt - 1))), (q11, aI (k 0) 400 (pfI (y38.toInt))), (q12, aJ (k 1) 60 anJ)]) (as := [h5]) (zcV (q0 := 0) (ci := 3) (As := [.int y37]) (rest := [.ref h21]) (Tc := [(h5, ob 3 [.ref h21, .ref h22, .ref h23, .ref h24, .ref h25, .ref h26, .ref h27, .ref h28, .int h5f8, .int h5f9, .int h5f10, .int h5f11])]) hx hb hml hown hU hK hT rfl rfl [0] rfl (by decide) (cX4_start_d01b0 l D k _ h5 h21 h22 h23 h24 h25 h26 h27 h28 y37 h5f8 h5f9 h5f10 h5f11 (by omega) (by omega) (by omega) (by omega) (by omega)) w505 w574 w503 w504 w66 hdX4_start ⟨rfl, rfl⟩ ⟨Nat.le_of_ble_eq_true rfl, Nat.le_of_ble_eq_true rfl⟩ rfl hl.1 (Nat.le_of_ble_eq_true rfl) dX10_areApartBy_45 ⟨Nat.le_of_ble_eq_true rfl, Nat.le_of_ble_eq_true rfl⟩) hT hS hA [0] [1, 2, 3, 4, 5, 6, 7, 8, 9, 10, 11, 12, 13] rfl rfl rfl (by decide) (by decide) (fun r41 H locs hB J hS => ?_)
        obtain ⟨b_r41, hT1⟩ := hB
        have hT := J _ hT1
        have hT : TP D A [(h11, aJ (k 1) 9 anJ), (h21, aJ (k 1) 900 anJ), (h1, ob 4 [.int h1f0, .int h1f1, .int h1f2, .ref h13]), (h0, ob 7 [.ref h1, .ref h2, .int h0f2, .ref h3, .ref h4, .ref h5, .int h0f6, .ref h6, .int h0f8, .ref q4, .ref h7, .int h0f11, .ref h8, .ref h9, .ref h10, .ref h11, .ref h12]), (q4, ob 3 [.ref q5, .ref q6, .ref q7, .ref q8, .ref q9, .ref q10, .ref q11, .ref q12, .int r1, .int 400, .int y38, .int 0]), (q5, aJ (k 1) 12000 anJ), (q6, aI (k 0) 400 anI), (q7, aI (k 0) 400 anI), (q8, aI (k 0) 400 anI), (q9, aI (k 0) 1600 anI), (q10, aI (k 0) 1024 (rgI (-1) (y38.toInt - 1))), (q11, aI (k 0) 400 (pfI (y38.toInt))), (q12, aJ (k 1) 60 anJ), (h5, ob 3 [.ref h21, .ref h22, .ref h23, .ref h24, .ref h25, .ref h26, .ref h27, .ref h28, .int h5f8, .int h5f9, .int h5f10, .int h5f11])] _ := hT
        refine lv_aload_n hx hb dX10_areApartBy_48 rfl (lv_at hl 0 rfl) ?_
        refine tz_get (ci := 7) (v := .ref h11) (C := RX10) (F := TX10) (N := 17) hx hb hU iX10 hown hK hT 3 rfl rfl 15 (by decide) w264 (fun _ h9 => h9) rfl dX10_areApartBy_49 ?_
        refine lv_iconst (v := 0) hx hb dX10_areApartBy_52 (by decide) ?_
        refine lv_iload_n hx hb dX10_areApartBy_53 rfl (lv_at hl 2 rfl) ?_
        refine tz_copyl hx hb (by rw [hml]; exact hl.1.symm) hown hU w410 w348 w347 w75 hK hT hS 1 0 rfl rfl (by have := li_0; omega) (fun _ _ _ _ => trivial) (Nat.le_of_ble_eq_true rfl) (Nat.le_of_ble_eq_true rfl) dX10_areApartBy_54 (fun H locs hT hS => ?_)
        refine lv_aload_n hx hb dX10_areApartBy_57 rfl (lv_at hl 0 rfl) ?_
        refine tz_get (ci := 7) (v := .ref h11) (C := RX10) (F := TX10) (N := 17) hx hb hU iX10 hown hK hT 3 rfl rfl 15 (by decide) w264 (fun _ h9 => h9) rfl dX10_areApartBy_58 ?_
        refine lv_iload_n hx hb dX10_areApartBy_61 rfl (lv_at hl 2 rfl) ?_
        refine lv_iload_n hx hb dX10_areApartBy_62 rfl (lv_at hl 1 rfl) ?_
        refine tcV (Tc := [(h11, aJ (k 1) 9 anJ)]) (Tr := [(h21, aJ (k 1) 900 anJ), (h1, ob 4 [.int h1f0, .int h1f1, .int h1f2, .ref h13]), (h0, ob 7 [.ref h1, .ref h2, .int h0f2, .ref h3, .ref h4, .ref h5, .int h0f6, .ref h6, .int h0f8, .ref q4, .ref h7, .int h0f11, .ref h8, .ref h9, .ref h10, .ref h11, .ref h12]), (q4, ob 3 [.ref q5, .ref q6, .ref q7, .ref q8, .ref q9, .ref q10, .ref q11, .ref q12, .int r1, .int 400, .int y38, .int 0]), (q5, aJ (k 1) 12000 anJ), (q6, aI (k 0) 400 anI), (q7, aI (k 0) 400 anI), (q8, aI (k 0) 400 anI), (q9, aI (k 0) 1600 anI), (q10, aI (k 0) 1024 (rgI (-1) (y38.toInt - 1))), (q11, aI (k 0) 400 (pfI (y38.toInt))), (q12, aJ (k 1) 60 anJ), (h5, ob 3 [.ref h21, .ref h22, .ref h23, .ref h24, .ref h25, .ref h26, .ref h27, .ref h28, .int h5f8, .int h5f9, .int h5f10, .int h5f11])]) (as := [h11]) (zcS (As := [.ref h11, .int r1, .int x1]) (rest := []) (Tc := [(h11, aJ (k 1) 9 anJ)]) hx hb hml hown hU hK hT [0] rfl (by decide) (cX7_reduce_4e1e3 l D k _ h11 r1 x1 (by omega) (by omega)) w546 w681 w545 w74 hdX7_reduce ⟨rfl, rfl⟩ ⟨Nat.le_of_ble_eq_true rfl, Nat.le_of_ble_eq_true rfl⟩ rfl hl.1 (Nat.le_of_ble_eq_true rfl) dX10_areApartBy_63 ⟨Nat.le_of_ble_eq_true rfl, Nat.le_of_ble_eq_true rfl⟩) hT hS hA [0] [1, 2, 3, 4, 5, 6, 7, 8, 9, 10, 11, 12, 13] rfl rfl rfl (by decide) (by decide) (fun H locs hB J hS => ?_)
        have hT1 := hB
        have hT := J _ hT1
        have hT : TP D A [(h21, aJ (k 1) 900 anJ), (h1, ob 4 [.int h1f0, .int h1f1, .int h1f2, .ref h13]), (h0, ob 7 [.ref h1, .ref h2, .int h0f2, .ref h3, .ref h4, .ref h5, .int h0f6, .ref h6, .int h0f8, .ref q4, .ref h7, .int h0f11, .ref h8, .ref h9, .ref h10, .ref h11, .ref h12]), (q4, ob 3 [.ref q5, .ref q6, .ref q7, .ref q8, .ref q9, .ref q10, .ref q11, .ref q12, .int r1, .int 400, .int y38, .int 0]), (q5, aJ (k 1) 12000 anJ), (q6, aI (k 0) 400 anI), (q7, aI (k 0) 400 anI), (q8, aI (k 0) 400 anI), (q9, aI (k 0) 1600 anI), (q10, aI (k 0) 1024 (rgI (-1) (y38.toInt - 1))), (q11, aI (k 0) 400 (pfI (y38.toInt))), (q12, aJ (k 1) 60 anJ), (h5, ob 3 [.ref h21, .ref h22, .ref h23, .ref h24, .ref h25, .ref h26, .ref h27, .ref h28, .int h5f8, .int h5f9, .int h5f10, .int h5f11]), (h11, aJ (k 1) 9 anJ)] _ := hT
        refine lv_aload_n hx hb dX10_areApartBy_66 rfl (lv_at hl 3 rfl) ?_
        refine lv_aload_n hx hb dX10_areApartBy_67 rfl (lv_at hl 0 rfl) ?_
        refine tz_get (ci := 7) (v := .ref h11) (C := RX10) (F := TX10) (N := 17) hx hb hU iX10 hown hK hT 2 rfl rfl 15 (by decide) w264 (fun _ h9 => h9) rfl dX10_areApartBy_68 ?_
        have q_q44 := li_400
        have q_q45 := li_0
        refine tcI (Tc := [(q4, ob 3 [.ref q5, .ref q6, .ref q7, .ref q8, .ref q9, .ref q10, .ref q11, .ref q12, .int r1, .int 400, .int y38, .int 0]), (h11, aJ (k 1) 9 anJ), (q5, aJ (k 1) 12000 anJ), (q10, aI (k 0) 1024 (rgI (-1) (y38.toInt - 1))), (q11, aI (k 0) 400 (pfI (y38.toInt)))]) (Tr := [(h21, aJ (k 1) 900 anJ), (h1, ob 4 [.int h1f0, .int h1f1, .int h1f2, .ref h13]), (h0, ob 7 [.ref h1, .ref h2, .int h0f2, .ref h3, .ref h4, .ref h5, .int h0f6, .ref h6, .int h0f8, .ref q4, .ref h7, .int h0f11, .ref h8, .ref h9, .ref h10, .ref h11, .ref h12]), (q6, aI (k 0) 400 anI), (q7, aI (k 0) 400 anI), (q8, aI (k 0) 400 anI), (q9, aI (k 0) 1600 anI), (q12, aJ (k 1) 60 anJ), (h5, ob 3 [.ref h21, .ref h22, .ref h23, .ref h24, .ref h25, .ref h26, .ref h27, .ref h28, .int h5f8, .int h5f9, .int h5f10, .int h5f11])]) (as := [q4, h11, q5, q10, q11]) (zcV (q0 := 3) (ci := 3) (As := [.ref h11]) (rest := []) (Tc := [(q4, ob 3 [.ref q5, .ref q6, .ref q7, .ref q8, .ref q9, .ref q10, .ref q11, .ref q12, .int r1, .int 400, .int y38, .int 0]), (h11, aJ (k 1) 9 anJ), (q5, aJ (k 1) 12000 anJ), (q10, aI (k 0) 1024 (rgI (-1) (y38.toInt - 1))), (q11, aI (k 0) 400 (pfI (y38.toInt)))]) hx hb hml hown hU hK hT rfl rfl [3, 13, 4, 9, 10] rfl (by decide) (cX4_search_15ae4 l D k _ q4 h11 q5 q10 q11 q6 q7 q8 q9 q12 r1 (400) y38 (0) (by omega) (by have := li_400; omega) (by omega) (by have := li_0; omega)) w555 w597 w553 w554 w66 hdX4_search ⟨rfl, rfl⟩ ⟨Nat.le_of_ble_eq_true rfl, Nat.le_of_ble_eq_true rfl⟩ rfl hl.1 (Nat.le_of_ble_eq_true rfl) dX10_areApartBy_71 ⟨Nat.le_of_ble_eq_true rfl, Nat.le_of_ble_eq_true rfl⟩) hT hS hA [3, 13, 4, 9, 10] [0, 1, 2, 5, 6, 7, 8, 11, 12] rfl rfl rfl (by decide) (by decide) (fun r43 H locs hB J hS => ?_)
        obtain ⟨b_r43, hT1⟩ := hB
        have hT := J _ hT1
        have hT : TP D A [(h21, aJ (k 1) 900 anJ), (h1, ob 4 [.int h1f0, .int h1f1, .int h1f2, .ref h13]), (h0, ob 7 [.ref h1, .ref h2, .int h0f2, .ref h3, .ref h4, .ref h5, .int h0f6, .ref h6, .int h0f8, .ref q4, .ref h7, .int h0f11, .ref h8, .ref h9, .ref h10, .ref h11, .ref h12]), (q6, aI (k 0) 400 anI), (q7, aI (k 0) 400 anI), (q8, aI (k 0) 400 anI), (q9, aI (k 0) 1600 anI), (q12, aJ (k 1) 60 anJ), (h5, ob 3 [.ref h21, .ref h22, .ref h23, .ref h24, .ref h25, .ref h26, .ref h27, .ref h28, .int h5f8, .int h5f9, .int h5f10, .int h5f11]), (q4, ob 3 [.ref q5, .ref q6, .ref q7, .ref q8, .ref q9, .ref q10, .ref q11, .ref q12, .int r1, .int 400, .int y38, .int 0]), (h11, aJ (k 1) 9 anJ), (q5, aJ (k 1) 12000 anJ), (q10, aI (k 0) 1024 (rgI (-1) (y38.toInt - 1))), (q11, aI (k 0) 400 (pfI (y38.toInt)))] _ := hT
        refine lv_if_lt (tgt := 79) hx hb dX10_areApartBy_74 (by decide) (fun c_46 => ?_) (fun c_46 => ?_)
        · skip
          have c_46 := ni_lt c_46 rfl li_0
          refine lv_aload_n hx hb dX10_areApartBy_79 rfl (lv_at hl 3 rfl) ?_
          refine lv_aload_n hx hb dX10_areApartBy_80 rfl (lv_at hl 0 rfl) ?_
          refine tz_get (ci := 7) (v := .ref h11) (C := RX10) (F := TX10) (N := 17) hx hb hU iX10 hown hK hT 2 rfl rfl 15 (by decide) w264 (fun _ h9 => h9) rfl dX10_areApartBy_81 ?_
          refine lv_bipush (v := (-3)) hx hb dX10_areApartBy_84 (by decide) ?_
          refine lv_bipush (v := (-3)) hx hb dX10_areApartBy_86 (by decide) ?_
          have q_q48 := li_m3
          have q_q49 := li_m3
          have q_q50 := li_400
          have q_q51 := li_0
          refine tcI (Tc := [(q4, ob 3 [.ref q5, .ref q6, .ref q7, .ref q8, .ref q9, .ref q10, .ref q11, .ref q12, .int r1, .int 400, .int y38, .int 0]), (h11, aJ (k 1) 9 anJ), (q5, aJ (k 1) 12000 anJ), (q6, aI (k 0) 400 anI), (q7, aI (k 0) 400 anI), (q8, aI (k 0) 400 anI), (q10, aI (k 0) 1024 (rgI (-1) (y38.toInt - 1))), (q11, aI (k 0) 400 (pfI (y38.toInt)))]) (Tr := [(h21, aJ (k 1) 900 anJ), (h1, ob 4 [.int h1f0, .int h1f1, .int h1f2, .ref h13]), (h0, ob 7 [.ref h1, .ref h2, .int h0f2, .ref h3, .ref h4, .ref h5, .int h0f6, .ref h6, .int h0f8, .ref q4, .ref h7, .int h0f11, .ref h8, .ref h9, .ref h10, .ref h11, .ref h12]), (q9, aI (k 0) 1600 anI), (q12, aJ (k 1) 60 anJ), (h5, ob 3 [.ref h21, .ref h22, .ref h23, .ref h24, .ref h25, .ref h26, .ref h27, .ref h28, .int h5f8, .int h5f9, .int h5f10, .int h5f11])]) (as := [q4, h11, q5, q6, q7, q8, q10, q11]) (zcV (q0 := 9) (ci := 3) (As := [.ref h11, .int (-3), .int (-3)]) (rest := []) (Tc := [(q4, ob 3 [.ref q5, .ref q6, .ref q7, .ref q8, .ref q9, .ref q10, .ref q11, .ref q12, .int r1, .int 400, .int y38, .int 0]), (h11, aJ (k 1) 9 anJ), (q5, aJ (k 1) 12000 anJ), (q6, aI (k 0) 400 anI), (q7, aI (k 0) 400 anI), (q8, aI (k 0) 400 anI), (q10, aI (k 0) 1024 (rgI (-1) (y38.toInt - 1))), (q11, aI (k 0) 400 (pfI (y38.toInt)))]) hx hb hml hown hU hK hT rfl rfl [9, 10, 11, 3, 4, 5, 12, 13] rfl (by decide) (cX4_append_aa194 l D k _ q4 h11 q5 q6 q7 q8 q10 q11 q9 q12 ((-3)) ((-3)) r1 (400) y38 (0) (by have := li_m3; omega) (by have := li_m3; omega) (by omega) (by have := li_400; omega) (by omega) (by have := li_0; omega)) w501 w498 w499 w500 w66 hdX4_append ⟨rfl, rfl⟩ ⟨Nat.le_of_ble_eq_true rfl, Nat.le_of_ble_eq_true rfl⟩ rfl hl.1 (Nat.le_of_ble_eq_true rfl) dX10_areApartBy_88 ⟨Nat.le_of_ble_eq_true rfl, Nat.le_of_ble_eq_true rfl⟩) hT hS hA [9, 10, 11, 3, 4, 5, 12, 13] [0, 1, 2, 6, 7, 8] rfl rfl rfl (by decide) (by decide) (fun r47 H locs hB J hS => ?_)
          obtain ⟨v52, b_v52, b_r47, hT1⟩ := hB
          have hT := J _ hT1
          have hT : TP D A [(h21, aJ (k 1) 900 anJ), (h1, ob 4 [.int h1f0, .int h1f1, .int h1f2, .ref h13]), (h0, ob 7 [.ref h1, .ref h2, .int h0f2, .ref h3, .ref h4, .ref h5, .int h0f6, .ref h6, .int h0f8, .ref q4, .ref h7, .int h0f11, .ref h8, .ref h9, .ref h10, .ref h11, .ref h12]), (q9, aI (k 0) 1600 anI), (q12, aJ (k 1) 60 anJ), (h5, ob 3 [.ref h21, .ref h22, .ref h23, .ref h24, .ref h25, .ref h26, .ref h27, .ref h28, .int h5f8, .int h5f9, .int h5f10, .int h5f11]), (q4, ob 3 [.ref q5, .ref q6, .ref q7, .ref q8, .ref q9, .ref q10, .ref q11, .ref q12, .int r1, .int 400, .int v52, .int 0]), (h11, aJ (k 1) 9 anJ), (q5, aJ (k 1) 12000 anJ), (q6, aI (k 0) 400 anI), (q7, aI (k 0) 400 anI), (q8, aI (k 0) 400 anI), (q10, aI (k 0) 1024 (rgI (-1) (v52.toInt - 1))), (q11, aI (k 0) 400 (pfI (v52.toInt)))] _ := hT
          refine lv_pop hx hb dX10_areApartBy_91 rfl ?_
          obtain ⟨v53, e_v53⟩ : ∃ x : Int32, x = y37 + Int32.ofInt 1 := ⟨_, rfl⟩
          have f_v53 := e_v53.symm
          have e_v53 : v53.toInt = y37.toInt + 1 := ai_add e_v53 rfl (show (Int32.ofInt 1).toInt = 1 from (by decide +kernel)) (by omega)
          refine lv_iinc (v := v53) (lv' := [(4, .int v53), (0, .ref h0), (1, .int x1), (2, .int r1), (3, .ref q4)]) hx hb dX10_areApartBy_92 hl (k := 4) rfl f_v53 (by decide) rfl (fun ls hl => ?_)
          refine lv_goto (tgt := 20) hx hb dX10_areApartBy_95 (by decide) ?_
          exact ih20_39 v53 v52 _ _ _ (by omega) (by omega)  (by omega) (hT.sub [5, 7, 0, 1, 2, 6, 8, 9, 10, 11, 3, 12, 13, 4] (by decide) rfl) hS (lv_sub hl [1, 2, 3, 4, 0] rfl)
        · skip
          have c_46 := ni_nlt c_46 rfl li_0
          refine lv_iconst (v := 0) hx hb dX10_areApartBy_77 (by decide) ?_
          have hT := hT.wk (q := 12) rfl (an_I (c := k 0) (n := 1024))
          have hT : TP D A [(h21, aJ (k 1) 900 anJ), (h1, ob 4 [.int h1f0, .int h1f1, .int h1f2, .ref h13]), (h0, ob 7 [.ref h1, .ref h2, .int h0f2, .ref h3, .ref h4, .ref h5, .int h0f6, .ref h6, .int h0f8, .ref q4, .ref h7, .int h0f11, .ref h8, .ref h9, .ref h10, .ref h11, .ref h12]), (q6, aI (k 0) 400 anI), (q7, aI (k 0) 400 anI), (q8, aI (k 0) 400 anI), (q9, aI (k 0) 1600 anI), (q12, aJ (k 1) 60 anJ), (h5, ob 3 [.ref h21, .ref h22, .ref h23, .ref h24, .ref h25, .ref h26, .ref h27, .ref h28, .int h5f8, .int h5f9, .int h5f10, .int h5f11]), (q4, ob 3 [.ref q5, .ref q6, .ref q7, .ref q8, .ref q9, .ref q10, .ref q11, .ref q12, .int r1, .int 400, .int y38, .int 0]), (h11, aJ (k 1) 9 anJ), (q5, aJ (k 1) 12000 anJ), (q10, aI (k 0) 1024 anI), (q11, aI (k 0) 400 (pfI (y38.toInt)))] _ := hT
          have hT := hT.wk (q := 13) rfl (an_I (c := k 0) (n := 400))
          have hT : TP D A [(h21, aJ (k 1) 900 anJ), (h1, ob 4 [.int h1f0, .int h1f1, .int h1f2, .ref h13]), (h0, ob 7 [.ref h1, .ref h2, .int h0f2, .ref h3, .ref h4, .ref h5, .int h0f6, .ref h6, .int h0f8, .ref q4, .ref h7, .int h0f11, .ref h8, .ref h9, .ref h10, .ref h11, .ref h12]), (q6, aI (k 0) 400 anI), (q7, aI (k 0) 400 anI), (q8, aI (k 0) 400 anI), (q9, aI (k 0) 1600 anI), (q12, aJ (k 1) 60 anJ), (h5, ob 3 [.ref h21, .ref h22, .ref h23, .ref h24, .ref h25, .ref h26, .ref h27, .ref h28, .int h5f8, .int h5f9, .int h5f10, .int h5f11]), (q4, ob 3 [.ref q5, .ref q6, .ref q7, .ref q8, .ref q9, .ref q10, .ref q11, .ref q12, .int r1, .int 400, .int y38, .int 0]), (h11, aJ (k 1) 9 anJ), (q5, aJ (k 1) 12000 anJ), (q10, aI (k 0) 1024 anI), (q11, aI (k 0) 400 anI)] _ := hT
          exact tz_retZ (B := B_cX10_areApartBy_0198b D k h0 h1 h5 h11 h21 h2 h3 h4 h6 h7 h8 h9 h10 h12 h13 h22 h23 h24 h25 h26 h27 h28 x1 h0f2 h0f6 h0f8 h0f11 h1f0 h1f1 h1f2 h5f8 h5f9 h5f10 h5f11) (v := 0) hQ hx hb hr hlocks hS (Nat.le_of_ble_eq_true rfl) (Nat.le_of_ble_eq_true rfl) dX10_areApartBy_78 (by have := li_0; omega) (⟨q4, q5, q6, q7, q8, q9, q10, q11, q12, r1, y38, (by have := li_0; omega), (by have := li_0; omega), (by have := li_0; omega), (hT.sub [2, 1, 8, 10, 0, 9, 11, 3, 4, 5, 6, 12, 13, 7] (by decide) rfl)⟩)
  exact lp20_39 ((h5f10.toInt + (-1) * (0 : Int32).toInt + 1).toNat + 1) (0) (0) _ _ _ (by have := li_0; omega) (by have := li_0; omega)  (Nat.lt_succ_self _) hT hS (lv_sub hl [3, 4, 2, 1, 0] rfl)
