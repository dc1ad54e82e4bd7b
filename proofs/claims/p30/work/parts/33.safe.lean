abbrev Rm_cX10_seed_0d89b : Room := { frames := 0, cells := 0, slots := 0, locals := 0 }
abbrev B_cX10_seed_0d89b (D : va_G) (k : Nat → ClassId) (h0 h1 h2 h3 h4 h5 h6 h7 h8 h9 h10 h11 h12 h13 : Nat) (x1 : Int32) (h0f2 : Int32) (h0f6 : Int32) (h0f8 : Int32) (h0f11 : Int32) (h1f0 : Int32) (h1f1 : Int32) (h1f2 : Int32) (A : Nat → Prop) (r : Int32) (H : Heap) : Prop := h1f2 = r ∧ TP D A [(h0, ob 7 [.ref h1, .ref h2, .int h0f2, .ref h3, .ref h4, .ref h5, .int h0f6, .ref h6, .int h0f8, .null, .ref h7, .int h0f11, .ref h8, .ref h9, .ref h10, .ref h11, .ref h12]), (h1, ob 4 [.int h1f0, .int h1f1, .int x1, .ref h13])] H
set_option maxHeartbeats 4000000 in
set_option maxRecDepth 100000 in
theorem cX10_seed_0d89b (l : Launch) (D : va_G) (k : Nat → ClassId) (sz : Nat) (h0 h1 h2 h3 h4 h5 h6 h7 h8 h9 h10 h11 h12 h13 : Nat) (x1 : Int32) (h0f2 : Int32) (h0f6 : Int32) (h0f8 : Int32) (h0f11 : Int32) (h1f0 : Int32) (h1f1 : Int32) (h1f2 : Int32) (b_h0f2 : 0 ≤ h0f2.toInt ∧ h0f2.toInt ≤ 1) (b_h0f6 : 0 ≤ h0f6.toInt ∧ h0f6.toInt ≤ 1) (b_h0f8 : 0 ≤ h0f8.toInt ∧ h0f8.toInt ≤ 1) (b_h0f11 : 0 ≤ h0f11.toInt ∧ h0f11.toInt ≤ 200) (b_h1f0 : 1 ≤ h1f0.toInt ∧ h1f0.toInt ≤ 3) (b_h1f1 : 0 ≤ h1f1.toInt ∧ h1f1.toInt ≤ 4) : Met l yX10_seed (Cond.code yX10_seed cX10_seed 3 (some .int) :: uw) Rm_cX10_seed_0d89b (pT D k sz [.ref h0, .int x1] [(h0, ob 7 [.ref h1, .ref h2, .int h0f2, .ref h3, .ref h4, .ref h5, .int h0f6, .ref h6, .int h0f8, .null, .ref h7, .int h0f11, .ref h8, .ref h9, .ref h10, .ref h11, .ref h12]), (h1, ob 4 [.int h1f0, .int h1f1, .int h1f2, .ref h13])]) (qI (B_cX10_seed_0d89b D k h0 h1 h2 h3 h4 h5 h6 h7 h8 h9 h10 h11 h12 h13 x1 h0f2 h0f6 h0f8 h0f11 h1f0 h1f1 h1f2 (zA [h0, h1] sz)) (zA [h0, h1] sz)) 0 0 (zA [h0, h1] sz) := by
  refine tz_begin (as := [h0, h1]) (Qc := fun A => qI (B_cX10_seed_0d89b D k h0 h1 h2 h3 h4 h5 h6 h7 h8 h9 h10 h11 h12 h13 x1 h0f2 h0f6 h0f8 h0f11 h1f0 h1f1 h1f2 A) A) (by decide +kernel) rfl (Nat.le_of_ble_eq_true rfl) ?_
  intro p e s m args below meth c ls A Q hx hb hr hml hown hlocks hin hU hK hT hS hA hl hQ
  have hl : lv_has ls 3 [(0, .ref h0), (1, .int x1)] := hl
  have hT : TP D A [(h0, ob 7 [.ref h1, .ref h2, .int h0f2, .ref h3, .ref h4, .ref h5, .int h0f6, .ref h6, .int h0f8, .null, .ref h7, .int h0f11, .ref h8, .ref h9, .ref h10, .ref h11, .ref h12]), (h1, ob 4 [.int h1f0, .int h1f1, .int h1f2, .ref h13])] s.heap := hT
  refine lv_aload_n hx hb dX10_seed_0 rfl (lv_at hl 0 rfl) ?_
  refine tz_get (ci := 7) (v := .ref h1) (C := RX10) (F := TX10) (N := 17) hx hb hU iX10 hown hK hT 0 rfl rfl 0 (by decide) w249 (fun _ h9 => h9) rfl dX10_seed_1 ?_
  refine tz_get (ci := 4) (v := .int h1f2) (C := RX5) (F := TX5) (N := 4) hx hb hU iX5 hown hK hT 1 rfl rfl 2 (by decide) w99 (fun _ h9 => h9) rfl dX10_seed_4 ?_
  refine lv_istore_n (lv' := [(2, .int h1f2), (0, .ref h0), (1, .int x1)]) hx hb dX10_seed_7 rfl hl (by decide) rfl (fun ls hl => ?_)
  refine lv_aload_n hx hb dX10_seed_8 rfl (lv_at hl 1 rfl) ?_
  refine tz_get (ci := 7) (v := .ref h1) (C := RX10) (F := TX10) (N := 17) hx hb hU iX10 hown hK hT 0 rfl rfl 0 (by decide) w249 (fun _ h9 => h9) rfl dX10_seed_9 ?_
  refine lv_iload_n hx hb dX10_seed_12 rfl (lv_at hl 2 rfl) ?_
  refine tz_put (ci := 4) (v := .int x1) (ty := .int) (C := RX5) (F := TX5) (N := 4) hx hb hU iX5 tyX5 tyX5_ok nmX5 hown hK hT hS 1 rfl rfl 2 (by decide) w99 (fun _ h9 => h9) rfl (by decide +kernel) rfl rfl (Nat.le_of_ble_eq_true rfl) dX10_seed_13 (fun H locs hT hS => ?_)
  have hT : TP D A [(h0, ob 7 [.ref h1, .ref h2, .int h0f2, .ref h3, .ref h4, .ref h5, .int h0f6, .ref h6, .int h0f8, .null, .ref h7, .int h0f11, .ref h8, .ref h9, .ref h10, .ref h11, .ref h12]), (h1, ob 4 [.int h1f0, .int h1f1, .int x1, .ref h13])] _ := hT
  refine lv_iload_n hx hb dX10_seed_16 rfl (lv_at hl 0 rfl) ?_
  exact tz_retI (B := B_cX10_seed_0d89b D k h0 h1 h2 h3 h4 h5 h6 h7 h8 h9 h10 h11 h12 h13 x1 h0f2 h0f6 h0f8 h0f11 h1f0 h1f1 h1f2) (v := h1f2) hQ hx hb hr hlocks hS (Nat.le_of_ble_eq_true rfl) (Nat.le_of_ble_eq_true rfl) dX10_seed_17 (⟨rfl, hT⟩)
abbrev Rm_cX10_seed_a7456 : Room := { frames := 0, cells := 0, slots := 0, locals := 0 }
abbrev B_cX10_seed_a7456 (D : va_G) (k : Nat → ClassId) (h0 h1 h2 h3 h4 h5 h6 h7 h8 h9 h10 h11 h12 h13 h14 : Nat) (x1 : Int32) (h0f2 : Int32) (h0f6 : Int32) (h0f8 : Int32) (h0f11 : Int32) (h1f0 : Int32) (h1f1 : Int32) (h1f2 : Int32) (A : Nat → Prop) (r : Int32) (H : Heap) : Prop := h1f2 = r ∧ TP D A [(h0, ob 7 [.ref h1, .ref h2, .int h0f2, .ref h3, .ref h4, .ref h5, .int h0f6, .ref h6, .int h0f8, .ref h7, .ref h8, .int h0f11, .ref h9, .ref h10, .ref h11, .ref h12, .ref h13]), (h1, ob 4 [.int h1f0, .int h1f1, .int x1, .ref h14])] H
set_option maxHeartbeats 4000000 in
set_option maxRecDepth 100000 in
theorem cX10_seed_a7456 (l : Launch) (D : va_G) (k : Nat → ClassId) (sz : Nat) (h0 h1 h2 h3 h4 h5 h6 h7 h8 h9 h10 h11 h12 h13 h14 : Nat) (x1 : Int32) (h0f2 : Int32) (h0f6 : Int32) (h0f8 : Int32) (h0f11 : Int32) (h1f0 : Int32) (h1f1 : Int32) (h1f2 : Int32) (b_h0f2 : 0 ≤ h0f2.toInt ∧ h0f2.toInt ≤ 1) (b_h0f6 : 0 ≤ h0f6.toInt ∧ h0f6.toInt ≤ 1) (b_h0f8 : 0 ≤ h0f8.toInt ∧ h0f8.toInt ≤ 1) (b_h0f11 : 0 ≤ h0f11.toInt ∧ h0f11.toInt ≤ 200) (b_h1f0 : 1 ≤ h1f0.toInt ∧ h1f0.toInt ≤ 3) (b_h1f1 : 0 ≤ h1f1.toInt ∧ h1f1.toInt ≤ 4) : Met l yX10_seed (Cond.code yX10_seed cX10_seed 3 (some .int) :: uw) Rm_cX10_seed_a7456 (pT D k sz [.ref h0, .int x1] [(h0, ob 7 [.ref h1, .ref h2, .int h0f2, .ref h3, .ref h4, .ref h5, .int h0f6, .ref h6, .int h0f8, .ref h7, .ref h8, .int h0f11, .ref h9, .ref h10, .ref h11, .ref h12, .ref h13]), (h1, ob 4 [.int h1f0, .int h1f1, .int h1f2, .ref h14])]) (qI (B_cX10_seed_a7456 D k h0 h1 h2 h3 h4 h5 h6 h7 h8 h9 h10 h11 h12 h13 h14 x1 h0f2 h0f6 h0f8 h0f11 h1f0 h1f1 h1f2 (zA [h0, h1] sz)) (zA [h0, h1] sz)) 0 0 (zA [h0, h1] sz) := by
  refine tz_begin (as := [h0, h1]) (Qc := fun A => qI (B_cX10_seed_a7456 D k h0 h1 h2 h3 h4 h5 h6 h7 h8 h9 h10 h11 h12 h13 h14 x1 h0f2 h0f6 h0f8 h0f11 h1f0 h1f1 h1f2 A) A) (by decide +kernel) rfl (Nat.le_of_ble_eq_true rfl) ?_
  intro p e s m args below meth c ls A Q hx hb hr hml hown hlocks hin hU hK hT hS hA hl hQ
  have hl : lv_has ls 3 [(0, .ref h0), (1, .int x1)] := hl
  have hT : TP D A [(h0, ob 7 [.ref h1, .ref h2, .int h0f2, .ref h3, .ref h4, .ref h5, .int h0f6, .ref h6, .int h0f8, .ref h7, .ref h8, .int h0f11, .ref h9, .ref h10, .ref h11, .ref h12, .ref h13]), (h1, ob 4 [.int h1f0, .int h1f1, .int h1f2, .ref h14])] s.heap := hT
  refine lv_aload_n hx hb dX10_seed_0 rfl (lv_at hl 0 rfl) ?_
  refine tz_get (ci := 7) (v := .ref h1) (C := RX10) (F := TX10) (N := 17) hx hb hU iX10 hown hK hT 0 rfl rfl 0 (by decide) w249 (fun _ h9 => h9) rfl dX10_seed_1 ?_
  refine tz_get (ci := 4) (v := .int h1f2) (C := RX5) (F := TX5) (N := 4) hx hb hU iX5 hown hK hT 1 rfl rfl 2 (by decide) w99 (fun _ h9 => h9) rfl dX10_seed_4 ?_
  refine lv_istore_n (lv' := [(2, .int h1f2), (0, .ref h0), (1, .int x1)]) hx hb dX10_seed_7 rfl hl (by decide) rfl (fun ls hl => ?_)
  refine lv_aload_n hx hb dX10_seed_8 rfl (lv_at hl 1 rfl) ?_
  refine tz_get (ci := 7) (v := .ref h1) (C := RX10) (F := TX10) (N := 17) hx hb hU iX10 hown hK hT 0 rfl rfl 0 (by decide) w249 (fun _ h9 => h9) rfl dX10_seed_9 ?_
  refine lv_iload_n hx hb dX10_seed_12 rfl (lv_at hl 2 rfl) ?_
  refine tz_put (ci := 4) (v := .int x1) (ty := .int) (C := RX5) (F := TX5) (N := 4) hx hb hU iX5 tyX5 tyX5_ok nmX5 hown hK hT hS 1 rfl rfl 2 (by decide) w99 (fun _ h9 => h9) rfl (by decide +kernel) rfl rfl (Nat.le_of_ble_eq_true rfl) dX10_seed_13 (fun H locs hT hS => ?_)
  have hT : TP D A [(h0, ob 7 [.ref h1, .ref h2, .int h0f2, .ref h3, .ref h4, .ref h5, .int h0f6, .ref h6, .int h0f8, .ref h7, .ref h8, .int h0f11, .ref h9, .ref h10, .ref h11, .ref h12, .ref h13]), (h1, ob 4 [.int h1f0, .int h1f1, .int x1, .ref h14])] _ := hT
  refine lv_iload_n hx hb dX10_seed_16 rfl (lv_at hl 0 rfl) ?_
  exact tz_retI (B := B_cX10_seed_a7456 D k h0 h1 h2 h3 h4 h5 h6 h7 h8 h9 h10 h11 h12 h13 h14 x1 h0f2 h0f6 h0f8 h0f11 h1f0 h1f1 h1f2) (v := h1f2) hQ hx hb hr hlocks hS (Nat.le_of_ble_eq_true rfl) (Nat.le_of_ble_eq_true rfl) dX10_seed_17 (⟨rfl, hT⟩)
abbrev Rm_cX11_seed_ac589 : Room := { frames := 0, cells := 0, slots := 0, locals := 0 }
abbrev B_cX11_seed_ac589 (D : va_G) (k : Nat → ClassId) (h0 h1 h2 h3 h4 h5 h6 h7 h8 h9 h10 h11 h12 h13 h14 h15 h16 h17 h18 h19 h20 h21 : Nat) (x1 : Int32) (h0f0 : Int32) (h0f1 : Int32) (h0f2 : Int32) (h0f3 : Int32) (h0f4 : Int32) (h0f5 : Int32) (h0f8 : Int32) (h0f9 : Int32) (h0f17 : Int32) (h0f18 : Int32) (h0f19 : Int32) (h0f24 : Int32) (h0f25 : Int32) (h0f30 : Int32) (h0f31 : Int32) (A : Nat → Prop) (r : Int32) (H : Heap) : Prop := h0f2 = r ∧ TP D A [(h0, ob 8 [.int h0f0, .int h0f1, .int x1, .int h0f3, .int h0f4, .int h0f5, .ref h1, .ref h2, .int h0f8, .int h0f9, .ref h3, .ref h4, .ref h5, .ref h6, .ref h7, .ref h8, .ref h9, .int h0f17, .int h0f18, .int h0f19, .ref h10, .ref h11, .ref h12, .ref h13, .int h0f24, .int h0f25, .ref h14, .ref h15, .ref h16, .ref h17, .int h0f30, .int h0f31, .ref h18, .ref h19, .ref h20, .ref h21])] H
set_option maxHeartbeats 4000000 in
set_option maxRecDepth 100000 in
theorem cX11_seed_ac589 (l : Launch) (D : va_G) (k : Nat → ClassId) (sz : Nat) (h0 h1 h2 h3 h4 h5 h6 h7 h8 h9 h10 h11 h12 h13 h14 h15 h16 h17 h18 h19 h20 h21 : Nat) (x1 : Int32) (h0f0 : Int32) (h0f1 : Int32) (h0f2 : Int32) (h0f3 : Int32) (h0f4 : Int32) (h0f5 : Int32) (h0f8 : Int32) (h0f9 : Int32) (h0f17 : Int32) (h0f18 : Int32) (h0f19 : Int32) (h0f24 : Int32) (h0f25 : Int32) (h0f30 : Int32) (h0f31 : Int32) (b_h0f0 : 1 ≤ h0f0.toInt ∧ h0f0.toInt ≤ 3) (b_h0f1 : 0 ≤ h0f1.toInt ∧ h0f1.toInt ≤ 4) (b_h0f3 : 0 ≤ h0f3.toInt ∧ h0f3.toInt ≤ 3) (b_h0f4 : 0 ≤ h0f4.toInt ∧ h0f4.toInt ≤ 4) (b_h0f8 : 0 ≤ h0f8.toInt ∧ h0f8.toInt ≤ 1) (b_h0f9 : 0 ≤ h0f9.toInt ∧ h0f9.toInt ≤ 1) (b_h0f17 : 0 ≤ h0f17.toInt ∧ h0f17.toInt ≤ 120) (b_h0f18 : 0 ≤ h0f18.toInt ∧ h0f18.toInt ≤ 120) (b_h0f19 : 0 ≤ h0f19.toInt ∧ h0f19.toInt ≤ 4) (b_h0f24 : 0 ≤ h0f24.toInt ∧ h0f24.toInt ≤ 100) (b_h0f25 : 0 ≤ h0f25.toInt ∧ h0f25.toInt ≤ 1) (b_h0f30 : 0 ≤ h0f30.toInt ∧ h0f30.toInt ≤ 60) (b_h0f31 : 0 ≤ h0f31.toInt ∧ h0f31.toInt ≤ 1) (i_0 : h0f8.toInt ≤ h0f3.toInt) (i_1 : h0f9.toInt ≤ h0f24.toInt) : Met l yX11_seed (Cond.code yX11_seed cX11_seed 3 (some .int) :: uw) Rm_cX11_seed_ac589 (pT D k sz [.ref h0, .int x1] [(h0, ob 8 [.int h0f0, .int h0f1, .int h0f2, .int h0f3, .int h0f4, .int h0f5, .ref h1, .ref h2, .int h0f8, .int h0f9, .ref h3, .ref h4, .ref h5, .ref h6, .ref h7, .ref h8, .ref h9, .int h0f17, .int h0f18, .int h0f19, .ref h10, .ref h11, .ref h12, .ref h13, .int h0f24, .int h0f25, .ref h14, .ref h15, .ref h16, .ref h17, .int h0f30, .int h0f31, .ref h18, .ref h19, .ref h20, .ref h21])]) (qI (B_cX11_seed_ac589 D k h0 h1 h2 h3 h4 h5 h6 h7 h8 h9 h10 h11 h12 h13 h14 h15 h16 h17 h18 h19 h20 h21 x1 h0f0 h0f1 h0f2 h0f3 h0f4 h0f5 h0f8 h0f9 h0f17 h0f18 h0f19 h0f24 h0f25 h0f30 h0f31 (zA [h0] sz)) (zA [h0] sz)) 0 0 (zA [h0] sz) := by
  refine tz_begin (as := [h0]) (Qc := fun A => qI (B_cX11_seed_ac589 D k h0 h1 h2 h3 h4 h5 h6 h7 h8 h9 h10 h11 h12 h13 h14 h15 h16 h17 h18 h19 h20 h21 x1 h0f0 h0f1 h0f2 h0f3 h0f4 h0f5 h0f8 h0f9 h0f17 h0f18 h0f19 h0f24 h0f25 h0f30 h0f31 A) A) (by decide +kernel) rfl (Nat.le_of_ble_eq_true rfl) ?_
  intro p e s m args below meth c ls A Q hx hb hr hml hown hlocks hin hU hK hT hS hA hl hQ
  have hl : lv_has ls 3 [(0, .ref h0), (1, .int x1)] := hl
  have hT : TP D A [(h0, ob 8 [.int h0f0, .int h0f1, .int h0f2, .int h0f3, .int h0f4, .int h0f5, .ref h1, .ref h2, .int h0f8, .int h0f9, .ref h3, .ref h4, .ref h5, .ref h6, .ref h7, .ref h8, .ref h9, .int h0f17, .int h0f18, .int h0f19, .ref h10, .ref h11, .ref h12, .ref h13, .int h0f24, .int h0f25, .ref h14, .ref h15, .ref h16, .ref h17, .int h0f30, .int h0f31, .ref h18, .ref h19, .ref h20, .ref h21])] s.heap := hT
  refine lv_aload_n hx hb dX11_seed_0 rfl (lv_at hl 0 rfl) ?_
  refine tz_get (ci := 8) (v := .int h0f2) (C := RX11) (F := TX11) (N := 36) hx hb hU iX11 hown hK hT 0 rfl rfl 2 (by decide) w787 (fun _ h9 => h9) rfl dX11_seed_1 ?_
  refine lv_istore_n (lv' := [(2, .int h0f2), (0, .ref h0), (1, .int x1)]) hx hb dX11_seed_4 rfl hl (by decide) rfl (fun ls hl => ?_)
  refine lv_aload_n hx hb dX11_seed_5 rfl (lv_at hl 1 rfl) ?_
  refine lv_iload_n hx hb dX11_seed_6 rfl (lv_at hl 2 rfl) ?_
  refine tz_put (ci := 8) (v := .int x1) (ty := .int) (C := RX11) (F := TX11) (N := 36) hx hb hU iX11 tyX11 tyX11_ok nmX11 hown hK hT hS 0 rfl rfl 2 (by decide) w787 (fun _ h9 => h9) rfl (by decide +kernel) rfl rfl (Nat.le_of_ble_eq_true rfl) dX11_seed_7 (fun H locs hT hS => ?_)
  have hT : TP D A [(h0, ob 8 [.int h0f0, .int h0f1, .int x1, .int h0f3, .int h0f4, .int h0f5, .ref h1, .ref h2, .int h0f8, .int h0f9, .ref h3, .ref h4, .ref h5, .ref h6, .ref h7, .ref h8, .ref h9, .int h0f17, .int h0f18, .int h0f19, .ref h10, .ref h11, .ref h12, .ref h13, .int h0f24, .int h0f25, .ref h14, .ref h15, .ref h16, .ref h17, .int h0f30, .int h0f31, .ref h18, .ref h19, .ref h20, .ref h21])] _ := hT
  refine lv_iload_n hx hb dX11_seed_10 rfl (lv_at hl 0 rfl) ?_
  exact tz_retI (B := B_cX11_seed_ac589 D k h0 h1 h2 h3 h4 h5 h6 h7 h8 h9 h10 h11 h12 h13 h14 h15 h16 h17 h18 h19 h20 h21 x1 h0f0 h0f1 h0f2 h0f3 h0f4 h0f5 h0f8 h0f9 h0f17 h0f18 h0f19 h0f24 h0f25 h0f30 h0f31) (v := h0f2) hQ hx hb hr hlocks hS (Nat.le_of_ble_eq_true rfl) (Nat.le_of_ble_eq_true rfl) dX11_seed_11 (⟨rfl, hT⟩)
abbrev Rm_cX5_draw_2ac8d : Room := { frames := 0, cells := 0, slots := 0, locals := 0 }
abbrev B_cX5_draw_2ac8d (D : va_G) (k : Nat → ClassId) (h0 h1 : Nat) (h0f0 : Int32) (h0f1 : Int32) (h0f2 : Int32) (A : Nat → Prop) (r : Int32) (H : Heap) : Prop := ∃ o0 : Int32, (0 ≤ r.toInt ∧ r.toInt ≤ 65535) ∧ TP D A [(h0, ob 4 [.int h0f0, .int h0f1, .int o0, .ref h1])] H
set_option maxHeartbeats 4000000 in
set_option maxRecDepth 100000 in
theorem cX5_draw_2ac8d (l : Launch) (D : va_G) (k : Nat → ClassId) (sz : Nat) (h0 h1 : Nat) (h0f0 : Int32) (h0f1 : Int32) (h0f2 : Int32) (b_h0f0 : 1 ≤ h0f0.toInt ∧ h0f0.toInt ≤ 3) (b_h0f1 : 0 ≤ h0f1.toInt ∧ h0f1.toInt ≤ 3) : Met l yX5_draw (Cond.code yX5_draw cX5_draw 1 (some .int) :: uw) Rm_cX5_draw_2ac8d (pT D k sz [.ref h0] [(h0, ob 4 [.int h0f0, .int h0f1, .int h0f2, .ref h1])]) (qI (B_cX5_draw_2ac8d D k h0 h1 h0f0 h0f1 h0f2 (zA [h0] sz)) (zA [h0] sz)) 0 0 (zA [h0] sz) := by
  refine tz_begin (as := [h0]) (Qc := fun A => qI (B_cX5_draw_2ac8d D k h0 h1 h0f0 h0f1 h0f2 A) A) (by decide +kernel) rfl (Nat.le_of_ble_eq_true rfl) ?_
  intro p e s m args below meth c ls A Q hx hb hr hml hown hlocks hin hU hK hT hS hA hl hQ
  have hl : lv_has ls 1 [(0, .ref h0)] := hl
  have hT : TP D A [(h0, ob 4 [.int h0f0, .int h0f1, .int h0f2, .ref h1])] s.heap := hT
  refine lv_aload_n hx hb dX5_draw_0 rfl (lv_at hl 0 rfl) ?_
  refine lv_aload_n hx hb dX5_draw_1 rfl (lv_at hl 0 rfl) ?_
  refine tz_get (ci := 4) (v := .int h0f2) (C := RX5) (F := TX5) (N := 4) hx hb hU iX5 hown hK hT 0 rfl rfl 2 (by decide) w98 (fun _ h9 => h9) rfl dX5_draw_2 ?_
  refine lv_ldc hx hb hown (hU _ w725) dX5_draw_5 ?_
  refine lv_imul hx hb dX5_draw_7 (lv_topi (fun v1 e_v1 => ?_))
  refine lv_sipush (v := 12345) hx hb dX5_draw_8 (by decide) ?_
  refine lv_iadd hx hb dX5_draw_11 (lv_topi (fun v2 e_v2 => ?_))
  refine tz_put (ci := 4) (v := .int v2) (ty := .int) (C := RX5) (F := TX5) (N := 4) hx hb hU iX5 tyX5 tyX5_ok nmX5 hown hK hT hS 0 rfl rfl 2 (by decide) w98 (fun _ h9 => h9) rfl (by decide +kernel) rfl rfl (Nat.le_of_ble_eq_true rfl) dX5_draw_12 (fun H locs hT hS => ?_)
  have hT : TP D A [(h0, ob 4 [.int h0f0, .int h0f1, .int v2, .ref h1])] _ := hT
  refine lv_aload_n hx hb dX5_draw_15 rfl (lv_at hl 0 rfl) ?_
  refine tz_get (ci := 4) (v := .int v2) (C := RX5) (F := TX5) (N := 4) hx hb hU iX5 hown hK hT 0 rfl rfl 2 (by decide) w98 (fun _ h9 => h9) rfl dX5_draw_16 ?_
  refine lv_bipush (v := 16) hx hb dX5_draw_19 (by decide) ?_
  refine lv_iushr hx hb dX5_draw_21 rfl (lv_topi (fun v3 e_v3 => ?_))
  have e_v3 := ai_ushr16 e_v3
  exact tz_retI (B := B_cX5_draw_2ac8d D k h0 h1 h0f0 h0f1 h0f2) (v := v3) hQ hx hb hr hlocks hS (Nat.le_of_ble_eq_true rfl) (Nat.le_of_ble_eq_true rfl) dX5_draw_22 (⟨v2, (by omega), hT⟩)
abbrev Rm_cX10_lot_ac56e : Room := { frames := 4, cells := 0, slots := 0, locals := 91 }
abbrev B_cX10_lot_ac56e (D : va_G) (k : Nat → ClassId) (h0 h1 h7 h11 h13 h2 h3 h4 h5 h6 h8 h9 h10 h12 : Nat) (x1 : Int32) (h0f2 : Int32) (h0f6 : Int32) (h0f8 : Int32) (h0f11 : Int32) (h1f0 : Int32) (h1f1 : Int32) (h1f2 : Int32) (A : Nat → Prop) (r : Int32) (H : Heap) : Prop := ∃ o0 : Int32, ∃ o1 : Int32, ∃ o2 : Int32, ∃ o3 : Int32, (0 ≤ o0.toInt ∧ o0.toInt ≤ 1) ∧ (0 ≤ o1.toInt ∧ o1.toInt ≤ 1) ∧ (0 ≤ o2.toInt ∧ o2.toInt ≤ 4) ∧ ((-1) ≤ r.toInt ∧ r.toInt ≤ 4) ∧ TP D A [(h0, ob 7 [.ref h1, .ref h2, .int h0f2, .ref h3, .ref h4, .ref h5, .int o0, .ref h6, .int o1, .null, .ref h7, .int h0f11, .ref h8, .ref h9, .ref h10, .ref h11, .ref h12]), (h1, ob 4 [.int h1f0, .int o2, .int o3, .ref h13]), (h7, aI (k 0) 8 anI), (h11, aJ (k 1) 9 anJ), (h13, aJ (k 1) 36 anJ)] H
set_option maxHeartbeats 4000000 in
set_option maxRecDepth 100000 in
theorem cX10_lot_ac56e (l : Launch) (D : va_G) (k : Nat → ClassId) (sz : Nat) (h0 h1 h7 h11 h13 h2 h3 h4 h5 h6 h8 h9 h10 h12 : Nat) (x1 : Int32) (h0f2 : Int32) (h0f6 : Int32) (h0f8 : Int32) (h0f11 : Int32) (h1f0 : Int32) (h1f1 : Int32) (h1f2 : Int32) (b_h0f2 : 0 ≤ h0f2.toInt ∧ h0f2.toInt ≤ 1) (b_h0f6 : 0 ≤ h0f6.toInt ∧ h0f6.toInt ≤ 1) (b_h0f8 : 0 ≤ h0f8.toInt ∧ h0f8.toInt ≤ 1) (b_h0f11 : 0 ≤ h0f11.toInt ∧ h0f11.toInt ≤ 200) (b_h1f0 : 1 ≤ h1f0.toInt ∧ h1f0.toInt ≤ 3) (b_h1f1 : 0 ≤ h1f1.toInt ∧ h1f1.toInt ≤ 4) : Met l yX10_lot (Cond.code yX10_lot cX10_lot 6 (some .int) :: uw) Rm_cX10_lot_ac56e (pT D k sz [.ref h0, .int x1] [(h0, ob 7 [.ref h1, .ref h2, .int h0f2, .ref h3, .ref h4, .ref h5, .int h0f6, .ref h6, .int h0f8, .null, .ref h7, .int h0f11, .ref h8, .ref h9, .ref h10, .ref h11, .ref h12]), (h1, ob 4 [.int h1f0, .int h1f1, .int h1f2, .ref h13]), (h7, aI (k 0) 8 anI), (h11, aJ (k 1) 9 anJ), (h13, aJ (k 1) 36 anJ)]) (qI (B_cX10_lot_ac56e D k h0 h1 h7 h11 h13 h2 h3 h4 h5 h6 h8 h9 h10 h12 x1 h0f2 h0f6 h0f8 h0f11 h1f0 h1f1 h1f2 (zA [h0, h1, h7, h11, h13] sz)) (zA [h0, h1, h7, h11, h13] sz)) 0 0 (zA [h0, h1, h7, h11, h13] sz) := by
  refine tz_begin (as := [h0, h1, h7, h11, h13]) (Qc := fun A => qI (B_cX10_lot_ac56e D k h0 h1 h7 h11 h13 h2 h3 h4 h5 h6 h8 h9 h10 h12 x1 h0f2 h0f6 h0f8 h0f11 h1f0 h1f1 h1f2 A) A) (by decide +kernel) rfl (Nat.le_of_ble_eq_true rfl) ?_
  intro p e s m args below meth c ls A Q hx hb hr hml hown hlocks hin hU hK hT hS hA hl hQ
  have hl : lv_has ls 6 [(0, .ref h0), (1, .int x1)] := hl
  have hT : TP D A [(h0, ob 7 [.ref h1, .ref h2, .int h0f2, .ref h3, .ref h4, .ref h5, .int h0f6, .ref h6, .int h0f8, .null, .ref h7, .int h0f11, .ref h8, .ref h9, .ref h10, .ref h11, .ref h12]), (h1, ob 4 [.int h1f0, .int h1f1, .int h1f2, .ref h13]), (h7, aI (k 0) 8 anI), (h11, aJ (k 1) 9 anJ), (h13, aJ (k 1) 36 anJ)] s.heap := hT
  refine lv_iload_n hx hb dX10_lot_0 rfl (lv_at hl 1 rfl) ?_
  refine lv_iconst (v := 1) hx hb dX10_lot_1 (by decide) ?_
  refine lv_icmp_lt (tgt := 10) hx hb dX10_lot_2 (by decide) (fun c_1 => ?_) (fun c_1 => ?_)
  · skip
    have c_1 := ni_lt c_1 rfl li_1
    refine lv_iconst (v := (-1)) hx hb dX10_lot_10 (by decide) ?_
    exact tz_retI (B := B_cX10_lot_ac56e D k h0 h1 h7 h11 h13 h2 h3 h4 h5 h6 h8 h9 h10 h12 x1 h0f2 h0f6 h0f8 h0f11 h1f0 h1f1 h1f2) (v := (-1)) hQ hx hb hr hlocks hS (Nat.le_of_ble_eq_true rfl) (Nat.le_of_ble_eq_true rfl) dX10_lot_11 (⟨h0f6, h0f8, h1f1, h1f2, (by have := li_m1; omega), (by have := li_m1; omega), (by have := li_m1; omega), (by have := li_m1; omega), hT⟩)
  · skip
    have c_1 := ni_nlt c_1 rfl li_1
    refine lv_iload_n hx hb dX10_lot_5 rfl (lv_at hl 1 rfl) ?_
    refine lv_iconst (v := 4) hx hb dX10_lot_6 (by decide) ?_
    refine lv_icmp_le (tgt := 12) hx hb dX10_lot_7 (by decide) (fun c_2 => ?_) (fun c_2 => ?_)
    · skip
      have c_2 := ni_le c_2 rfl li_4
      refine lv_iconst (v := 0) hx hb dX10_lot_12 (by decide) ?_
      refine lv_istore_n (lv' := [(2, .int 0), (0, .ref h0), (1, .int x1)]) hx hb dX10_lot_13 rfl hl (by decide) rfl (fun ls hl => ?_)
      have lp14_23 : ∀ (n : Nat) (y18 : Int32) (y19 : Int32) (y20 : Int32) (y21 : Int32) (y22 : Int32) (H : Heap) (locs : List Loc) (ls : Array Slot), (0 ≤ y18.toInt ∧ y18.toInt ≤ 4) → (0 ≤ y19.toInt ∧ y19.toInt ≤ 1) → (0 ≤ y20.toInt ∧ y20.toInt ≤ 1) → (0 ≤ y21.toInt ∧ y21.toInt ≤ 4) → (x1.toInt + (-1) * y18.toInt + 1).toNat < n → TP D A [(h0, ob 7 [.ref h1, .ref h2, .int h0f2, .ref h3, .ref h4, .ref h5, .int y19, .ref h6, .int y20, .null, .ref h7, .int h0f11, .ref h8, .ref h9, .ref h10, .ref h11, .ref h12]), (h1, ob 4 [.int h1f0, .int y21, .int y22, .ref h13]), (h7, aI (k 0) 8 anI), (h11, aJ (k 1) 9 anJ), (h13, aJ (k 1) 36 anJ)] H → va_S A s.heap H locs → lv_has ls 6 [(0, .ref h0), (1, .int x1), (2, .int y18)] → W p l e Rm_cX10_lot_ac56e s m args below meth c H locs 0 0 Q (F0 m 14 ls []) := by
        intro n
        induction n with
        | zero => intro y18 y19 y20 y21 y22 H locs ls b_y18 b_y19 b_y20 b_y21 hm hT hS hl; exact absurd hm (Nat.not_lt_zero _)
        | succ n ih =>
          intro y18 y19 y20 y21 y22 H locs ls b_y18 b_y19 b_y20 b_y21 hm hT hS hl
          have ih14_23 := ih
          clear ih
          refine lv_iload_n hx hb dX10_lot_14 rfl (lv_at hl 2 rfl) ?_
          refine lv_iload_n hx hb dX10_lot_15 rfl (lv_at hl 1 rfl) ?_
          refine lv_icmp_ge (tgt := 101) hx hb dX10_lot_16 (by decide) (fun c_24 => ?_) (fun c_24 => ?_)
          · skip
            have c_24 := ni_le c_24 rfl rfl
            refine lv_iload_n hx hb dX10_lot_101 rfl (lv_at hl 2 rfl) ?_
            exact tz_retI (B := B_cX10_lot_ac56e D k h0 h1 h7 h11 h13 h2 h3 h4 h5 h6 h8 h9 h10 h12 x1 h0f2 h0f6 h0f8 h0f11 h1f0 h1f1 h1f2) (v := y18) hQ hx hb hr hlocks hS (Nat.le_of_ble_eq_true rfl) (Nat.le_of_ble_eq_true rfl) dX10_lot_102 (⟨y19, y20, y21, y22, (by omega), (by omega), (by omega), (by omega), hT⟩)
          · skip
            have c_24 := ni_nle c_24 rfl rfl
            refine lv_aload_n hx hb dX10_lot_19 rfl (lv_at hl 0 rfl) ?_
            refine tz_get (ci := 7) (v := .ref h1) (C := RX10) (F := TX10) (N := 17) hx hb hU iX10 hown hK hT 0 rfl rfl 0 (by decide) w249 (fun _ h9 => h9) rfl dX10_lot_20 ?_
            refine tcI (Tc := [(h1, ob 4 [.int h1f0, .int y21, .int y22, .ref h13])]) (Tr := [(h0, ob 7 [.ref h1, .ref h2, .int h0f2, .ref h3, .ref h4, .ref h5, .int y19, .ref h6, .int y20, .null, .ref h7, .int h0f11, .ref h8, .ref h9, .ref h10, .ref h11, .ref h12]), (h7, aI (k 0) 8 anI), (h11, aJ (k 1) 9 anJ), (h13, aJ (k 1) 36 anJ)]) (as := [h1]) (zcV (q0 := 1) (ci := 4) (As := []) (rest := []) (Tc := [(h1, ob 4 [.int h1f0, .int y21, .int y22, .ref h13])]) hx hb hml hown hU hK hT rfl rfl [1] rfl (by decide) (cX5_isFull_cc49c l D k _ h1 h13 h1f0 y21 y22 (by omega) (by omega)) w326 w323 w324 w325 w64 hdX5_isFull ⟨rfl, rfl⟩ ⟨Nat.le_of_ble_eq_true rfl, Nat.le_of_ble_eq_true rfl⟩ rfl hl.1 (Nat.le_of_ble_eq_true rfl) dX10_lot_23 ⟨Nat.le_of_ble_eq_true rfl, Nat.le_of_ble_eq_true rfl⟩) hT hS hA [1] [0, 2, 3, 4] rfl rfl rfl (by decide) (by decide) (fun r25 H locs hB J hS => ?_)
            rcases hB with ⟨c_26, rfl, hT1⟩ | ⟨rfl, hT1⟩
            · skip
              have hT := J _ hT1
              have hT : TP D A [(h0, ob 7 [.ref h1, .ref h2, .int h0f2, .ref h3, .ref h4, .ref h5, .int y19, .ref h6, .int y20, .null, .ref h7, .int h0f11, .ref h8, .ref h9, .ref h10, .ref h11, .ref h12]), (h7, aI (k 0) 8 anI), (h11, aJ (k 1) 9 anJ), (h13, aJ (k 1) 36 anJ), (h1, ob 4 [.int h1f0, .int y21, .int y22, .ref h13])] _ := hT
              refine lv_if_ne (tgt := 101) hx hb dX10_lot_26 (by decide) (fun cc => absurd (by decide +kernel) cc) (fun _ => ?_)
              refine lv_aload_n hx hb dX10_lot_29 rfl (lv_at hl 0 rfl) ?_
              refine tz_get (ci := 7) (v := .ref h1) (C := RX10) (F := TX10) (N := 17) hx hb hU iX10 hown hK hT 0 rfl rfl 0 (by decide) w249 (fun _ h9 => h9) rfl dX10_lot_30 ?_
              refine tcI (Tc := [(h1, ob 4 [.int h1f0, .int y21, .int y22, .ref h13])]) (Tr := [(h0, ob 7 [.ref h1, .ref h2, .int h0f2, .ref h3, .ref h4, .ref h5, .int y19, .ref h6, .int y20, .null, .ref h7, .int h0f11, .ref h8, .ref h9, .ref h10, .ref h11, .ref h12]), (h7, aI (k 0) 8 anI), (h11, aJ (k 1) 9 anJ), (h13, aJ (k 1) 36 anJ)]) (as := [h1]) (zcV (q0 := 4) (ci := 4) (As := []) (rest := []) (Tc := [(h1, ob 4 [.int h1f0, .int y21, .int y22, .ref h13])]) hx hb hml hown hU hK hT rfl rfl [4] rfl (by decide) (cX5_draw_2ac8d l D k _ h1 h13 h1f0 y21 y22 (by omega) (by omega)) w724 w721 w722 w723 w64 hdX5_draw ⟨rfl, rfl⟩ ⟨Nat.le_of_ble_eq_true rfl, Nat.le_of_ble_eq_true rfl⟩ rfl hl.1 (Nat.le_of_ble_eq_true rfl) dX10_lot_33 ⟨Nat.le_of_ble_eq_true rfl, Nat.le_of_ble_eq_true rfl⟩) hT hS hA [4] [0, 1, 2, 3] rfl rfl rfl (by decide) (by decide) (fun r27 H locs hB J hS => ?_)
              obtain ⟨v28, b_r27, hT1⟩ := hB
              have hT := J _ hT1
              have hT : TP D A [(h0, ob 7 [.ref h1, .ref h2, .int h0f2, .ref h3, .ref h4, .ref h5, .int y19, .ref h6, .int y20, .null, .ref h7, .int h0f11, .ref h8, .ref h9, .ref h10, .ref h11, .ref h12]), (h7, aI (k 0) 8 anI), (h11, aJ (k 1) 9 anJ), (h13, aJ (k 1) 36 anJ), (h1, ob 4 [.int h1f0, .int y21, .int v28, .ref h13])] _ := hT
              refine lv_aload_n hx hb dX10_lot_36 rfl (lv_at hl 0 rfl) ?_
              refine tz_get (ci := 7) (v := .ref h1) (C := RX10) (F := TX10) (N := 17) hx hb hU iX10 hown hK hT 0 rfl rfl 0 (by decide) w249 (fun _ h9 => h9) rfl dX10_lot_37 ?_
              refine tz_get (ci := 4) (v := .int h1f0) (C := RX5) (F := TX5) (N := 4) hx hb hU iX5 hown hK hT 4 rfl rfl 0 (by decide) w93 (fun _ h9 => h9) rfl dX10_lot_40 ?_
              refine lv_irem hx hb dX10_lot_43 (nz32 (y := h1f0.toInt) rfl (by omega)) (lv_topi (fun v29 e_v29 => ?_))
              have e_v29 := ai_remv e_v29 rfl rfl (by omega)
              refine lv_istore_n (lv' := [(3, .int v29), (0, .ref h0), (1, .int x1), (2, .int y18)]) hx hb dX10_lot_44 rfl hl (by decide) rfl (fun ls hl => ?_)
              refine lv_aload_n hx hb dX10_lot_45 rfl (lv_at hl 1 rfl) ?_
              refine tz_get (ci := 7) (v := .ref h1) (C := RX10) (F := TX10) (N := 17) hx hb hU iX10 hown hK hT 0 rfl rfl 0 (by decide) w249 (fun _ h9 => h9) rfl dX10_lot_46 ?_
              refine tcI (Tc := [(h1, ob 4 [.int h1f0, .int y21, .int v28, .ref h13])]) (Tr := [(h0, ob 7 [.ref h1, .ref h2, .int h0f2, .ref h3, .ref h4, .ref h5, .int y19, .ref h6, .int y20, .null, .ref h7, .int h0f11, .ref h8, .ref h9, .ref h10, .ref h11, .ref h12]), (h7, aI (k 0) 8 anI), (h11, aJ (k 1) 9 anJ), (h13, aJ (k 1) 36 anJ)]) (as := [h1]) (zcV (q0 := 4) (ci := 4) (As := []) (rest := []) (Tc := [(h1, ob 4 [.int h1f0, .int y21, .int v28, .ref h13])]) hx hb hml hown hU hK hT rfl rfl [4] rfl (by decide) (cX5_draw_2ac8d l D k _ h1 h13 h1f0 y21 v28 (by omega) (by omega)) w724 w721 w722 w723 w64 hdX5_draw ⟨rfl, rfl⟩ ⟨Nat.le_of_ble_eq_true rfl, Nat.le_of_ble_eq_true rfl⟩ rfl hl.1 (Nat.le_of_ble_eq_true rfl) dX10_lot_49 ⟨Nat.le_of_ble_eq_true rfl, Nat.le_of_ble_eq_true rfl⟩) hT hS hA [4] [0, 1, 2, 3] rfl rfl rfl (by decide) (by decide) (fun r30 H locs hB J hS => ?_)
              obtain ⟨v31, b_r30, hT1⟩ := hB
              have hT := J _ hT1
              have hT : TP D A [(h0, ob 7 [.ref h1, .ref h2, .int h0f2, .ref h3, .ref h4, .ref h5, .int y19, .ref h6, .int y20, .null, .ref h7, .int h0f11, .ref h8, .ref h9, .ref h10, .ref h11, .ref h12]), (h7, aI (k 0) 8 anI), (h11, aJ (k 1) 9 anJ), (h13, aJ (k 1) 36 anJ), (h1, ob 4 [.int h1f0, .int y21, .int v31, .ref h13])] _ := hT
              refine lv_aload_n hx hb dX10_lot_52 rfl (lv_at hl 1 rfl) ?_
              refine tz_get (ci := 7) (v := .ref h1) (C := RX10) (F := TX10) (N := 17) hx hb hU iX10 hown hK hT 0 rfl rfl 0 (by decide) w249 (fun _ h9 => h9) rfl dX10_lot_53 ?_
              refine tz_get (ci := 4) (v := .int h1f0) (C := RX5) (F := TX5) (N := 4) hx hb hU iX5 hown hK hT 4 rfl rfl 0 (by decide) w93 (fun _ h9 => h9) rfl dX10_lot_56 ?_
              refine lv_irem hx hb dX10_lot_59 (nz32 (y := h1f0.toInt) rfl (by omega)) (lv_topi (fun v32 e_v32 => ?_))
              have e_v32 := ai_remv e_v32 rfl rfl (by omega)
              refine lv_istore (lv' := [(4, .int v32), (3, .int v29), (0, .ref h0), (1, .int x1), (2, .int y18)]) hx hb dX10_lot_60 hl (by decide) rfl (fun ls hl => ?_)
              refine lv_aload_n hx hb dX10_lot_62 rfl (lv_at hl 2 rfl) ?_
              refine tz_get (ci := 7) (v := .ref h1) (C := RX10) (F := TX10) (N := 17) hx hb hU iX10 hown hK hT 0 rfl rfl 0 (by decide) w249 (fun _ h9 => h9) rfl dX10_lot_63 ?_
              refine tcI (Tc := [(h1, ob 4 [.int h1f0, .int y21, .int v31, .ref h13])]) (Tr := [(h0, ob 7 [.ref h1, .ref h2, .int h0f2, .ref h3, .ref h4, .ref h5, .int y19, .ref h6, .int y20, .null, .ref h7, .int h0f11, .ref h8, .ref h9, .ref h10, .ref h11, .ref h12]), (h7, aI (k 0) 8 anI), (h11, aJ (k 1) 9 anJ), (h13, aJ (k 1) 36 anJ)]) (as := [h1]) (zcV (q0 := 4) (ci := 4) (As := []) (rest := []) (Tc := [(h1, ob 4 [.int h1f0, .int y21, .int v31, .ref h13])]) hx hb hml hown hU hK hT rfl rfl [4] rfl (by decide) (cX5_draw_2ac8d l D k _ h1 h13 h1f0 y21 v31 (by omega) (by omega)) w724 w721 w722 w723 w64 hdX5_draw ⟨rfl, rfl⟩ ⟨Nat.le_of_ble_eq_true rfl, Nat.le_of_ble_eq_true rfl⟩ rfl hl.1 (Nat.le_of_ble_eq_true rfl) dX10_lot_66 ⟨Nat.le_of_ble_eq_true rfl, Nat.le_of_ble_eq_true rfl⟩) hT hS hA [4] [0, 1, 2, 3] rfl rfl rfl (by decide) (by decide) (fun r33 H locs hB J hS => ?_)
              obtain ⟨v34, b_r33, hT1⟩ := hB
              have hT := J _ hT1
              have hT : TP D A [(h0, ob 7 [.ref h1, .ref h2, .int h0f2, .ref h3, .ref h4, .ref h5, .int y19, .ref h6, .int y20, .null, .ref h7, .int h0f11, .ref h8, .ref h9, .ref h10, .ref h11, .ref h12]), (h7, aI (k 0) 8 anI), (h11, aJ (k 1) 9 anJ), (h13, aJ (k 1) 36 anJ), (h1, ob 4 [.int h1f0, .int y21, .int v34, .ref h13])] _ := hT
              refine lv_iconst (v := 5) hx hb dX10_lot_69 (by decide) ?_
              refine lv_irem hx hb dX10_lot_70 (by decide +kernel) (lv_topi (fun v35 e_v35 => ?_))
              have e_v35 := ai_rem e_v35 rfl li_5 (by omega)
              refine lv_iconst (v := 2) hx hb dX10_lot_71 (by decide) ?_
              refine lv_isub hx hb dX10_lot_72 (lv_topi (fun v36 e_v36 => ?_))
              have e_v36 := ai_sub e_v36 rfl li_2 (by omega)
              refine lv_istore (lv' := [(5, .int v36), (4, .int v32), (3, .int v29), (0, .ref h0), (1, .int x1), (2, .int y18)]) hx hb dX10_lot_73 hl (by decide) rfl (fun ls hl => ?_)
              refine lv_aload_n hx hb dX10_lot_75 rfl (lv_at hl 3 rfl) ?_
              refine lv_iload_n hx hb dX10_lot_76 rfl (lv_at hl 2 rfl) ?_
              refine lv_iload hx hb dX10_lot_77 (lv_at hl 1 rfl) ?_
              refine lv_iload_n hx hb dX10_lot_79 rfl (lv_at hl 2 rfl) ?_
              refine lv_iload hx hb dX10_lot_80 (lv_at hl 1 rfl) ?_
              refine lv_icmp_ne (tgt := 89) hx hb dX10_lot_82 (by decide) (fun c_37 => ?_) (fun c_37 => ?_)
              · skip
                have c_37 := ni_ne c_37 rfl rfl
                refine lv_iload hx hb dX10_lot_89 (lv_at hl 0 rfl) ?_
                refine tcI (Tc := [(h0, ob 7 [.ref h1, .ref h2, .int h0f2, .ref h3, .ref h4, .ref h5, .int y19, .ref h6, .int y20, .null, .ref h7, .int h0f11, .ref h8, .ref h9, .ref h10, .ref h11, .ref h12]), (h1, ob 4 [.int h1f0, .int y21, .int v34, .ref h13]), (h7, aI (k 0) 8 anI), (h11, aJ (k 1) 9 anJ), (h13, aJ (k 1) 36 anJ)]) (Tr := []) (as := [h0, h1, h7, h11, h13]) (zcV (q0 := 0) (ci := 7) (As := [.int v29, .int v32, .int v36]) (rest := []) (Tc := [(h0, ob 7 [.ref h1, .ref h2, .int h0f2, .ref h3, .ref h4, .ref h5, .int y19, .ref h6, .int y20, .null, .ref h7, .int h0f11, .ref h8, .ref h9, .ref h10, .ref h11, .ref h12]), (h1, ob 4 [.int h1f0, .int y21, .int v34, .ref h13]), (h7, aI (k 0) 8 anI), (h11, aJ (k 1) 9 anJ), (h13, aJ (k 1) 36 anJ)]) hx hb hml hown hU hK hT rfl rfl [0, 4, 1, 2, 3] rfl (by decide) (cX10_addUnit_1025d l D k _ h0 h1 h7 h11 h13 h2 h3 h4 h5 h6 h8 h9 h10 h12 v29 v32 v36 h0f2 y19 y20 h0f11 h1f0 y21 v34 (by omega) (by omega) (by omega) (by omega) (by omega) (by omega) (by omega) (by omega)) w330 w327 w329 w1 w63 hdX10_addUnit ⟨rfl, rfl⟩ ⟨Nat.le_of_ble_eq_true rfl, Nat.le_of_ble_eq_true rfl⟩ rfl hl.1 (Nat.le_of_ble_eq_true rfl) dX10_lot_91 ⟨Nat.le_of_ble_eq_true rfl, Nat.le_of_ble_eq_true rfl⟩) hT hS hA [0, 4, 1, 2, 3] [] rfl rfl rfl (by decide) (by decide) (fun r38 H locs hB J hS => ?_)
                obtain ⟨v39, b_v39, b_r38, hT1⟩ := hB
                have hT := J _ hT1
                have hT : TP D A [(h0, ob 7 [.ref h1, .ref h2, .int h0f2, .ref h3, .ref h4, .ref h5, .int 0, .ref h6, .int 0, .null, .ref h7, .int h0f11, .ref h8, .ref h9, .ref h10, .ref h11, .ref h12]), (h1, ob 4 [.int h1f0, .int v39, .int v34, .ref h13]), (h7, aI (k 0) 8 anI), (h11, aJ (k 1) 9 anJ), (h13, aJ (k 1) 36 anJ)] _ := hT
                refine lv_pop hx hb dX10_lot_94 rfl ?_
                obtain ⟨v40, e_v40⟩ : ∃ x : Int32, x = y18 + Int32.ofInt 1 := ⟨_, rfl⟩
                have f_v40 := e_v40.symm
                have e_v40 : v40.toInt = y18.toInt + 1 := ai_add e_v40 rfl (show (Int32.ofInt 1).toInt = 1 from (by decide +kernel)) (by omega)
                refine lv_iinc (v := v40) (lv' := [(2, .int v40), (5, .int v36), (4, .int v32), (3, .int v29), (0, .ref h0), (1, .int x1)]) hx hb dX10_lot_95 hl (k := 5) rfl f_v40 (by decide) rfl (fun ls hl => ?_)
                refine lv_goto (tgt := 14) hx hb dX10_lot_98 (by decide) ?_
                exact ih14_23 v40 (0) (0) v39 v34 _ _ _ (by have := li_0; omega) (by have := li_0; omega) (by have := li_0; omega) (by have := li_0; omega)  (by have := li_0; omega) hT hS (lv_sub hl [4, 5, 0] rfl)
              · skip
                have c_37 := ni_eq c_37 rfl rfl
                refine lv_iconst (v := (-1)) hx hb dX10_lot_85 (by decide) ?_
                refine lv_goto (tgt := 91) hx hb dX10_lot_86 (by decide) ?_
                have q_q42 := li_m1
                refine tcI (Tc := [(h0, ob 7 [.ref h1, .ref h2, .int h0f2, .ref h3, .ref h4, .ref h5, .int y19, .ref h6, .int y20, .null, .ref h7, .int h0f11, .ref h8, .ref h9, .ref h10, .ref h11, .ref h12]), (h1, ob 4 [.int h1f0, .int y21, .int v34, .ref h13]), (h7, aI (k 0) 8 anI), (h11, aJ (k 1) 9 anJ), (h13, aJ (k 1) 36 anJ)]) (Tr := []) (as := [h0, h1, h7, h11, h13]) (zcV (q0 := 0) (ci := 7) (As := [.int v29, .int v32, .int (-1)]) (rest := []) (Tc := [(h0, ob 7 [.ref h1, .ref h2, .int h0f2, .ref h3, .ref h4, .ref h5, .int y19, .ref h6, .int y20, .null, .ref h7, .int h0f11, .ref h8, .ref h9, .ref h10, .ref h11, .ref h12]), (h1, ob 4 [.int h1f0, .int y21, .int v34, .ref h13]), (h7, aI (k 0) 8 anI), (h11, aJ (k 1) 9 anJ), (h13, aJ (k 1) 36 anJ)]) hx hb hml hown hU hK hT rfl rfl [0, 4, 1, 2, 3] rfl (by decide) (cX10_addUnit_1025d l D k _ h0 h1 h7 h11 h13 h2 h3 h4 h5 h6 h8 h9 h10 h12 v29 v32 ((-1)) h0f2 y19 y20 h0f11 h1f0 y21 v34 (by omega) (by omega) (by omega) (by omega) (by omega) (by omega) (by omega) (by omega)) w330 w327 w329 w1 w63 hdX10_addUnit ⟨rfl, rfl⟩ ⟨Nat.le_of_ble_eq_true rfl, Nat.le_of_ble_eq_true rfl⟩ rfl hl.1 (Nat.le_of_ble_eq_true rfl) dX10_lot_91 ⟨Nat.le_of_ble_eq_true rfl, Nat.le_of_ble_eq_true rfl⟩) hT hS hA [0, 4, 1, 2, 3] [] rfl rfl rfl (by decide) (by decide) (fun r41 H locs hB J hS => ?_)
                obtain ⟨v43, b_v43, b_r41, hT1⟩ := hB
                have hT := J _ hT1
                have hT : TP D A [(h0, ob 7 [.ref h1, .ref h2, .int h0f2, .ref h3, .ref h4, .ref h5, .int 0, .ref h6, .int 0, .null, .ref h7, .int h0f11, .ref h8, .ref h9, .ref h10, .ref h11, .ref h12]), (h1, ob 4 [.int h1f0, .int v43, .int v34, .ref h13]), (h7, aI (k 0) 8 anI), (h11, aJ (k 1) 9 anJ), (h13, aJ (k 1) 36 anJ)] _ := hT
                refine lv_pop hx hb dX10_lot_94 rfl ?_
                obtain ⟨v44, e_v44⟩ : ∃ x : Int32, x = y18 + Int32.ofInt 1 := ⟨_, rfl⟩
                have f_v44 := e_v44.symm
                have e_v44 : v44.toInt = y18.toInt + 1 := ai_add e_v44 rfl (show (Int32.ofInt 1).toInt = 1 from (by decide +kernel)) (by omega)
                refine lv_iinc (v := v44) (lv' := [(2, .int v44), (5, .int v36), (4, .int v32), (3, .int v29), (0, .ref h0), (1, .int x1)]) hx hb dX10_lot_95 hl (k := 5) rfl f_v44 (by decide) rfl (fun ls hl => ?_)
                refine lv_goto (tgt := 14) hx hb dX10_lot_98 (by decide) ?_
                exact ih14_23 v44 (0) (0) v43 v34 _ _ _ (by have := li_0; omega) (by have := li_0; omega) (by have := li_0; omega) (by have := li_0; omega)  (by have := li_0; omega) hT hS (lv_sub hl [4, 5, 0] rfl)
            · skip
              have hT := J _ hT1
              have hT : TP D A [(h0, ob 7 [.ref h1, .ref h2, .int h0f2, .ref h3, .ref h4, .ref h5, .int y19, .ref h6, .int y20, .null, .ref h7, .int h0f11, .ref h8, .ref h9, .ref h10, .ref h11, .ref h12]), (h7, aI (k 0) 8 anI), (h11, aJ (k 1) 9 anJ), (h13, aJ (k 1) 36 anJ), (h1, ob 4 [.int h1f0, .int y21, .int y22, .ref h13])] _ := hT
              refine lv_if_ne (tgt := 101) hx hb dX10_lot_26 (by decide) (fun _ => ?_) (fun cc => absurd cc (by decide +kernel))
              refine lv_iload_n hx hb dX10_lot_101 rfl (lv_at hl 2 rfl) ?_
              exact tz_retI (B := B_cX10_lot_ac56e D k h0 h1 h7 h11 h13 h2 h3 h4 h5 h6 h8 h9 h10 h12 x1 h0f2 h0f6 h0f8 h0f11 h1f0 h1f1 h1f2) (v := y18) hQ hx hb hr hlocks hS (Nat.le_of_ble_eq_true rfl) (Nat.le_of_ble_eq_true rfl) dX10_lot_102 (⟨y19, y20, y21, y22, (by omega), (by omega), (by omega), (by omega), (hT.sub [0, 4, 1, 2, 3] (by decide) rfl)⟩)
      exact lp14_23 ((x1.toInt + (-1) * (0 : Int32).toInt + 1).toNat + 1) (0) h0f6 h0f8 h1f1 h1f2 _ _ _ (by have := li_0; omega) (by have := li_0; omega) (by have := li_0; omega) (by have := li_0; omega)  (Nat.lt_succ_self _) hT hS (lv_sub hl [1, 2, 0] rfl)
    · skip
      have c_2 := ni_nle c_2 rfl li_4
      refine lv_iconst (v := (-1)) hx hb dX10_lot_10 (by decide) ?_
      exact tz_retI (B := B_cX10_lot_ac56e D k h0 h1 h7 h11 h13 h2 h3 h4 h5 h6 h8 h9 h10 h12 x1 h0f2 h0f6 h0f8 h0f11 h1f0 h1f1 h1f2) (v := (-1)) hQ hx hb hr hlocks hS (Nat.le_of_ble_eq_true rfl) (Nat.le_of_ble_eq_true rfl) dX10_lot_11 (⟨h0f6, h0f8, h1f1, h1f2, (by have := li_m1; omega), (by have := li_m1; omega), (by have := li_m1; omega), (by have := li_m1; omega), hT⟩)
abbrev Rm_cX10_lot_e5bae : Room := { frames := 4, cells := 0, slots := 0, locals := 91 }
abbrev B_cX10_lot_e5bae (D : va_G) (k : Nat → ClassId) (h0 h1 h8 h12 h14 h2 h3 h4 h5 h6 h7 h9 h10 h11 h13 : Nat) (x1 : Int32) (h0f2 : Int32) (h0f6 : Int32) (h0f8 : Int32) (h0f11 : Int32) (h1f0 : Int32) (h1f1 : Int32) (h1f2 : Int32) (A : Nat → Prop) (r : Int32) (H : Heap) : Prop := ∃ o0 : Int32, ∃ o1 : Int32, ∃ o2 : Int32, ∃ o3 : Int32, (0 ≤ o0.toInt ∧ o0.toInt ≤ 1) ∧ (0 ≤ o1.toInt ∧ o1.toInt ≤ 1) ∧ (0 ≤ o2.toInt ∧ o2.toInt ≤ 4) ∧ ((-1) ≤ r.toInt ∧ r.toInt ≤ 4) ∧ TP D A [(h0, ob 7 [.ref h1, .ref h2, .int h0f2, .ref h3, .ref h4, .ref h5, .int o0, .ref h6, .int o1, .ref h7, .ref h8, .int h0f11, .ref h9, .ref h10, .ref h11, .ref h12, .ref h13]), (h1, ob 4 [.int h1f0, .int o2, .int o3, .ref h14]), (h8, aI (k 0) 8 anI), (h12, aJ (k 1) 9 anJ), (h14, aJ (k 1) 36 anJ)] H
set_option maxHeartbeats 4000000 in
set_option maxRecDepth 100000 in
theorem cX10_lot_e5bae (l : Launch) (D : va_G) (k : Nat → ClassId) (sz : Nat) (h0 h1 h8 h12 h14 h2 h3 h4 h5 h6 h7 h9 h10 h11 h13 : Nat) (x1 : Int32) (h0f2 : Int32) (h0f6 : Int32) (h0f8 : Int32) (h0f11 : Int32) (h1f0 : Int32) (h1f1 : Int32) (h1f2 : Int32) (b_h0f2 : 0 ≤ h0f2.toInt ∧ h0f2.toInt ≤ 1) (b_h0f6 : 0 ≤ h0f6.toInt ∧ h0f6.toInt ≤ 1) (b_h0f8 : 0 ≤ h0f8.toInt ∧ h0f8.toInt ≤ 1) (b_h0f11 : 0 ≤ h0f11.toInt ∧ h0f11.toInt ≤ 200) (b_h1f0 : 1 ≤ h1f0.toInt ∧ h1f0.toInt ≤ 3) (b_h1f1 : 0 ≤ h1f1.toInt ∧ h1f1.toInt ≤ 4) : Met l yX10_lot (Cond.code yX10_lot cX10_lot 6 (some .int) :: uw) Rm_cX10_lot_e5bae (pT D k sz [.ref h0, .int x1] [(h0, ob 7 [.ref h1, .ref h2, .int h0f2, .ref h3, .ref h4, .ref h5, .int h0f6, .ref h6, .int h0f8, .ref h7, .ref h8, .int h0f11, .ref h9, .ref h10, .ref h11, .ref h12, .ref h13]), (h1, ob 4 [.int h1f0, .int h1f1, .int h1f2, .ref h14]), (h8, aI (k 0) 8 anI), (h12, aJ (k 1) 9 anJ), (h14, aJ (k 1) 36 anJ)]) (qI (B_cX10_lot_e5bae D k h0 h1 h8 h12 h14 h2 h3 h4 h5 h6 h7 h9 h10 h11 h13 x1 h0f2 h0f6 h0f8 h0f11 h1f0 h1f1 h1f2 (zA [h0, h1, h8, h12, h14] sz)) (zA [h0, h1, h8, h12, h14] sz)) 0 0 (zA [h0, h1, h8, h12, h14] sz) := by
  refine tz_begin (as := [h0, h1, h8, h12, h14]) (Qc := fun A => qI (B_cX10_lot_e5bae D k h0 h1 h8 h12 h14 h2 h3 h4 h5 h6 h7 h9 h10 h11 h13 x1 h0f2 h0f6 h0f8 h0f11 h1f0 h1f1 h1f2 A) A) (by decide +kernel) rfl (Nat.le_of_ble_eq_true rfl) ?_
  intro p e s m args below meth c ls A Q hx hb hr hml hown hlocks hin hU hK hT hS hA hl hQ
  have hl : lv_has ls 6 [(0, .ref h0), (1, .int x1)] := hl
  have hT : TP D A [(h0, ob 7 [.ref h1, .ref h2, .int h0f2, .ref h3, .ref h4, .ref h5, .int h0f6, .ref h6, .int h0f8, .ref h7, .ref h8, .int h0f11, .ref h9, .ref h10, .ref h11, .ref h12, .ref h13]), (h1, ob 4 [.int h1f0, .int h1f1, .int h1f2, .ref h14]), (h8, aI (k 0) 8 anI), (h12, aJ (k 1) 9 anJ), (h14, aJ (k 1) 36 anJ)] s.heap := hT
  refine lv_iload_n hx hb dX10_lot_0 rfl (lv_at hl 1 rfl) ?_
  refine lv_iconst (v := 1) hx hb dX10_lot_1 (by decide) ?_
  refine lv_icmp_lt (tgt := 10) hx hb dX10_lot_2 (by decide) (fun c_1 => ?_) (fun c_1 => ?_)
  · skip
    have c_1 := ni_lt c_1 rfl li_1
    refine lv_iconst (v := (-1)) hx hb dX10_lot_10 (by decide) ?_
    exact tz_retI (B := B_cX10_lot_e5bae D k h0 h1 h8 h12 h14 h2 h3 h4 h5 h6 h7 h9 h10 h11 h13 x1 h0f2 h0f6 h0f8 h0f11 h1f0 h1f1 h1f2) (v := (-1)) hQ hx hb hr hlocks hS (Nat.le_of_ble_eq_true rfl) (Nat.le_of_ble_eq_true rfl) dX10_lot_11 (⟨h0f6, h0f8, h1f1, h1f2, (by have := li_m1; omega), (by have := li_m1; omega), (by have := li_m1; omega), (by have := li_m1; omega), hT⟩)
  · skip
    have c_1 := ni_nlt c_1 rfl li_1
    refine lv_iload_n hx hb dX10_lot_5 rfl (lv_at hl 1 rfl) ?_
    refine lv_iconst (v := 4) hx hb dX10_lot_6 (by decide) ?_
    refine lv_icmp_le (tgt := 12) hx hb dX10_lot_7 (by decide) (fun c_2 => ?_) (fun c_2 => ?_)
    · skip
      have c_2 := ni_le c_2 rfl li_4
      refine lv_iconst (v := 0) hx hb dX10_lot_12 (by decide) ?_
      refine lv_istore_n (lv' := [(2, .int 0), (0, .ref h0), (1, .int x1)]) hx hb dX10_lot_13 rfl hl (by decide) rfl (fun ls hl => ?_)
      have lp14_23 : ∀ (n : Nat) (y18 : Int32) (y19 : Int32) (y20 : Int32) (y21 : Int32) (y22 : Int32) (H : Heap) (locs : List Loc) (ls : Array Slot), (0 ≤ y18.toInt ∧ y18.toInt ≤ 4) → (0 ≤ y19.toInt ∧ y19.toInt ≤ 1) → (0 ≤ y20.toInt ∧ y20.toInt ≤ 1) → (0 ≤ y21.toInt ∧ y21.toInt ≤ 4) → (x1.toInt + (-1) * y18.toInt + 1).toNat < n → TP D A [(h0, ob 7 [.ref h1, .ref h2, .int h0f2, .ref h3, .ref h4, .ref h5, .int y19, .ref h6, .int y20, .ref h7, .ref h8, .int h0f11, .ref h9, .ref h10, .ref h11, .ref h12, .ref h13]), (h1, ob 4 [.int h1f0, .int y21, .int y22, .ref h14]), (h8, aI (k 0) 8 anI), (h12, aJ (k 1) 9 anJ), (h14, aJ (k 1) 36 anJ)] H → va_S A s.heap H locs → lv_has ls 6 [(0, .ref h0), (1, .int x1), (2, .int y18)] → W p l e Rm_cX10_lot_e5bae s m args below meth c H locs 0 0 Q (F0 m 14 ls []) := by
        intro n
        induction n with
        | zero => intro y18 y19 y20 y21 y22 H locs ls b_y18 b_y19 b_y20 b_y21 hm hT hS hl; exact absurd hm (Nat.not_lt_zero _)
        | succ n ih =>
          intro y18 y19 y20 y21 y22 H locs ls b_y18 b_y19 b_y20 b_y21 hm hT hS hl
          have ih14_23 := ih
          clear ih
          refine lv_iload_n hx hb dX10_lot_14 rfl (lv_at hl 2 rfl) ?_
          refine lv_iload_n hx hb dX10_lot_15 rfl (lv_at hl 1 rfl) ?_
          refine lv_icmp_ge (tgt := 101) hx hb dX10_lot_16 (by decide) (fun c_24 => ?_) (fun c_24 => ?_)
          · skip
            have c_24 := ni_le c_24 rfl rfl
            refine lv_iload_n hx hb dX10_lot_101 rfl (lv_at hl 2 rfl) ?_
            exact tz_retI (B := B_cX10_lot_e5bae D k h0 h1 h8 h12 h14 h2 h3 h4 h5 h6 h7 h9 h10 h11 h13 x1 h0f2 h0f6 h0f8 h0f11 h1f0 h1f1 h1f2) (v := y18) hQ hx hb hr hlocks hS (Nat.le_of_ble_eq_true rfl) (Nat.le_of_ble_eq_true rfl) dX10_lot_102 (⟨y19, y20, y21, y22, (by omega), (by omega), (by omega), (by omega), hT⟩)
          · skip
            have c_24 := ni_nle c_24 rfl rfl
            refine lv_aload_n hx hb dX10_lot_19 rfl (lv_at hl 0 rfl) ?_
            refine tz_get (ci := 7) (v := .ref h1) (C := RX10) (F := TX10) (N := 17) hx hb hU iX10 hown hK hT 0 rfl rfl 0 (by decide) w249 (fun _ h9 => h9) rfl dX10_lot_20 ?_
            refine tcI (Tc := [(h1, ob 4 [.int h1f0, .int y21, .int y22, .ref h14])]) (Tr := [(h0, ob 7 [.ref h1, .ref h2, .int h0f2, .ref h3, .ref h4, .ref h5, .int y19, .ref h6, .int y20, .ref h7, .ref h8, .int h0f11, .ref h9, .ref h10, .ref h11, .ref h12, .ref h13]), (h8, aI (k 0) 8 anI), (h12, aJ (k 1) 9 anJ), (h14, aJ (k 1) 36 anJ)]) (as := [h1]) (zcV (q0 := 1) (ci := 4) (As := []) (rest := []) (Tc := [(h1, ob 4 [.int h1f0, .int y21, .int y22, .ref h14])]) hx hb hml hown hU hK hT rfl rfl [1] rfl (by decide) (cX5_isFull_cc49c l D k _ h1 h14 h1f0 y21 y22 (by omega) (by omega)) w326 w323 w324 w325 w64 hdX5_isFull ⟨rfl, rfl⟩ ⟨Nat.le_of_ble_eq_true rfl, Nat.le_of_ble_eq_true rfl⟩ rfl hl.1 (Nat.le_of_ble_eq_true rfl) dX10_lot_23 ⟨Nat.le_of_ble_eq_true rfl, Nat.le_of_ble_eq_true rfl⟩) hT hS hA [1] [0, 2, 3, 4] rfl rfl rfl (by decide) (by decide) (fun r25 H locs hB J hS => ?_)
            rcases hB with ⟨c_26, rfl, hT1⟩ | ⟨rfl, hT1⟩
            · skip
              have hT := J _ hT1
              have hT : TP D A [(h0, ob 7 [.ref h1, .ref h2, .int h0f2, .ref h3, .ref h4, .ref h5, .int y19, .ref h6, .int y20, .ref h7, .ref h8, .int h0f11, .ref h9, .ref h10, .ref h11, .ref h12, .ref h13]), (h8, aI (k 0) 8 anI), (h12, aJ (k 1) 9 anJ), (h14, aJ (k 1) 36 anJ), (h1, ob 4 [.int h1f0, .int y21, .int y22, .ref h14])] _ := hT
              refine lv_if_ne (tgt := 101) hx hb dX10_lot_26 (by decide) (fun cc => absurd (by decide +kernel) cc) (fun _ => ?_)
              refine lv_aload_n hx hb dX10_lot_29 rfl (lv_at hl 0 rfl) ?_
              refine tz_get (ci := 7) (v := .ref h1) (C := RX10) (F := TX10) (N := 17) hx hb hU iX10 hown hK hT 0 rfl rfl 0 (by decide) w249 (fun _ h9 => h9) rfl dX10_lot_30 ?_
              refine tcI (Tc := [(h1, ob 4 [.int h1f0, .int y21, .int y22, .ref h14])]) (Tr := [(h0, ob 7 [.ref h1, .ref h2, .int h0f2, .ref h3, .ref h4, .ref h5, .int y19, .ref h6, .int y20, .ref h7, .ref h8, .int h0f11, .ref h9, .ref h10, .ref h11, .ref h12, .ref h13]), (h8, aI (k 0) 8 anI), (h12, aJ (k 1) 9 anJ), (h14, aJ (k 1) 36 anJ)]) (as := [h1]) (zcV (q0 := 4) (ci := 4) (As := []) (rest := []) (Tc := [(h1, ob 4 [.int h1f0, .int y21, .int y22, .ref h14])]) hx hb hml hown hU hK hT rfl rfl [4] rfl (by decide) (cX5_draw_2ac8d l D k _ h1 h14 h1f0 y21 y22 (by omega) (by omega)) w724 w721 w722 w723 w64 hdX5_draw ⟨rfl, rfl⟩ ⟨Nat.le_of_ble_eq_true rfl, Nat.le_of_ble_eq_true rfl⟩ rfl hl.1 (Nat.le_of_ble_eq_true rfl) dX10_lot_33 ⟨Nat.le_of_ble_eq_true rfl, Nat.le_of_ble_eq_true rfl⟩) hT hS hA [4] [0, 1, 2, 3] rfl rfl rfl (by decide) (by decide) (fun r27 H locs hB J hS => ?_)
              obtain ⟨v28, b_r27, hT1⟩ := hB
              have hT := J _ hT1
              have hT : TP D A [(h0, ob 7 [.ref h1, .ref h2, .int h0f2, .ref h3, .ref h4, .ref h5, .int y19, .ref h6, .int y20, .ref h7, .ref h8, .int h0f11, .ref h9, .ref h10, .ref h11, .ref h12, .ref h13]), (h8, aI (k 0) 8 anI), (h12, aJ (k 1) 9 anJ), (h14, aJ (k 1) 36 anJ), (h1, ob 4 [.int h1f0, .int y21, .int v28, .ref h14])] _ := hT
              refine lv_aload_n hx hb dX10_lot_36 rfl (lv_at hl 0 rfl) ?_
              refine tz_get (ci := 7) (v := .ref h1) (C := RX10) (F := TX10) (N := 17) hx hb hU iX10 hown hK hT 0 rfl rfl 0 (by decide) w249 (fun _ h9 => h9) rfl dX10_lot_37 ?_
              refine tz_get (ci := 4) (v := .int h1f0) (C := RX5) (F := TX5) (N := 4) hx hb hU iX5 hown hK hT 4 rfl rfl 0 (by decide) w93 (fun _ h9 => h9) rfl dX10_lot_40 ?_
              refine lv_irem hx hb dX10_lot_43 (nz32 (y := h1f0.toInt) rfl (by omega)) (lv_topi (fun v29 e_v29 => ?_))
              have e_v29 := ai_remv e_v29 rfl rfl (by omega)
              refine lv_istore_n (lv' := [(3, .int v29), (0, .ref h0), (1, .int x1), (2, .int y18)]) hx hb dX10_lot_44 rfl hl (by decide) rfl (fun ls hl => ?_)
              refine lv_aload_n hx hb dX10_lot_45 rfl (lv_at hl 1 rfl) ?_
              refine tz_get (ci := 7) (v := .ref h1) (C := RX10) (F := TX10) (N := 17) hx hb hU iX10 hown hK hT 0 rfl rfl 0 (by decide) w249 (fun _ h9 => h9) rfl dX10_lot_46 ?_
              refine tcI (Tc := [(h1, ob 4 [.int h1f0, .int y21, .int v28, .ref h14])]) (Tr := [(h0, ob 7 [.ref h1, .ref h2, .int h0f2, .ref h3, .ref h4, .ref h5, .int y19, .ref h6, .int y20, .ref h7, .ref h8, .int h0f11, .ref h9, .ref h10, .ref h11, .ref h12, .ref h13]), (h8, aI (k 0) 8 anI), (h12, aJ (k 1) 9 anJ), (h14, aJ (k 1) 36 anJ)]) (as := [h1]) (zcV (q0 := 4) (ci := 4) (As := []) (rest := []) (Tc := [(h1, ob 4 [.int h1f0, .int y21, .int v28, .ref h14])]) hx hb hml hown hU hK hT rfl rfl [4] rfl (by decide) (cX5_draw_2ac8d l D k _ h1 h14 h1f0 y21 v28 (by omega) (by omega)) w724 w721 w722 w723 w64 hdX5_draw ⟨rfl, rfl⟩ ⟨Nat.le_of_ble_eq_true rfl, Nat.le_of_ble_eq_true rfl⟩ rfl hl.1 (Nat.le_of_ble_eq_true rfl) dX10_lot_49 ⟨Nat.le_of_ble_eq_true rfl, Nat.le_of_ble_eq_true rfl⟩) hT hS hA [4] [0, 1, 2, 3] rfl rfl rfl (by decide) (by decide) (fun r30 H locs hB J hS => ?_)
              obtain ⟨v31, b_r30, hT1⟩ := hB
              have hT := J _ hT1
              have hT : TP D A [(h0, ob 7 [.ref h1, .ref h2, .int h0f2, .ref h3, .ref h4, .ref h5, .int y19, .ref h6, .int y20, .ref h7, .ref h8, .int h0f11, .ref h9, .ref h10, .ref h11, .ref h12, .ref h13]), (h8, aI (k 0) 8 anI), (h12, aJ (k 1) 9 anJ), (h14, aJ (k 1) 36 anJ), (h1, ob 4 [.int h1f0, .int y21, .int v31, .ref h14])] _ := hT
              refine lv_aload_n hx hb dX10_lot_52 rfl (lv_at hl 1 rfl) ?_
              refine tz_get (ci := 7) (v := .ref h1) (C := RX10) (F := TX10) (N := 17) hx hb hU iX10 hown hK hT 0 rfl rfl 0 (by decide) w249 (fun _ h9 => h9) rfl dX10_lot_53 ?_
              refine tz_get (ci := 4) (v := .int h1f0) (C := RX5) (F := TX5) (N := 4) hx hb hU iX5 hown hK hT 4 rfl rfl 0 (by decide) w93 (fun _ h9 => h9) rfl dX10_lot_56 ?_
              refine lv_irem hx hb dX10_lot_59 (nz32 (y := h1f0.toInt) rfl (by omega)) (lv_topi (fun v32 e_v32 => ?_))
              have e_v32 := ai_remv e_v32 rfl rfl (by omega)
              refine lv_istore (lv' := [(4, .int v32), (3, .int v29), (0, .ref h0), (1, .int x1), (2, .int y18)]) hx hb dX10_lot_60 hl (by decide) rfl (fun ls hl => ?_)
              refine lv_aload_n hx hb dX10_lot_62 rfl (lv_at hl 2 rfl) ?_
              refine tz_get (ci := 7) (v := .ref h1) (C := RX10) (F := TX10) (N := 17) hx hb hU iX10 hown hK hT 0 rfl rfl 0 (by decide) w249 (fun _ h9 => h9) rfl dX10_lot_63 ?_
              refine tcI (Tc := [(h1, ob 4 [.int h1f0, .int y21, .int v31, .ref h14])]) (Tr := [(h0, ob 7 [.ref h1, .ref h2, .int h0f2, .ref h3, .ref h4, .ref h5, .int y19, .ref h6, .int y20, .ref h7, .ref h8, .int h0f11, .ref h9, .ref h10, .ref h11, .ref h12, .ref h13]), (h8, aI (k 0) 8 anI), (h12, aJ (k 1) 9 anJ), (h14, aJ (k 1) 36 anJ)]) (as := [h1]) (zcV (q0 := 4) (ci := 4) (As := []) (rest := []) (Tc := [(h1, ob 4 [.int h1f0, .int y21, .int v31, .ref h14])]) hx hb hml hown hU hK hT rfl rfl [4] rfl (by decide) (cX5_draw_2ac8d l D k _ h1 h14 h1f0 y21 v31 (by omega) (by omega)) w724 w721 w722 w723 w64 hdX5_draw ⟨rfl, rfl⟩ ⟨Nat.le_of_ble_eq_true rfl, Nat.le_of_ble_eq_true rfl⟩ rfl hl.1 (Nat.le_of_ble_eq_true rfl) dX10_lot_66 ⟨Nat.le_of_ble_eq_true rfl, Nat.le_of_ble_eq_true rfl⟩) hT hS hA [4] [0, 1, 2, 3] rfl rfl rfl (by decide) (by decide) (fun r33 H locs hB J hS => ?_)
              obtain ⟨v34, b_r33, hT1⟩ := hB
              have hT := J _ hT1
              have hT : TP D A [(h0, ob 7 [.ref h1, .ref h2, .int h0f2, .ref h3, .ref h4, .ref h5, .int y19, .ref h6, .int y20, .ref h7, .ref h8, .int h0f11, .ref h9, .ref h10, .ref h11, .ref h12, .ref h13]), (h8, aI (k 0) 8 anI), (h12, aJ (k 1) 9 anJ), (h14, aJ (k 1) 36 anJ), (h1, ob 4 [.int h1f0, .int y21, .int v34, .ref h14])] _ := hT
              refine lv_iconst (v := 5) hx hb dX10_lot_69 (by decide) ?_
              refine lv_irem hx hb dX10_lot_70 (by decide +kernel) (lv_topi (fun v35 e_v35 => ?_))
              have e_v35 := ai_rem e_v35 rfl li_5 (by omega)
              refine lv_iconst (v := 2) hx hb dX10_lot_71 (by decide) ?_
              refine lv_isub hx hb dX10_lot_72 (lv_topi (fun v36 e_v36 => ?_))
              have e_v36 := ai_sub e_v36 rfl li_2 (by omega)
              refine lv_istore (lv' := [(5, .int v36), (4, .int v32), (3, .int v29), (0, .ref h0), (1, .int x1), (2, .int y18)]) hx hb dX10_lot_73 hl (by decide) rfl (fun ls hl => ?_)
              refine lv_aload_n hx hb dX10_lot_75 rfl (lv_at hl 3 rfl) ?_
              refine lv_iload_n hx hb dX10_lot_76 rfl (lv_at hl 2 rfl) ?_
              refine lv_iload hx hb dX10_lot_77 (lv_at hl 1 rfl) ?_
              refine lv_iload_n hx hb dX10_lot_79 rfl (lv_at hl 2 rfl) ?_
              refine lv_iload hx hb dX10_lot_80 (lv_at hl 1 rfl) ?_
              refine lv_icmp_ne (tgt := 89) hx hb dX10_lot_82 (by decide) (fun c_37 => ?_) (fun c_37 => ?_)
              · skip
                have c_37 := ni_ne c_37 rfl rfl
                refine lv_iload hx hb dX10_lot_89 (lv_at hl 0 rfl) ?_
                refine tcI (Tc := [(h0, ob 7 [.ref h1, .ref h2, .int h0f2, .ref h3, .ref h4, .ref h5, .int y19, .ref h6, .int y20, .ref h7, .ref h8, .int h0f11, .ref h9, .ref h10, .ref h11, .ref h12, .ref h13]), (h1, ob 4 [.int h1f0, .int y21, .int v34, .ref h14]), (h8, aI (k 0) 8 anI), (h12, aJ (k 1) 9 anJ), (h14, aJ (k 1) 36 anJ)]) (Tr := []) (as := [h0, h1, h8, h12, h14]) (zcV (q0 := 0) (ci := 7) (As := [.int v29, .int v32, .int v36]) (rest := []) (Tc := [(h0, ob 7 [.ref h1, .ref h2, .int h0f2, .ref h3, .ref h4, .ref h5, .int y19, .ref h6, .int y20, .ref h7, .ref h8, .int h0f11, .ref h9, .ref h10, .ref h11, .ref h12, .ref h13]), (h1, ob 4 [.int h1f0, .int y21, .int v34, .ref h14]), (h8, aI (k 0) 8 anI), (h12, aJ (k 1) 9 anJ), (h14, aJ (k 1) 36 anJ)]) hx hb hml hown hU hK hT rfl rfl [0, 4, 1, 2, 3] rfl (by decide) (cX10_addUnit_b7933 l D k _ h0 h1 h8 h12 h14 h2 h3 h4 h5 h6 h7 h9 h10 h11 h13 v29 v32 v36 h0f2 y19 y20 h0f11 h1f0 y21 v34 (by omega) (by omega) (by omega) (by omega) (by omega) (by omega) (by omega) (by omega)) w330 w327 w329 w1 w63 hdX10_addUnit ⟨rfl, rfl⟩ ⟨Nat.le_of_ble_eq_true rfl, Nat.le_of_ble_eq_true rfl⟩ rfl hl.1 (Nat.le_of_ble_eq_true rfl) dX10_lot_91 ⟨Nat.le_of_ble_eq_true rfl, Nat.le_of_ble_eq_true rfl⟩) hT hS hA [0, 4, 1, 2, 3] [] rfl rfl rfl (by decide) (by decide) (fun r38 H locs hB J hS => ?_)
                obtain ⟨v39, b_v39, b_r38, hT1⟩ := hB
                have hT := J _ hT1
                have hT : TP D A [(h0, ob 7 [.ref h1, .ref h2, .int h0f2, .ref h3, .ref h4, .ref h5, .int 0, .ref h6, .int 0, .ref h7, .ref h8, .int h0f11, .ref h9, .ref h10, .ref h11, .ref h12, .ref h13]), (h1, ob 4 [.int h1f0, .int v39, .int v34, .ref h14]), (h8, aI (k 0) 8 anI), (h12, aJ (k 1) 9 anJ), (h14, aJ (k 1) 36 anJ)] _ := hT
                refine lv_pop hx hb dX10_lot_94 rfl ?_
                obtain ⟨v40, e_v40⟩ : ∃ x : Int32, x = y18 + Int32.ofInt 1 := ⟨_, rfl⟩
                have f_v40 := e_v40.symm
                have e_v40 : v40.toInt = y18.toInt + 1 := ai_add e_v40 rfl (show (Int32.ofInt 1).toInt = 1 from (by decide +kernel)) (by omega)
                refine lv_iinc (v := v40) (lv' := [(2, .int v40), (5, .int v36), (4, .int v32), (3, .int v29), (0, .ref h0), (1, .int x1)]) hx hb dX10_lot_95 hl (k := 5) rfl f_v40 (by decide) rfl (fun ls hl => ?_)
                refine lv_goto (tgt := 14) hx hb dX10_lot_98 (by decide) ?_
                exact ih14_23 v40 (0) (0) v39 v34 _ _ _ (by have := li_0; omega) (by have := li_0; omega) (by have := li_0; omega) (by have := li_0; omega)  (by have := li_0; omega) hT hS (lv_sub hl [4, 5, 0] rfl)
              · skip
                have c_37 := ni_eq c_37 rfl rfl
                refine lv_iconst (v := (-1)) hx hb dX10_lot_85 (by decide) ?_
                refine lv_goto (tgt := 91) hx hb dX10_lot_86 (by decide) ?_
                have q_q42 := li_m1
                refine tcI (Tc := [(h0, ob 7 [.ref h1, .ref h2, .int h0f2, .ref h3, .ref h4, .ref h5, .int y19, .ref h6, .int y20, .ref h7, .ref h8, .int h0f11, .ref h9, .ref h10, .ref h11, .ref h12, .ref h13]), (h1, ob 4 [.int h1f0, .int y21, .int v34, .ref h14]), (h8, aI (k 0) 8 anI), (h12, aJ (k 1) 9 anJ), (h14, aJ (k 1) 36 anJ)]) (Tr := []) (as := [h0, h1, h8, h12, h14]) (zcV (q0 := 0) (ci := 7) (As := [.int v29, .int v32, .int (-1)]) (rest := []) (Tc := [(h0, ob 7 [.ref h1, .ref h2, .int h0f2, .ref h3, .ref h4, .ref h5, .int y19, .ref h6, .int y20, .ref h7, .ref h8, .int h0f11, .ref h9, .ref h10, .ref h11, .ref h12, .ref h13]), (h1, ob 4 [.int h1f0, .int y21, .int v34, .ref h14]), (h8, aI (k 0) 8 anI), (h12, aJ (k 1) 9 anJ), (h14, aJ (k 1) 36 anJ)]) hx hb hml hown hU hK hT rfl rfl [0, 4, 1, 2, 3] rfl (by decide) (cX10_addUnit_b7933 l D k _ h0 h1 h8 h12 h14 h2 h3 h4 h5 h6 h7 h9 h10 h11 h13 v29 v32 ((-1)) h0f2 y19 y20 h0f11 h1f0 y21 v34 (by omega) (by omega) (by omega) (by omega) (by omega) (by omega) (by omega) (by omega)) w330 w327 w329 w1 w63 hdX10_addUnit ⟨rfl, rfl⟩ ⟨Nat.le_of_ble_eq_true rfl, Nat.le_of_ble_eq_true rfl⟩ rfl hl.1 (Nat.le_of_ble_eq_true rfl) dX10_lot_91 ⟨Nat.le_of_ble_eq_true rfl, Nat.le_of_ble_eq_true rfl⟩) hT hS hA [0, 4, 1, 2, 3] [] rfl rfl rfl (by decide) (by decide) (fun r41 H locs hB J hS => ?_)
                obtain ⟨v43, b_v43, b_r41, hT1⟩ := hB
                have hT := J _ hT1
                have hT : TP D A [(h0, ob 7 [.ref h1, .ref h2, .int h0f2, .ref h3, .ref h4, .ref h5, .int 0, .ref h6, .int 0, .ref h7, .ref h8, .int h0f11, .ref h9, .ref h10, .ref h11, .ref h12, .ref h13]), (h1, ob 4 [.int h1f0, .int v43, .int v34, .ref h14]), (h8, aI (k 0) 8 anI), (h12, aJ (k 1) 9 anJ), (h14, aJ (k 1) 36 anJ)] _ := hT
                refine lv_pop hx hb dX10_lot_94 rfl ?_
                obtain ⟨v44, e_v44⟩ : ∃ x : Int32, x = y18 + Int32.ofInt 1 := ⟨_, rfl⟩
                have f_v44 := e_v44.symm
                have e_v44 : v44.toInt = y18.toInt + 1 := ai_add e_v44 rfl (show (Int32.ofInt 1).toInt = 1 from (by decide +kernel)) (by omega)
                refine lv_iinc (v := v44) (lv' := [(2, .int v44), (5, .int v36), (4, .int v32), (3, .int v29), (0, .ref h0), (1, .int x1)]) hx hb dX10_lot_95 hl (k := 5) rfl f_v44 (by decide) rfl (fun ls hl => ?_)
                refine lv_goto (tgt := 14) hx hb dX10_lot_98 (by decide) ?_
                exact ih14_23 v44 (0) (0) v43 v34 _ _ _ (by have := li_0; omega) (by have := li_0; omega) (by have := li_0; omega) (by have := li_0; omega)  (by have := li_0; omega) hT hS (lv_sub hl [4, 5, 0] rfl)
            · skip
              have hT := J _ hT1
              have hT : TP D A [(h0, ob 7 [.ref h1, .ref h2, .int h0f2, .ref h3, .ref h4, .ref h5, .int y19, .ref h6, .int y20, .ref h7, .ref h8, .int h0f11, .ref h9, .ref h10, .ref h11, .ref h12, .ref h13]), (h8, aI (k 0) 8 anI), (h12, aJ (k 1) 9 anJ), (h14, aJ (k 1) 36 anJ), (h1, ob 4 [.int h1f0, .int y21, .int y22, .ref h14])] _ := hT
              refine lv_if_ne (tgt := 101) hx hb dX10_lot_26 (by decide) (fun _ => ?_) (fun cc => absurd cc (by decide +kernel))
              refine lv_iload_n hx hb dX10_lot_101 rfl (lv_at hl 2 rfl) ?_
              exact tz_retI (B := B_cX10_lot_e5bae D k h0 h1 h8 h12 h14 h2 h3 h4 h5 h6 h7 h9 h10 h11 h13 x1 h0f2 h0f6 h0f8 h0f11 h1f0 h1f1 h1f2) (v := y18) hQ hx hb hr hlocks hS (Nat.le_of_ble_eq_true rfl) (Nat.le_of_ble_eq_true rfl) dX10_lot_102 (⟨y19, y20, y21, y22, (by omega), (by omega), (by omega), (by omega), (hT.sub [0, 4, 1, 2, 3] (by decide) rfl)⟩)
      exact lp14_23 ((x1.toInt + (-1) * (0 : Int32).toInt + 1).toNat + 1) (0) h0f6 h0f8 h1f1 h1f2 _ _ _ (by have := li_0; omega) (by have := li_0; omega) (by have := li_0; omega) (by have := li_0; omega)  (Nat.lt_succ_self _) hT hS (lv_sub hl [1, 2, 0] rfl)
    · skip
      have c_2 := ni_nle c_2 rfl li_4
      refine lv_iconst (v := (-1)) hx hb dX10_lot_10 (by decide) ?_
      exact tz_retI (B := B_cX10_lot_e5bae D k h0 h1 h8 h12 h14 h2 h3 h4 h5 h6 h7 h9 h10 h11 h13 x1 h0f2 h0f6 h0f8 h0f11 h1f0 h1f1 h1f2) (v := (-1)) hQ hx hb hr hlocks hS (Nat.le_of_ble_eq_true rfl) (Nat.le_of_ble_eq_true rfl) dX10_lot_11 (⟨h0f6, h0f8, h1f1, h1f2, (by have := li_m1; omega), (by have := li_m1; omega), (by have := li_m1; omega), (by have := li_m1; omega), hT⟩)
abbrev Rm_cX11_drawn_e4600 : Room := { frames := 0, cells := 0, slots := 0, locals := 0 }
abbrev B_cX11_drawn_e4600 (D : va_G) (k : Nat → ClassId) (h0 h1 h2 h3 h4 h5 h6 h7 h8 h9 h10 h11 h12 h13 h14 h15 h16 h17 h18 h19 h20 h21 : Nat) (x1 : Int32) (h0f0 : Int32) (h0f1 : Int32) (h0f2 : Int32) (h0f3 : Int32) (h0f4 : Int32) (h0f5 : Int32) (h0f8 : Int32) (h0f9 : Int32) (h0f17 : Int32) (h0f18 : Int32) (h0f19 : Int32) (h0f24 : Int32) (h0f25 : Int32) (h0f30 : Int32) (h0f31 : Int32) (A : Nat → Prop) (r : Int32) (H : Heap) : Prop := ∃ o0 : Int32, (0 ≤ r.toInt ∧ r.toInt ≤ 2) ∧ TP D A [(h0, ob 8 [.int h0f0, .int h0f1, .int o0, .int h0f3, .int h0f4, .int h0f5, .ref h1, .ref h2, .int h0f8, .int h0f9, .ref h3, .ref h4, .ref h5, .ref h6, .ref h7, .ref h8, .ref h9, .int h0f17, .int h0f18, .int h0f19, .ref h10, .ref h11, .ref h12, .ref h13, .int h0f24, .int h0f25, .ref h14, .ref h15, .ref h16, .ref h17, .int h0f30, .int h0f31, .ref h18, .ref h19, .ref h20, .ref h21])] H
set_option maxHeartbeats 4000000 in
set_option maxRecDepth 100000 in
theorem cX11_drawn_e4600 (l : Launch) (D : va_G) (k : Nat → ClassId) (sz : Nat) (h0 h1 h2 h3 h4 h5 h6 h7 h8 h9 h10 h11 h12 h13 h14 h15 h16 h17 h18 h19 h20 h21 : Nat) (x1 : Int32) (h0f0 : Int32) (h0f1 : Int32) (h0f2 : Int32) (h0f3 : Int32) (h0f4 : Int32) (h0f5 : Int32) (h0f8 : Int32) (h0f9 : Int32) (h0f17 : Int32) (h0f18 : Int32) (h0f19 : Int32) (h0f24 : Int32) (h0f25 : Int32) (h0f30 : Int32) (h0f31 : Int32) (b_x1 : 1 ≤ x1.toInt ∧ x1.toInt ≤ 3) (b_h0f0 : 1 ≤ h0f0.toInt ∧ h0f0.toInt ≤ 3) (b_h0f1 : 0 ≤ h0f1.toInt ∧ h0f1.toInt ≤ 3) (b_h0f3 : 0 ≤ h0f3.toInt ∧ h0f3.toInt ≤ 3) (b_h0f4 : 0 ≤ h0f4.toInt ∧ h0f4.toInt ≤ 4) (b_h0f8 : 0 ≤ h0f8.toInt ∧ h0f8.toInt ≤ 1) (b_h0f9 : 0 ≤ h0f9.toInt ∧ h0f9.toInt ≤ 1) (b_h0f17 : 0 ≤ h0f17.toInt ∧ h0f17.toInt ≤ 120) (b_h0f18 : 0 ≤ h0f18.toInt ∧ h0f18.toInt ≤ 120) (b_h0f19 : 0 ≤ h0f19.toInt ∧ h0f19.toInt ≤ 4) (b_h0f24 : 0 ≤ h0f24.toInt ∧ h0f24.toInt ≤ 100) (b_h0f25 : 0 ≤ h0f25.toInt ∧ h0f25.toInt ≤ 1) (b_h0f30 : 0 ≤ h0f30.toInt ∧ h0f30.toInt ≤ 60) (b_h0f31 : 0 ≤ h0f31.toInt ∧ h0f31.toInt ≤ 1) (i_0 : h0f8.toInt ≤ h0f3.toInt) (i_1 : h0f9.toInt ≤ h0f24.toInt) : Met l yX11_drawn (Cond.code yX11_drawn cX11_drawn 2 (some .int) :: uw) Rm_cX11_drawn_e4600 (pT D k sz [.ref h0, .int x1] [(h0, ob 8 [.int h0f0, .int h0f1, .int h0f2, .int h0f3, .int h0f4, .int h0f5, .ref h1, .ref h2, .int h0f8, .int h0f9, .ref h3, .ref h4, .ref h5, .ref h6, .ref h7, .ref h8, .ref h9, .int h0f17, .int h0f18, .int h0f19, .ref h10, .ref h11, .ref h12, .ref h13, .int h0f24, .int h0f25, .ref h14, .ref h15, .ref h16, .ref h17, .int h0f30, .int h0f31, .ref h18, .ref h19, .ref h20, .ref h21])]) (qI (B_cX11_drawn_e4600 D k h0 h1 h2 h3 h4 h5 h6 h7 h8 h9 h10 h11 h12 h13 h14 h15 h16 h17 h18 h19 h20 h21 x1 h0f0 h0f1 h0f2 h0f3 h0f4 h0f5 h0f8 h0f9 h0f17 h0f18 h0f19 h0f24 h0f25 h0f30 h0f31 (zA [h0] sz)) (zA [h0] sz)) 0 0 (zA [h0] sz) := by
  refine tz_begin (as := [h0]) (Qc := fun A => qI (B_cX11_drawn_e4600 D k h0 h1 h2 h3 h4 h5 h6 h7 h8 h9 h10 h11 h12 h13 h14 h15 h16 h17 h18 h19 h20 h21 x1 h0f0 h0f1 h0f2 h0f3 h0f4 h0f5 h0f8 h0f9 h0f17 h0f18 h0f19 h0f24 h0f25 h0f30 h0f31 A) A) (by decide +kernel) rfl (Nat.le_of_ble_eq_true rfl) ?_
  intro p e s m args below meth c ls A Q hx hb hr hml hown hlocks hin hU hK hT hS hA hl hQ
  have hl : lv_has ls 2 [(0, .ref h0), (1, .int x1)] := hl
  have hT : TP D A [(h0, ob 8 [.int h0f0, .int h0f1, .int h0f2, .int h0f3, .int h0f4, .int h0f5, .ref h1, .ref h2, .int h0f8, .int h0f9, .ref h3, .ref h4, .ref h5, .ref h6, .ref h7, .ref h8, .ref h9, .int h0f17, .int h0f18, .int h0f19, .ref h10, .ref h11, .ref h12, .ref h13, .int h0f24, .int h0f25, .ref h14, .ref h15, .ref h16, .ref h17, .int h0f30, .int h0f31, .ref h18, .ref h19, .ref h20, .ref h21])] s.heap := hT
  refine lv_aload_n hx hb dX11_drawn_0 rfl (lv_at hl 0 rfl) ?_
  refine lv_aload_n hx hb dX11_drawn_1 rfl (lv_at hl 0 rfl) ?_
  refine tz_get (ci := 8) (v := .int h0f2) (C := RX11) (F := TX11) (N := 36) hx hb hU iX11 hown hK hT 0 rfl rfl 2 (by decide) w787 (fun _ h9 => h9) rfl dX11_drawn_2 ?_
  refine lv_ldcw hx hb hown (hU _ w1178) dX11_drawn_5 ?_
  refine lv_imul hx hb dX11_drawn_8 (lv_topi (fun v1 e_v1 => ?_))
  refine lv_sipush (v := 12345) hx hb dX11_drawn_9 (by decide) ?_
  refine lv_iadd hx hb dX11_drawn_12 (lv_topi (fun v2 e_v2 => ?_))
  refine tz_put (ci := 8) (v := .int v2) (ty := .int) (C := RX11) (F := TX11) (N := 36) hx hb hU iX11 tyX11 tyX11_ok nmX11 hown hK hT hS 0 rfl rfl 2 (by decide) w787 (fun _ h9 => h9) rfl (by decide +kernel) rfl rfl (Nat.le_of_ble_eq_true rfl) dX11_drawn_13 (fun H locs hT hS => ?_)
  have hT : TP D A [(h0, ob 8 [.int h0f0, .int h0f1, .int v2, .int h0f3, .int h0f4, .int h0f5, .ref h1, .ref h2, .int h0f8, .int h0f9, .ref h3, .ref h4, .ref h5, .ref h6, .ref h7, .ref h8, .ref h9, .int h0f17, .int h0f18, .int h0f19, .ref h10, .ref h11, .ref h12, .ref h13, .int h0f24, .int h0f25, .ref h14, .ref h15, .ref h16, .ref h17, .int h0f30, .int h0f31, .ref h18, .ref h19, .ref h20, .ref h21])] _ := hT
  refine lv_aload_n hx hb dX11_drawn_16 rfl (lv_at hl 0 rfl) ?_
  refine tz_get (ci := 8) (v := .int v2) (C := RX11) (F := TX11) (N := 36) hx hb hU iX11 hown hK hT 0 rfl rfl 2 (by decide) w787 (fun _ h9 => h9) rfl dX11_drawn_17 ?_
  refine lv_bipush (v := 16) hx hb dX11_drawn_20 (by decide) ?_
  refine lv_iushr hx hb dX11_drawn_22 rfl (lv_topi (fun v3 e_v3 => ?_))
  have e_v3 := ai_ushr16 e_v3
  refine lv_iload_n hx hb dX11_drawn_23 rfl (lv_at hl 1 rfl) ?_
  refine lv_irem hx hb dX11_drawn_24 (nz32 (y := x1.toInt) rfl (by omega)) (lv_topi (fun v4 e_v4 => ?_))
  have e_v4 := ai_remv e_v4 rfl rfl (by omega)
  exact tz_retI (B := B_cX11_drawn_e4600 D k h0 h1 h2 h3 h4 h5 h6 h7 h8 h9 h10 h11 h12 h13 h14 h15 h16 h17 h18 h19 h20 h21 x1 h0f0 h0f1 h0f2 h0f3 h0f4 h0f5 h0f8 h0f9 h0f17 h0f18 h0f19 h0f24 h0f25 h0f30 h0f31) (v := v4) hQ hx hb hr hlocks hS (Nat.le_of_ble_eq_true rfl) (Nat.le_of_ble_eq_true rfl) dX11_drawn_25 (⟨v2, (by omega), hT⟩)
abbrev Rm_cX11_drawn_a431c : Room := { frames := 0, cells := 0, slots := 0, locals := 0 }
abbrev B_cX11_drawn_a431c (D : va_G) (k : Nat → ClassId) (h0 h1 h2 h3 h4 h5 h6 h7 h8 h9 h10 h11 h12 h13 h14 h15 h16 h17 h18 h19 h20 h21 : Nat) (h0f0 : Int32) (h0f1 : Int32) (h0f2 : Int32) (h0f3 : Int32) (h0f4 : Int32) (h0f5 : Int32) (h0f8 : Int32) (h0f9 : Int32) (h0f17 : Int32) (h0f18 : Int32) (h0f19 : Int32) (h0f24 : Int32) (h0f25 : Int32) (h0f30 : Int32) (h0f31 : Int32) (A : Nat → Prop) (r : Int32) (H : Heap) : Prop := ∃ o0 : Int32, (0 ≤ r.toInt ∧ r.toInt ≤ 4) ∧ TP D A [(h0, ob 8 [.int h0f0, .int h0f1, .int o0, .int h0f3, .int h0f4, .int h0f5, .ref h1, .ref h2, .int h0f8, .int h0f9, .ref h3, .ref h4, .ref h5, .ref h6, .ref h7, .ref h8, .ref h9, .int h0f17, .int h0f18, .int h0f19, .ref h10, .ref h11, .ref h12, .ref h13, .int h0f24, .int h0f25, .ref h14, .ref h15, .ref h16, .ref h17, .int h0f30, .int h0f31, .ref h18, .ref h19, .ref h20, .ref h21])] H
set_option maxHeartbeats 4000000 in
set_option maxRecDepth 100000 in
theorem cX11_drawn_a431c (l : Launch) (D : va_G) (k : Nat → ClassId) (sz : Nat) (h0 h1 h2 h3 h4 h5 h6 h7 h8 h9 h10 h11 h12 h13 h14 h15 h16 h17 h18 h19 h20 h21 : Nat) (h0f0 : Int32) (h0f1 : Int32) (h0f2 : Int32) (h0f3 : Int32) (h0f4 : Int32) (h0f5 : Int32) (h0f8 : Int32) (h0f9 : Int32) (h0f17 : Int32) (h0f18 : Int32) (h0f19 : Int32) (h0f24 : Int32) (h0f25 : Int32) (h0f30 : Int32) (h0f31 : Int32) (b_h0f0 : 1 ≤ h0f0.toInt ∧ h0f0.toInt ≤ 3) (b_h0f1 : 0 ≤ h0f1.toInt ∧ h0f1.toInt ≤ 3) (b_h0f3 : 0 ≤ h0f3.toInt ∧ h0f3.toInt ≤ 3) (b_h0f4 : 0 ≤ h0f4.toInt ∧ h0f4.toInt ≤ 4) (b_h0f8 : 0 ≤ h0f8.toInt ∧ h0f8.toInt ≤ 1) (b_h0f9 : 0 ≤ h0f9.toInt ∧ h0f9.toInt ≤ 1) (b_h0f17 : 0 ≤ h0f17.toInt ∧ h0f17.toInt ≤ 120) (b_h0f18 : 0 ≤ h0f18.toInt ∧ h0f18.toInt ≤ 120) (b_h0f19 : 0 ≤ h0f19.toInt ∧ h0f19.toInt ≤ 4) (b_h0f24 : 0 ≤ h0f24.toInt ∧ h0f24.toInt ≤ 100) (b_h0f25 : 0 ≤ h0f25.toInt ∧ h0f25.toInt ≤ 1) (b_h0f30 : 0 ≤ h0f30.toInt ∧ h0f30.toInt ≤ 60) (b_h0f31 : 0 ≤ h0f31.toInt ∧ h0f31.toInt ≤ 1) (i_0 : h0f8.toInt ≤ h0f3.toInt) (i_1 : h0f9.toInt ≤ h0f24.toInt) : Met l yX11_drawn (Cond.code yX11_drawn cX11_drawn 2 (some .int) :: uw) Rm_cX11_drawn_a431c (pT D k sz [.ref h0, .int 5] [(h0, ob 8 [.int h0f0, .int h0f1, .int h0f2, .int h0f3, .int h0f4, .int h0f5, .ref h1, .ref h2, .int h0f8, .int h0f9, .ref h3, .ref h4, .ref h5, .ref h6, .ref h7, .ref h8, .ref h9, .int h0f17, .int h0f18, .int h0f19, .ref h10, .ref h11, .ref h12, .ref h13, .int h0f24, .int h0f25, .ref h14, .ref h15, .ref h16, .ref h17, .int h0f30, .int h0f31, .ref h18, .ref h19, .ref h20, .ref h21])]) (qI (B_cX11_drawn_a431c D k h0 h1 h2 h3 h4 h5 h6 h7 h8 h9 h10 h11 h12 h13 h14 h15 h16 h17 h18 h19 h20 h21 h0f0 h0f1 h0f2 h0f3 h0f4 h0f5 h0f8 h0f9 h0f17 h0f18 h0f19 h0f24 h0f25 h0f30 h0f31 (zA [h0] sz)) (zA [h0] sz)) 0 0 (zA [h0] sz) := by
  refine tz_begin (as := [h0]) (Qc := fun A => qI (B_cX11_drawn_a431c D k h0 h1 h2 h3 h4 h5 h6 h7 h8 h9 h10 h11 h12 h13 h14 h15 h16 h17 h18 h19 h20 h21 h0f0 h0f1 h0f2 h0f3 h0f4 h0f5 h0f8 h0f9 h0f17 h0f18 h0f19 h0f24 h0f25 h0f30 h0f31 A) A) (by decide +kernel) rfl (Nat.le_of_ble_eq_true rfl) ?_
  intro p e s m args below meth c ls A Q hx hb hr hml hown hlocks hin hU hK hT hS hA hl hQ
  have hl : lv_has ls 2 [(0, .ref h0), (1, .int 5)] := hl
  have hT : TP D A [(h0, ob 8 [.int h0f0, .int h0f1, .int h0f2, .int h0f3, .int h0f4, .int h0f5, .ref h1, .ref h2, .int h0f8, .int h0f9, .ref h3, .ref h4, .ref h5, .ref h6, .ref h7, .ref h8, .ref h9, .int h0f17, .int h0f18, .int h0f19, .ref h10, .ref h11, .ref h12, .ref h13, .int h0f24, .int h0f25, .ref h14, .ref h15, .ref h16, .ref h17, .int h0f30, .int h0f31, .ref h18, .ref h19, .ref h20, .ref h21])] s.heap := hT
  refine lv_aload_n hx hb dX11_drawn_0 rfl (lv_at hl 0 rfl) ?_
  refine lv_aload_n hx hb dX11_drawn_1 rfl (lv_at hl 0 rfl) ?_
  refine tz_get (ci := 8) (v := .int h0f2) (C := RX11) (F := TX11) (N := 36) hx hb hU iX11 hown hK hT 0 rfl rfl 2 (by decide) w787 (fun _ h9 => h9) rfl dX11_drawn_2 ?_
  refine lv_ldcw hx hb hown (hU _ w1178) dX11_drawn_5 ?_
  refine lv_imul hx hb dX11_drawn_8 (lv_topi (fun v1 e_v1 => ?_))
  refine lv_sipush (v := 12345) hx hb dX11_drawn_9 (by decide) ?_
  refine lv_iadd hx hb dX11_drawn_12 (lv_topi (fun v2 e_v2 => ?_))
  refine tz_put (ci := 8) (v := .int v2) (ty := .int) (C := RX11) (F := TX11) (N := 36) hx hb hU iX11 tyX11 tyX11_ok nmX11 hown hK hT hS 0 rfl rfl 2 (by decide) w787 (fun _ h9 => h9) rfl (by decide +kernel) rfl rfl (Nat.le_of_ble_eq_true rfl) dX11_drawn_13 (fun H locs hT hS => ?_)
  have hT : TP D A [(h0, ob 8 [.int h0f0, .int h0f1, .int v2, .int h0f3, .int h0f4, .int h0f5, .ref h1, .ref h2, .int h0f8, .int h0f9, .ref h3, .ref h4, .ref h5, .ref h6, .ref h7, .ref h8, .ref h9, .int h0f17, .int h0f18, .int h0f19, .ref h10, .ref h11, .ref h12, .ref h13, .int h0f24, .int h0f25, .ref h14, .ref h15, .ref h16, .ref h17, .int h0f30, .int h0f31, .ref h18, .ref h19, .ref h20, .ref h21])] _ := hT
  refine lv_aload_n hx hb dX11_drawn_16 rfl (lv_at hl 0 rfl) ?_
  refine tz_get (ci := 8) (v := .int v2) (C := RX11) (F := TX11) (N := 36) hx hb hU iX11 hown hK hT 0 rfl rfl 2 (by decide) w787 (fun _ h9 => h9) rfl dX11_drawn_17 ?_
  refine lv_bipush (v := 16) hx hb dX11_drawn_20 (by decide) ?_
  refine lv_iushr hx hb dX11_drawn_22 rfl (lv_topi (fun v3 e_v3 => ?_))
  have e_v3 := ai_ushr16 e_v3
  refine lv_iload_n hx hb dX11_drawn_23 rfl (lv_at hl 1 rfl) ?_
  refine lv_irem hx hb dX11_drawn_24 (by decide +kernel) (lv_topi (fun v4 e_v4 => ?_))
  have e_v4 := ai_rem e_v4 rfl li_5 (by omega)
  exact tz_retI (B := B_cX11_drawn_a431c D k h0 h1 h2 h3 h4 h5 h6 h7 h8 h9 h10 h11 h12 h13 h14 h15 h16 h17 h18 h19 h20 h21 h0f0 h0f1 h0f2 h0f3 h0f4 h0f5 h0f8 h0f9 h0f17 h0f18 h0f19 h0f24 h0f25 h0f30 h0f31) (v := v4) hQ hx hb hr hlocks hS (Nat.le_of_ble_eq_true rfl) (Nat.le_of_ble_eq_true rfl) dX11_drawn_25 (⟨v2, (by omega), hT⟩)
abbrev Rm_cX11_lot_3d117 : Room := { frames := 3, cells := 0, slots := 0, locals := 67 }
abbrev B_cX11_lot_3d117 (D : va_G) (k : Nat → ClassId) (h0 h1 h3 h2 h4 h5 h6 h7 h8 h9 h10 h11 h12 h13 h14 h15 h16 h17 h18 h19 h20 h21 : Nat) (x1 : Int32) (h0f0 : Int32) (h0f1 : Int32) (h0f2 : Int32) (h0f3 : Int32) (h0f4 : Int32) (h0f5 : Int32) (h0f8 : Int32) (h0f9 : Int32) (h0f17 : Int32) (h0f18 : Int32) (h0f19 : Int32) (h0f24 : Int32) (h0f25 : Int32) (h0f30 : Int32) (h0f31 : Int32) (A : Nat → Prop) (r : Int32) (H : Heap) : Prop := ∃ o0 : Int32, ∃ o1 : Int32, ∃ o2 : Int32, ∃ o3 : Int32, (0 ≤ o0.toInt ∧ o0.toInt ≤ 4) ∧ (0 ≤ o2.toInt ∧ o2.toInt ≤ 1) ∧ (0 ≤ o3.toInt ∧ o3.toInt ≤ 60) ∧ ((-1) ≤ r.toInt ∧ r.toInt ≤ 4) ∧ (o3.toInt = 0 ∨ (o3.toInt = h0f30.toInt ∧ o0.toInt = h0f1.toInt ∧ h0f31.toInt = h0f31.toInt)) ∧ (o2.toInt = 0 ∨ o2.toInt = h0f9.toInt) ∧ TP D A [(h0, ob 8 [.int h0f0, .int o0, .int o1, .int h0f3, .int h0f4, .int h0f5, .ref h1, .ref h2, .int h0f8, .int o2, .ref h3, .ref h4, .ref h5, .ref h6, .ref h7, .ref h8, .ref h9, .int h0f17, .int h0f18, .int h0f19, .ref h10, .ref h11, .ref h12, .ref h13, .int h0f24, .int h0f25, .ref h14, .ref h15, .ref h16, .ref h17, .int o3, .int h0f31, .ref h18, .ref h19, .ref h20, .ref h21]), (h1, aI (k 0) 36 anI), (h3, aJ (k 1) 9 anJ)] H
set_option maxHeartbeats 4000000 in
set_option maxRecDepth 100000 in
theorem cX11_lot_3d117 (l : Launch) (D : va_G) (k : Nat → ClassId) (sz : Nat) (h0 h1 h3 h2 h4 h5 h6 h7 h8 h9 h10 h11 h12 h13 h14 h15 h16 h17 h18 h19 h20 h21 : Nat) (x1 : Int32) (h0f0 : Int32) (h0f1 : Int32) (h0f2 : Int32) (h0f3 : Int32) (h0f4 : Int32) (h0f5 : Int32) (h0f8 : Int32) (h0f9 : Int32) (h0f17 : Int32) (h0f18 : Int32) (h0f19 : Int32) (h0f24 : Int32) (h0f25 : Int32) (h0f30 : Int32) (h0f31 : Int32) (b_h0f0 : 1 ≤ h0f0.toInt ∧ h0f0.toInt ≤ 3) (b_h0f1 : 0 ≤ h0f1.toInt ∧ h0f1.toInt ≤ 4) (b_h0f3 : 0 ≤ h0f3.toInt ∧ h0f3.toInt ≤ 3) (b_h0f4 : 0 ≤ h0f4.toInt ∧ h0f4.toInt ≤ 4) (b_h0f8 : 0 ≤ h0f8.toInt ∧ h0f8.toInt ≤ 1) (b_h0f9 : 0 ≤ h0f9.toInt ∧ h0f9.toInt ≤ 1) (b_h0f17 : 0 ≤ h0f17.toInt ∧ h0f17.toInt ≤ 120) (b_h0f18 : 0 ≤ h0f18.toInt ∧ h0f18.toInt ≤ 120) (b_h0f19 : 0 ≤ h0f19.toInt ∧ h0f19.toInt ≤ 4) (b_h0f24 : 0 ≤ h0f24.toInt ∧ h0f24.toInt ≤ 100) (b_h0f25 : 0 ≤ h0f25.toInt ∧ h0f25.toInt ≤ 1) (b_h0f30 : 0 ≤ h0f30.toInt ∧ h0f30.toInt ≤ 60) (b_h0f31 : 0 ≤ h0f31.toInt ∧ h0f31.toInt ≤ 1) (i_0 : h0f8.toInt ≤ h0f3.toInt) (i_1 : h0f9.toInt ≤ h0f24.toInt) : Met l yX11_lot (Cond.code yX11_lot cX11_lot 7 (some .int) :: uw) Rm_cX11_lot_3d117 (pT D k sz [.ref h0, .int x1] [(h0, ob 8 [.int h0f0, .int h0f1, .int h0f2, .int h0f3, .int h0f4, .int h0f5, .ref h1, .ref h2, .int h0f8, .int h0f9, .ref h3, .ref h4, .ref h5, .ref h6, .ref h7, .ref h8, .ref h9, .int h0f17, .int h0f18, .int h0f19, .ref h10, .ref h11, .ref h12, .ref h13, .int h0f24, .int h0f25, .ref h14, .ref h15, .ref h16, .ref h17, .int h0f30, .int h0f31, .ref h18, .ref h19, .ref h20, .ref h21]), (h1, aI (k 0) 36 anI), (h3, aJ (k 1) 9 anJ)]) (qI (B_cX11_lot_3d117 D k h0 h1 h3 h2 h4 h5 h6 h7 h8 h9 h10 h11 h12 h13 h14 h15 h16 h17 h18 h19 h20 h21 x1 h0f0 h0f1 h0f2 h0f3 h0f4 h0f5 h0f8 h0f9 h0f17 h0f18 h0f19 h0f24 h0f25 h0f30 h0f31 (zA [h0, h1, h3] sz)) (zA [h0, h1, h3] sz)) 0 0 (zA [h0, h1, h3] sz) := by
  refine tz_begin (as := [h0, h1, h3]) (Qc := fun A => qI (B_cX11_lot_3d117 D k h0 h1 h3 h2 h4 h5 h6 h7 h8 h9 h10 h11 h12 h13 h14 h15 h16 h17 h18 h19 h20 h21 x1 h0f0 h0f1 h0f2 h0f3 h0f4 h0f5 h0f8 h0f9 h0f17 h0f18 h0f19 h0f24 h0f25 h0f30 h0f31 A) A) (by decide +kernel) rfl (Nat.le_of_ble_eq_true rfl) ?_
  intro p e s m args below meth c ls A Q hx hb hr hml hown hlocks hin hU hK hT hS hA hl hQ
  have hl : lv_has ls 7 [(0, .ref h0), (1, .int x1)] := hl
  have hT : TP D A [(h0, ob 8 [.int h0f0, .int h0f1, .int h0f2, .int h0f3, .int h0f4, .int h0f5, .ref h1, .ref h2, .int h0f8, .int h0f9, .ref h3, .ref h4, .ref h5, .ref h6, .ref h7, .ref h8, .ref h9, .int h0f17, .int h0f18, .int h0f19, .ref h10, .ref h11, .ref h12, .ref h13, .int h0f24, .int h0f25, .ref h14, .ref h15, .ref h16, .ref h17, .int h0f30, .int h0f31, .ref h18, .ref h19, .ref h20, .ref h21]), (h1, aI (k 0) 36 anI), (h3, aJ (k 1) 9 anJ)] s.heap := hT
  refine lv_iload_n hx hb dX11_lot_0 rfl (lv_at hl 1 rfl) ?_
  have tb_x1 := i32b x1
  obtain ⟨v1, e_v1⟩ : ∃ x : Int64, x1.toInt64 = x := ⟨_, rfl⟩
  refine lv_i2l (v := v1) hx hb dX11_lot_1 e_v1 ?_
  have e_v1 := ai_i2l e_v1 rfl
  refine lv_lconst (v := 1) hx hb dX11_lot_2 (by decide) ?_
  refine lv_ldc2 hx hb hown (hU _ w1173) dX11_lot_3 ?_
  have q_q3 := ll_1
  have q_q4 := ll_4
  refine tcI (Tc := []) (Tr := [(h0, ob 8 [.int h0f0, .int h0f1, .int h0f2, .int h0f3, .int h0f4, .int h0f5, .ref h1, .ref h2, .int h0f8, .int h0f9, .ref h3, .ref h4, .ref h5, .ref h6, .ref h7, .ref h8, .ref h9, .int h0f17, .int h0f18, .int h0f19, .ref h10, .ref h11, .ref h12, .ref h13, .int h0f24, .int h0f25, .ref h14, .ref h15, .ref h16, .ref h17, .int h0f30, .int h0f31, .ref h18, .ref h19, .ref h20, .ref h21]), (h1, aI (k 0) 36 anI), (h3, aJ (k 1) 9 anJ)]) (as := []) (zcS (As := [.long v1, .long 1, .long 4]) (rest := []) (Tc := []) hx hb hml hown hU hK hT [] rfl (by decide) (cX11_in_ca3b9 l D k _ v1 (1) (4) (by have := ll_1; omega) (by have := ll_4; omega)) w901 w899 w900 w72 hdX11_in ⟨rfl, rfl⟩ ⟨Nat.le_of_ble_eq_true rfl, Nat.le_of_ble_eq_true rfl⟩ rfl hl.1 (Nat.le_of_ble_eq_true rfl) dX11_lot_6 ⟨Nat.le_of_ble_eq_true rfl, Nat.le_of_ble_eq_true rfl⟩) hT hS hA [] [0, 1, 2] rfl rfl rfl (by decide) (by decide) (fun r2 H locs hB J hS => ?_)
  rcases hB with ⟨rfl, hT1⟩ | ⟨c_5, c_6, rfl, hT1⟩
  · skip
    have hT := J _ hT1
    have hT : TP D A [(h0, ob 8 [.int h0f0, .int h0f1, .int h0f2, .int h0f3, .int h0f4, .int h0f5, .ref h1, .ref h2, .int h0f8, .int h0f9, .ref h3, .ref h4, .ref h5, .ref h6, .ref h7, .ref h8, .ref h9, .int h0f17, .int h0f18, .int h0f19, .ref h10, .ref h11, .ref h12, .ref h13, .int h0f24, .int h0f25, .ref h14, .ref h15, .ref h16, .ref h17, .int h0f30, .int h0f31, .ref h18, .ref h19, .ref h20, .ref h21]), (h1, aI (k 0) 36 anI), (h3, aJ (k 1) 9 anJ)] _ := hT
    refine lv_if_ne (tgt := 14) hx hb dX11_lot_9 (by decide) (fun cc => absurd (by decide +kernel) cc) (fun _ => ?_)
    refine lv_iconst (v := (-1)) hx hb dX11_lot_12 (by decide) ?_
    exact tz_retI (B := B_cX11_lot_3d117 D k h0 h1 h3 h2 h4 h5 h6 h7 h8 h9 h10 h11 h12 h13 h14 h15 h16 h17 h18 h19 h20 h21 x1 h0f0 h0f1 h0f2 h0f3 h0f4 h0f5 h0f8 h0f9 h0f17 h0f18 h0f19 h0f24 h0f25 h0f30 h0f31) (v := (-1)) hQ hx hb hr hlocks hS (Nat.le_of_ble_eq_true rfl) (Nat.le_of_ble_eq_true rfl) dX11_lot_13 (⟨h0f1, h0f2, h0f9, h0f30, (by have := li_m1; omega), (by have := li_m1; omega), (by have := li_m1; omega), (by have := li_m1; omega), (by have := li_m1; omega), (by have := li_m1; omega), hT⟩)
  · skip
    have hT := J _ hT1
    have hT : TP D A [(h0, ob 8 [.int h0f0, .int h0f1, .int h0f2, .int h0f3, .int h0f4, .int h0f5, .ref h1, .ref h2, .int h0f8, .int h0f9, .ref h3, .ref h4, .ref h5, .ref h6, .ref h7, .ref h8, .ref h9, .int h0f17, .int h0f18, .int h0f19, .ref h10, .ref h11, .ref h12, .ref h13, .int h0f24, .int h0f25, .ref h14, .ref h15, .ref h16, .ref h17, .int h0f30, .int h0f31, .ref h18, .ref h19, .ref h20, .ref h21]), (h1, aI (k 0) 36 anI), (h3, aJ (k 1) 9 anJ)] _ := hT
    refine lv_if_ne (tgt := 14) hx hb dX11_lot_9 (by decide) (fun _ => ?_) (fun cc => absurd cc (by decide +kernel))
    refine lv_iconst (v := 0) hx hb dX11_lot_14 (by decide) ?_
    refine lv_istore_n (lv' := [(2, .int 0), (0, .ref h0), (1, .int x1)]) hx hb dX11_lot_15 rfl hl (by decide) rfl (fun ls hl => ?_)
    have lp16_27 : ∀ (n : Nat) (y22 : Int32) (y23 : Int32) (y24 : Int32) (y25 : Int32) (y26 : Int32) (H : Heap) (locs : List Loc) (ls : Array Slot), (0 ≤ y22.toInt ∧ y22.toInt ≤ 4) → (0 ≤ y23.toInt ∧ y23.toInt ≤ 4) → (0 ≤ y25.toInt ∧ y25.toInt ≤ 1) → (0 ≤ y26.toInt ∧ y26.toInt ≤ 60) → (y26.toInt = 0 ∨ (y26.toInt = h0f30.toInt ∧ y23.toInt = h0f1.toInt)) → (y25.toInt = 0 ∨ y25.toInt = h0f9.toInt) → (x1.toInt + (-1) * y22.toInt + 1).toNat < n → TP D A [(h0, ob 8 [.int h0f0, .int y23, .int y24, .int h0f3, .int h0f4, .int h0f5, .ref h1, .ref h2, .int h0f8, .int y25, .ref h3, .ref h4, .ref h5, .ref h6, .ref h7, .ref h8, .ref h9, .int h0f17, .int h0f18, .int h0f19, .ref h10, .ref h11, .ref h12, .ref h13, .int h0f24, .int h0f25, .ref h14, .ref h15, .ref h16, .ref h17, .int y26, .int h0f31, .ref h18, .ref h19, .ref h20, .ref h21]), (h1, aI (k 0) 36 anI), (h3, aJ (k 1) 9 anJ)] H → va_S A s.heap H locs → lv_has ls 7 [(0, .ref h0), (1, .int x1), (2, .int y22)] → W p l e Rm_cX11_lot_3d117 s m args below meth c H locs 0 0 Q (F0 m 16 ls []) := by
      intro n
      induction n with
      | zero => intro y22 y23 y24 y25 y26 H locs ls b_y22 b_y23 b_y25 b_y26 w_0 w_1 hm hT hS hl; exact absurd hm (Nat.not_lt_zero _)
      | succ n ih =>
        intro y22 y23 y24 y25 y26 H locs ls b_y22 b_y23 b_y25 b_y26 w_0 w_1 hm hT hS hl
        have ih16_27 := ih
        clear ih
        refine lv_iload_n hx hb dX11_lot_16 rfl (lv_at hl 2 rfl) ?_
        refine lv_iload_n hx hb dX11_lot_17 rfl (lv_at hl 1 rfl) ?_
        refine lv_icmp_ge (tgt := 98) hx hb dX11_lot_18 (by decide) (fun c_28 => ?_) (fun c_28 => ?_)
        · skip
          have c_28 := ni_le c_28 rfl rfl
          refine lv_iload_n hx hb dX11_lot_98 rfl (lv_at hl 2 rfl) ?_
          exact tz_retI (B := B_cX11_lot_3d117 D k h0 h1 h3 h2 h4 h5 h6 h7 h8 h9 h10 h11 h12 h13 h14 h15 h16 h17 h18 h19 h20 h21 x1 h0f0 h0f1 h0f2 h0f3 h0f4 h0f5 h0f8 h0f9 h0f17 h0f18 h0f19 h0f24 h0f25 h0f30 h0f31) (v := y22) hQ hx hb hr hlocks hS (Nat.le_of_ble_eq_true rfl) (Nat.le_of_ble_eq_true rfl) dX11_lot_99 (⟨y23, y24, y25, y26, (by omega), (by omega), (by omega), (by omega), (by omega), (by omega), hT⟩)
        · skip
          have c_28 := ni_nle c_28 rfl rfl
          refine lv_aload_n hx hb dX11_lot_21 rfl (lv_at hl 0 rfl) ?_
          refine tz_get (ci := 8) (v := .int y23) (C := RX11) (F := TX11) (N := 36) hx hb hU iX11 hown hK hT 0 rfl rfl 1 (by decide) w786 (fun _ h9 => h9) rfl dX11_lot_22 ?_
          refine lv_iconst (v := 4) hx hb dX11_lot_25 (by decide) ?_
          refine lv_icmp_ge (tgt := 98) hx hb dX11_lot_26 (by decide) (fun c_29 => ?_) (fun c_29 => ?_)
          · skip
            have c_29 := ni_le c_29 li_4 rfl
            refine lv_iload_n hx hb dX11_lot_98 rfl (lv_at hl 2 rfl) ?_
            exact tz_retI (B := B_cX11_lot_3d117 D k h0 h1 h3 h2 h4 h5 h6 h7 h8 h9 h10 h11 h12 h13 h14 h15 h16 h17 h18 h19 h20 h21 x1 h0f0 h0f1 h0f2 h0f3 h0f4 h0f5 h0f8 h0f9 h0f17 h0f18 h0f19 h0f24 h0f25 h0f30 h0f31) (v := y22) hQ hx hb hr hlocks hS (Nat.le_of_ble_eq_true rfl) (Nat.le_of_ble_eq_true rfl) dX11_lot_99 (⟨y23, y24, y25, y26, (by omega), (by omega), (by omega), (by omega), (by omega), (by omega), hT⟩)
          · skip
            have c_29 := ni_nle c_29 li_4 rfl
            refine lv_aload_n hx hb dX11_lot_29 rfl (lv_at hl 0 rfl) ?_
            refine lv_aload_n hx hb dX11_lot_30 rfl (lv_at hl 0 rfl) ?_
            refine tz_get (ci := 8) (v := .int h0f0) (C := RX11) (F := TX11) (N := 36) hx hb hU iX11 hown hK hT 0 rfl rfl 0 (by decide) w785 (fun _ h9 => h9) rfl dX11_lot_31 ?_
            refine tcI (Tc := [(h0, ob 8 [.int h0f0, .int y23, .int y24, .int h0f3, .int h0f4, .int h0f5, .ref h1, .ref h2, .int h0f8, .int y25, .ref h3, .ref h4, .ref h5, .ref h6, .ref h7, .ref h8, .ref h9, .int h0f17, .int h0f18, .int h0f19, .ref h10, .ref h11, .ref h12, .ref h13, .int h0f24, .int h0f25, .ref h14, .ref h15, .ref h16, .ref h17, .int y26, .int h0f31, .ref h18, .ref h19, .ref h20, .ref h21])]) (Tr := [(h1, aI (k 0) 36 anI), (h3, aJ (k 1) 9 anJ)]) (as := [h0]) (zcV (q0 := 0) (ci := 8) (As := [.int h0f0]) (rest := []) (Tc := [(h0, ob 8 [.int h0f0, .int y23, .int y24, .int h0f3, .int h0f4, .int h0f5, .ref h1, .ref h2, .int h0f8, .int y25, .ref h3, .ref h4, .ref h5, .ref h6, .ref h7, .ref h8, .ref h9, .int h0f17, .int h0f18, .int h0f19, .ref h10, .ref h11, .ref h12, .ref h13, .int h0f24, .int h0f25, .ref h14, .ref h15, .ref h16, .ref h17, .int y26, .int h0f31, .ref h18, .ref h19, .ref h20, .ref h21])]) hx hb hml hown hU hK hT rfl rfl [0] rfl (by decide) (cX11_drawn_e4600 l D k _ h0 h1 h2 h3 h4 h5 h6 h7 h8 h9 h10 h11 h12 h13 h14 h15 h16 h17 h18 h19 h20 h21 h0f0 h0f0 y23 y24 h0f3 h0f4 h0f5 h0f8 y25 h0f17 h0f18 h0f19 h0f24 h0f25 y26 h0f31 (by omega) (by omega) (by omega) (by omega) (by omega) (by omega) (by omega) (by omega) (by omega) (by omega) (by omega) (by omega) (by omega) (by omega) (by omega) (by omega)) w1177 w1174 w1176 w60 w72 hdX11_drawn ⟨rfl, rfl⟩ ⟨Nat.le_of_ble_eq_true rfl, Nat.le_of_ble_eq_true rfl⟩ rfl hl.1 (Nat.le_of_ble_eq_true rfl) dX11_lot_34 ⟨Nat.le_of_ble_eq_true rfl, Nat.le_of_ble_eq_true rfl⟩) hT hS hA [0] [1, 2] rfl rfl rfl (by decide) (by decide) (fun r30 H locs hB J hS => ?_)
            obtain ⟨v31, b_r30, hT1⟩ := hB
            have hT := J _ hT1
            have hT : TP D A [(h1, aI (k 0) 36 anI), (h3, aJ (k 1) 9 anJ), (h0, ob 8 [.int h0f0, .int y23, .int v31, .int h0f3, .int h0f4, .int h0f5, .ref h1, .ref h2, .int h0f8, .int y25, .ref h3, .ref h4, .ref h5, .ref h6, .ref h7, .ref h8, .ref h9, .int h0f17, .int h0f18, .int h0f19, .ref h10, .ref h11, .ref h12, .ref h13, .int h0f24, .int h0f25, .ref h14, .ref h15, .ref h16, .ref h17, .int y26, .int h0f31, .ref h18, .ref h19, .ref h20, .ref h21])] _ := hT
            refine lv_istore_n (lv' := [(3, .int r30), (0, .ref h0), (1, .int x1), (2, .int y22)]) hx hb dX11_lot_37 rfl hl (by decide) rfl (fun ls hl => ?_)
            refine lv_aload_n hx hb dX11_lot_38 rfl (lv_at hl 1 rfl) ?_
            refine lv_aload_n hx hb dX11_lot_39 rfl (lv_at hl 1 rfl) ?_
            refine tz_get (ci := 8) (v := .int h0f0) (C := RX11) (F := TX11) (N := 36) hx hb hU iX11 hown hK hT 2 rfl rfl 0 (by decide) w785 (fun _ h9 => h9) rfl dX11_lot_40 ?_
            refine tcI (Tc := [(h0, ob 8 [.int h0f0, .int y23, .int v31, .int h0f3, .int h0f4, .int h0f5, .ref h1, .ref h2, .int h0f8, .int y25, .ref h3, .ref h4, .ref h5, .ref h6, .ref h7, .ref h8, .ref h9, .int h0f17, .int h0f18, .int h0f19, .ref h10, .ref h11, .ref h12, .ref h13, .int h0f24, .int h0f25, .ref h14, .ref h15, .ref h16, .ref h17, .int y26, .int h0f31, .ref h18, .ref h19, .ref h20, .ref h21])]) (Tr := [(h1, aI (k 0) 36 anI), (h3, aJ (k 1) 9 anJ)]) (as := [h0]) (zcV (q0 := 2) (ci := 8) (As := [.int h0f0]) (rest := []) (Tc := [(h0, ob 8 [.int h0f0, .int y23, .int v31, .int h0f3, .int h0f4, .int h0f5, .ref h1, .ref h2, .int h0f8, .int y25, .ref h3, .ref h4, .ref h5, .ref h6, .ref h7, .ref h8, .ref h9, .int h0f17, .int h0f18, .int h0f19, .ref h10, .ref h11, .ref h12, .ref h13, .int h0f24, .int h0f25, .ref h14, .ref h15, .ref h16, .ref h17, .int y26, .int h0f31, .ref h18, .ref h19, .ref h20, .ref h21])]) hx hb hml hown hU hK hT rfl rfl [2] rfl (by decide) (cX11_drawn_e4600 l D k _ h0 h1 h2 h3 h4 h5 h6 h7 h8 h9 h10 h11 h12 h13 h14 h15 h16 h17 h18 h19 h20 h21 h0f0 h0f0 y23 v31 h0f3 h0f4 h0f5 h0f8 y25 h0f17 h0f18 h0f19 h0f24 h0f25 y26 h0f31 (by omega) (by omega) (by omega) (by omega) (by omega) (by omega) (by omega) (by omega) (by omega) (by omega) (by omega) (by omega) (by omega) (by omega) (by omega) (by omega)) w1177 w1174 w1176 w60 w72 hdX11_drawn ⟨rfl, rfl⟩ ⟨Nat.le_of_ble_eq_true rfl, Nat.le_of_ble_eq_true rfl⟩ rfl hl.1 (Nat.le_of_ble_eq_true rfl) dX11_lot_43 ⟨Nat.le_of_ble_eq_true rfl, Nat.le_of_ble_eq_true rfl⟩) hT hS hA [2] [0, 1] rfl rfl rfl (by decide) (by decide) (fun r32 H locs hB J hS => ?_)
            obtain ⟨v33, b_r32, hT1⟩ := hB
            have hT := J _ hT1
            have hT : TP D A [(h1, aI (k 0) 36 anI), (h3, aJ (k 1) 9 anJ), (h0, ob 8 [.int h0f0, .int y23, .int v33, .int h0f3, .int h0f4, .int h0f5, .ref h1, .ref h2, .int h0f8, .int y25, .ref h3, .ref h4, .ref h5, .ref h6, .ref h7, .ref h8, .ref h9, .int h0f17, .int h0f18, .int h0f19, .ref h10, .ref h11, .ref h12, .ref h13, .int h0f24, .int h0f25, .ref h14, .ref h15, .ref h16, .ref h17, .int y26, .int h0f31, .ref h18, .ref h19, .ref h20, .ref h21])] _ := hT
            refine lv_istore (lv' := [(4, .int r32), (3, .int r30), (0, .ref h0), (1, .int x1), (2, .int y22)]) hx hb dX11_lot_46 hl (by decide) rfl (fun ls hl => ?_)
            refine lv_aload_n hx hb dX11_lot_48 rfl (lv_at hl 2 rfl) ?_
            refine lv_iconst (v := 5) hx hb dX11_lot_49 (by decide) ?_
            refine tcI (Tc := [(h0, ob 8 [.int h0f0, .int y23, .int v33, .int h0f3, .int h0f4, .int h0f5, .ref h1, .ref h2, .int h0f8, .int y25, .ref h3, .ref h4, .ref h5, .ref h6, .ref h7, .ref h8, .ref h9, .int h0f17, .int h0f18, .int h0f19, .ref h10, .ref h11, .ref h12, .ref h13, .int h0f24, .int h0f25, .ref h14, .ref h15, .ref h16, .ref h17, .int y26, .int h0f31, .ref h18, .ref h19, .ref h20, .ref h21])]) (Tr := [(h1, aI (k 0) 36 anI), (h3, aJ (k 1) 9 anJ)]) (as := [h0]) (zcV (q0 := 2) (ci := 8) (As := [.int 5]) (rest := []) (Tc := [(h0, ob 8 [.int h0f0, .int y23, .int v33, .int h0f3, .int h0f4, .int h0f5, .ref h1, .ref h2, .int h0f8, .int y25, .ref h3, .ref h4, .ref h5, .ref h6, .ref h7, .ref h8, .ref h9, .int h0f17, .int h0f18, .int h0f19, .ref h10, .ref h11, .ref h12, .ref h13, .int h0f24, .int h0f25, .ref h14, .ref h15, .ref h16, .ref h17, .int y26, .int h0f31, .ref h18, .ref h19, .ref h20, .ref h21])]) hx hb hml hown hU hK hT rfl rfl [2] rfl (by decide) (cX11_drawn_a431c l D k _ h0 h1 h2 h3 h4 h5 h6 h7 h8 h9 h10 h11 h12 h13 h14 h15 h16 h17 h18 h19 h20 h21 h0f0 y23 v33 h0f3 h0f4 h0f5 h0f8 y25 h0f17 h0f18 h0f19 h0f24 h0f25 y26 h0f31 (by omega) (by omega) (by omega) (by omega) (by omega) (by omega) (by omega) (by omega) (by omega) (by omega) (by omega) (by omega) (by omega) (by omega) (by omega)) w1177 w1174 w1176 w60 w72 hdX11_drawn ⟨rfl, rfl⟩ ⟨Nat.le_of_ble_eq_true rfl, Nat.le_of_ble_eq_true rfl⟩ rfl hl.1 (Nat.le_of_ble_eq_true rfl) dX11_lot_50 ⟨Nat.le_of_ble_eq_true rfl, Nat.le_of_ble_eq_true rfl⟩) hT hS hA [2] [0, 1] rfl rfl rfl (by decide) (by decide) (fun r34 H locs hB J hS => ?_)
            obtain ⟨v35, b_r34, hT1⟩ := hB
            have hT := J _ hT1
            have hT : TP D A [(h1, aI (k 0) 36 anI), (h3, aJ (k 1) 9 anJ), (h0, ob 8 [.int h0f0, .int y23, .int v35, .int h0f3, .int h0f4, .int h0f5, .ref h1, .ref h2, .int h0f8, .int y25, .ref h3, .ref h4, .ref h5, .ref h6, .ref h7, .ref h8, .ref h9, .int h0f17, .int h0f18, .int h0f19, .ref h10, .ref h11, .ref h12, .ref h13, .int h0f24, .int h0f25, .ref h14, .ref h15, .ref h16, .ref h17, .int y26, .int h0f31, .ref h18, .ref h19, .ref h20, .ref h21])] _ := hT
            refine lv_iconst (v := 2) hx hb dX11_lot_53 (by decide) ?_
            refine lv_isub hx hb dX11_lot_54 (lv_topi (fun v36 e_v36 => ?_))
            have e_v36 := ai_sub e_v36 rfl li_2 (by omega)
            refine lv_istore (lv' := [(5, .int v36), (4, .int r32), (3, .int r30), (0, .ref h0), (1, .int x1), (2, .int y22)]) hx hb dX11_lot_55 hl (by decide) rfl (fun ls hl => ?_)
            refine lv_aload_n hx hb dX11_lot_57 rfl (lv_at hl 3 rfl) ?_
            refine lv_iload_n hx hb dX11_lot_58 rfl (lv_at hl 2 rfl) ?_
            refine lv_iload hx hb dX11_lot_59 (lv_at hl 1 rfl) ?_
            refine lv_iload_n hx hb dX11_lot_61 rfl (lv_at hl 2 rfl) ?_
            refine lv_iload hx hb dX11_lot_62 (lv_at hl 1 rfl) ?_
            refine lv_icmp_ne (tgt := 71) hx hb dX11_lot_64 (by decide) (fun c_37 => ?_) (fun c_37 => ?_)
            · skip
              have c_37 := ni_ne c_37 rfl rfl
              refine lv_iload hx hb dX11_lot_71 (lv_at hl 0 rfl) ?_
              refine tcV (Tc := [(h0, ob 8 [.int h0f0, .int y23, .int v35, .int h0f3, .int h0f4, .int h0f5, .ref h1, .ref h2, .int h0f8, .int y25, .ref h3, .ref h4, .ref h5, .ref h6, .ref h7, .ref h8, .ref h9, .int h0f17, .int h0f18, .int h0f19, .ref h10, .ref h11, .ref h12, .ref h13, .int h0f24, .int h0f25, .ref h14, .ref h15, .ref h16, .ref h17, .int y26, .int h0f31, .ref h18, .ref h19, .ref h20, .ref h21]), (h3, aJ (k 1) 9 anJ)]) (Tr := [(h1, aI (k 0) 36 anI)]) (as := [h0, h3]) (zcV (q0 := 2) (ci := 8) (As := [.int r30, .int r32, .int v36]) (rest := []) (Tc := [(h0, ob 8 [.int h0f0, .int y23, .int v35, .int h0f3, .int h0f4, .int h0f5, .ref h1, .ref h2, .int h0f8, .int y25, .ref h3, .ref h4, .ref h5, .ref h6, .ref h7, .ref h8, .ref h9, .int h0f17, .int h0f18, .int h0f19, .ref h10, .ref h11, .ref h12, .ref h13, .int h0f24, .int h0f25, .ref h14, .ref h15, .ref h16, .ref h17, .int y26, .int h0f31, .ref h18, .ref h19, .ref h20, .ref h21]), (h3, aJ (k 1) 9 anJ)]) hx hb hml hown hU hK hT rfl rfl [2, 1] rfl (by decide) (cX11_makesUnit_8b80d l D k _ h0 h3 h1 h2 h4 h5 h6 h7 h8 h9 h10 h11 h12 h13 h14 h15 h16 h17 h18 h19 h20 h21 r30 r32 v36 h0f0 y23 v35 h0f3 h0f4 h0f5 h0f8 y25 h0f17 h0f18 h0f19 h0f24 h0f25 y26 h0f31 (by omega) (by omega) (by omega) (by omega) (by omega) (by omega) (by omega) (by omega) (by omega) (by omega) (by omega) (by omega) (by omega) (by omega) (by omega) (by omega) (by omega) (by omega)) w915 w912 w914 w27 w72 hdX11_makesUnit ⟨rfl, rfl⟩ ⟨Nat.le_of_ble_eq_true rfl, Nat.le_of_ble_eq_true rfl⟩ rfl hl.1 (Nat.le_of_ble_eq_true rfl) dX11_lot_73 ⟨Nat.le_of_ble_eq_true rfl, Nat.le_of_ble_eq_true rfl⟩) hT hS hA [2, 1] [0] rfl rfl rfl (by decide) (by decide) (fun H locs hB J hS => ?_)
              have hT1 := hB
              have hT := J _ hT1
              have hT : TP D A [(h1, aI (k 0) 36 anI), (h0, ob 8 [.int h0f0, .int y23, .int v35, .int h0f3, .int h0f4, .int h0f5, .ref h1, .ref h2, .int h0f8, .int y25, .ref h3, .ref h4, .ref h5, .ref h6, .ref h7, .ref h8, .ref h9, .int h0f17, .int h0f18, .int h0f19, .ref h10, .ref h11, .ref h12, .ref h13, .int h0f24, .int h0f25, .ref h14, .ref h15, .ref h16, .ref h17, .int y26, .int h0f31, .ref h18, .ref h19, .ref h20, .ref h21]), (h3, aJ (k 1) 9 anJ)] _ := hT
              refine lv_aload_n hx hb dX11_lot_76 rfl (lv_at hl 3 rfl) ?_
              refine tcI (Tc := [(h0, ob 8 [.int h0f0, .int y23, .int v35, .int h0f3, .int h0f4, .int h0f5, .ref h1, .ref h2, .int h0f8, .int y25, .ref h3, .ref h4, .ref h5, .ref h6, .ref h7, .ref h8, .ref h9, .int h0f17, .int h0f18, .int h0f19, .ref h10, .ref h11, .ref h12, .ref h13, .int h0f24, .int h0f25, .ref h14, .ref h15, .ref h16, .ref h17, .int y26, .int h0f31, .ref h18, .ref h19, .ref h20, .ref h21]), (h1, aI (k 0) 36 anI), (h3, aJ (k 1) 9 anJ)]) (Tr := []) (as := [h0, h1, h3]) (zcV (q0 := 1) (ci := 8) (As := []) (rest := []) (Tc := [(h0, ob 8 [.int h0f0, .int y23, .int v35, .int h0f3, .int h0f4, .int h0f5, .ref h1, .ref h2, .int h0f8, .int y25, .ref h3, .ref h4, .ref h5, .ref h6, .ref h7, .ref h8, .ref h9, .int h0f17, .int h0f18, .int h0f19, .ref h10, .ref h11, .ref h12, .ref h13, .int h0f24, .int h0f25, .ref h14, .ref h15, .ref h16, .ref h17, .int y26, .int h0f31, .ref h18, .ref h19, .ref h20, .ref h21]), (h1, aI (k 0) 36 anI), (h3, aJ (k 1) 9 anJ)]) hx hb hml hown hU hK hT rfl rfl [1, 0, 2] rfl (by decide) (cX11_comes_53948 l D k _ h0 h1 h3 h2 h4 h5 h6 h7 h8 h9 h10 h11 h12 h13 h14 h15 h16 h17 h18 h19 h20 h21 h0f0 y23 v35 h0f3 h0f4 h0f5 h0f8 y25 h0f17 h0f18 h0f19 h0f24 h0f25 y26 h0f31 (by omega) (by omega) (by omega) (by omega) (by omega) (by omega) (by omega) (by omega) (by omega) (by omega) (by omega) (by omega) (by omega) (by omega) (by omega)) w927 w924 w926 w30 w72 hdX11_comes ⟨rfl, rfl⟩ ⟨Nat.le_of_ble_eq_true rfl, Nat.le_of_ble_eq_true rfl⟩ rfl hl.1 (Nat.le_of_ble_eq_true rfl) dX11_lot_77 ⟨Nat.le_of_ble_eq_true rfl, Nat.le_of_ble_eq_true rfl⟩) hT hS hA [1, 0, 2] [] rfl rfl rfl (by decide) (by decide) (fun r39 H locs hB J hS => ?_)
              obtain ⟨v40, b_v40, b_r39, hT1⟩ := hB
              have hT := J _ hT1
              have hT : TP D A [(h0, ob 8 [.int h0f0, .int v40, .int v35, .int h0f3, .int h0f4, .int h0f5, .ref h1, .ref h2, .int h0f8, .int 0, .ref h3, .ref h4, .ref h5, .ref h6, .ref h7, .ref h8, .ref h9, .int h0f17, .int h0f18, .int h0f19, .ref h10, .ref h11, .ref h12, .ref h13, .int h0f24, .int h0f25, .ref h14, .ref h15, .ref h16, .ref h17, .int 0, .int h0f31, .ref h18, .ref h19, .ref h20, .ref h21]), (h1, aI (k 0) 36 anI), (h3, aJ (k 1) 9 anJ)] _ := hT
              refine lv_istore (lv' := [(6, .int r39), (5, .int v36), (4, .int r32), (3, .int r30), (0, .ref h0), (1, .int x1), (2, .int y22)]) hx hb dX11_lot_80 hl (by decide) rfl (fun ls hl => ?_)
              refine lv_iload_n hx hb dX11_lot_82 rfl (lv_at hl 6 rfl) ?_
              refine lv_iload hx hb dX11_lot_83 (lv_at hl 0 rfl) ?_
              refine lv_if_lt (tgt := 92) hx hb dX11_lot_85 (by decide) (fun c_41 => ?_) (fun c_41 => ?_)
              · skip
                have c_41 := ni_lt c_41 rfl li_0
                exfalso; omega
              · skip
                have c_41 := ni_nlt c_41 rfl li_0
                refine lv_iconst (v := 1) hx hb dX11_lot_88 (by decide) ?_
                refine lv_goto (tgt := 93) hx hb dX11_lot_89 (by decide) ?_
                refine lv_iadd hx hb dX11_lot_93 (lv_topi (fun v42 e_v42 => ?_))
                have e_v42 := ai_add e_v42 rfl li_1 (by omega)
                refine lv_istore_n (lv' := [(2, .int v42), (6, .int r39), (5, .int v36), (4, .int r32), (3, .int r30), (0, .ref h0), (1, .int x1)]) hx hb dX11_lot_94 rfl hl (by decide) rfl (fun ls hl => ?_)
                refine lv_goto (tgt := 16) hx hb dX11_lot_95 (by decide) ?_
                exact ih16_27 v42 v40 v35 (0) (0) _ _ _ (by have := li_0; omega) (by have := li_0; omega) (by have := li_0; omega) (by have := li_0; omega) (by have := li_0; omega) (by have := li_0; omega) (by have := li_0; omega) hT hS (lv_sub hl [5, 6, 0] rfl)
            · skip
              have c_37 := ni_eq c_37 rfl rfl
              refine lv_iconst (v := (-1)) hx hb dX11_lot_67 (by decide) ?_
              refine lv_goto (tgt := 73) hx hb dX11_lot_68 (by decide) ?_
              have q_q44 := li_m1
              refine tcV (Tc := [(h0, ob 8 [.int h0f0, .int y23, .int v35, .int h0f3, .int h0f4, .int h0f5, .ref h1, .ref h2, .int h0f8, .int y25, .ref h3, .ref h4, .ref h5, .ref h6, .ref h7, .ref h8, .ref h9, .int h0f17, .int h0f18, .int h0f19, .ref h10, .ref h11, .ref h12, .ref h13, .int h0f24, .int h0f25, .ref h14, .ref h15, .ref h16, .ref h17, .int y26, .int h0f31, .ref h18, .ref h19, .ref h20, .ref h21]), (h3, aJ (k 1) 9 anJ)]) (Tr := [(h1, aI (k 0) 36 anI)]) (as := [h0, h3]) (zcV (q0 := 2) (ci := 8) (As := [.int r30, .int r32, .int (-1)]) (rest := []) (Tc := [(h0, ob 8 [.int h0f0, .int y23, .int v35, .int h0f3, .int h0f4, .int h0f5, .ref h1, .ref h2, .int h0f8, .int y25, .ref h3, .ref h4, .ref h5, .ref h6, .ref h7, .ref h8, .ref h9, .int h0f17, .int h0f18, .int h0f19, .ref h10, .ref h11, .ref h12, .ref h13, .int h0f24, .int h0f25, .ref h14, .ref h15, .ref h16, .ref h17, .int y26, .int h0f31, .ref h18, .ref h19, .ref h20, .ref h21]), (h3, aJ (k 1) 9 anJ)]) hx hb hml hown hU hK hT rfl rfl [2, 1] rfl (by decide) (cX11_makesUnit_8b80d l D k _ h0 h3 h1 h2 h4 h5 h6 h7 h8 h9 h10 h11 h12 h13 h14 h15 h16 h17 h18 h19 h20 h21 r30 r32 ((-1)) h0f0 y23 v35 h0f3 h0f4 h0f5 h0f8 y25 h0f17 h0f18 h0f19 h0f24 h0f25 y26 h0f31 (by omega) (by omega) (by have := li_m1; omega) (by omega) (by omega) (by omega) (by omega) (by omega) (by omega) (by omega) (by omega) (by omega) (by omega) (by omega) (by omega) (by omega) (by have := li_m1; omega) (by have := li_m1; omega)) w915 w912 w914 w27 w72 hdX11_makesUnit ⟨rfl, rfl⟩ ⟨Nat.le_of_ble_eq_true rfl, Nat.le_of_ble_eq_true rfl⟩ rfl hl.1 (Nat.le_of_ble_eq_true rfl) dX11_lot_73 ⟨Nat.le_of_ble_eq_true rfl, Nat.le_of_ble_eq_true rfl⟩) hT hS hA [2, 1] [0] rfl rfl rfl (by decide) (by decide) (fun H locs hB J hS => ?_)
              have hT1 := hB
              have hT := J _ hT1
              have hT : TP D A [(h1, aI (k 0) 36 anI), (h0, ob 8 [.int h0f0, .int y23, .int v35, .int h0f3, .int h0f4, .int h0f5, .ref h1, .ref h2, .int h0f8, .int y25, .ref h3, .ref h4, .ref h5, .ref h6, .ref h7, .ref h8, .ref h9, .int h0f17, .int h0f18, .int h0f19, .ref h10, .ref h11, .ref h12, .ref h13, .int h0f24, .int h0f25, .ref h14, .ref h15, .ref h16, .ref h17, .int y26, .int h0f31, .ref h18, .ref h19, .ref h20, .ref h21]), (h3, aJ (k 1) 9 anJ)] _ := hT
              refine lv_aload_n hx hb dX11_lot_76 rfl (lv_at hl 3 rfl) ?_
              refine tcI (Tc := [(h0, ob 8 [.int h0f0, .int y23, .int v35, .int h0f3, .int h0f4, .int h0f5, .ref h1, .ref h2, .int h0f8, .int y25, .ref h3, .ref h4, .ref h5, .ref h6, .ref h7, .ref h8, .ref h9, .int h0f17, .int h0f18, .int h0f19, .ref h10, .ref h11, .ref h12, .ref h13, .int h0f24, .int h0f25, .ref h14, .ref h15, .ref h16, .ref h17, .int y26, .int h0f31, .ref h18, .ref h19, .ref h20, .ref h21]), (h1, aI (k 0) 36 anI), (h3, aJ (k 1) 9 anJ)]) (Tr := []) (as := [h0, h1, h3]) (zcV (q0 := 1) (ci := 8) (As := []) (rest := []) (Tc := [(h0, ob 8 [.int h0f0, .int y23, .int v35, .int h0f3, .int h0f4, .int h0f5, .ref h1, .ref h2, .int h0f8, .int y25, .ref h3, .ref h4, .ref h5, .ref h6, .ref h7, .ref h8, .ref h9, .int h0f17, .int h0f18, .int h0f19, .ref h10, .ref h11, .ref h12, .ref h13, .int h0f24, .int h0f25, .ref h14, .ref h15, .ref h16, .ref h17, .int y26, .int h0f31, .ref h18, .ref h19, .ref h20, .ref h21]), (h1, aI (k 0) 36 anI), (h3, aJ (k 1) 9 anJ)]) hx hb hml hown hU hK hT rfl rfl [1, 0, 2] rfl (by decide) (cX11_comes_53948 l D k _ h0 h1 h3 h2 h4 h5 h6 h7 h8 h9 h10 h11 h12 h13 h14 h15 h16 h17 h18 h19 h20 h21 h0f0 y23 v35 h0f3 h0f4 h0f5 h0f8 y25 h0f17 h0f18 h0f19 h0f24 h0f25 y26 h0f31 (by omega) (by omega) (by omega) (by omega) (by omega) (by omega) (by omega) (by omega) (by omega) (by omega) (by omega) (by omega) (by omega) (by omega) (by omega)) w927 w924 w926 w30 w72 hdX11_comes ⟨rfl, rfl⟩ ⟨Nat.le_of_ble_eq_true rfl, Nat.le_of_ble_eq_true rfl⟩ rfl hl.1 (Nat.le_of_ble_eq_true rfl) dX11_lot_77 ⟨Nat.le_of_ble_eq_true rfl, Nat.le_of_ble_eq_true rfl⟩) hT hS hA [1, 0, 2] [] rfl rfl rfl (by decide) (by decide) (fun r45 H locs hB J hS => ?_)
              obtain ⟨v46, b_v46, b_r45, hT1⟩ := hB
              have hT := J _ hT1
              have hT : TP D A [(h0, ob 8 [.int h0f0, .int v46, .int v35, .int h0f3, .int h0f4, .int h0f5, .ref h1, .ref h2, .int h0f8, .int 0, .ref h3, .ref h4, .ref h5, .ref h6, .ref h7, .ref h8, .ref h9, .int h0f17, .int h0f18, .int h0f19, .ref h10, .ref h11, .ref h12, .ref h13, .int h0f24, .int h0f25, .ref h14, .ref h15, .ref h16, .ref h17, .int 0, .int h0f31, .ref h18, .ref h19, .ref h20, .ref h21]), (h1, aI (k 0) 36 anI), (h3, aJ (k 1) 9 anJ)] _ := hT
              refine lv_istore (lv' := [(6, .int r45), (5, .int v36), (4, .int r32), (3, .int r30), (0, .ref h0), (1, .int x1), (2, .int y22)]) hx hb dX11_lot_80 hl (by decide) rfl (fun ls hl => ?_)
              refine lv_iload_n hx hb dX11_lot_82 rfl (lv_at hl 6 rfl) ?_
              refine lv_iload hx hb dX11_lot_83 (lv_at hl 0 rfl) ?_
              refine lv_if_lt (tgt := 92) hx hb dX11_lot_85 (by decide) (fun c_47 => ?_) (fun c_47 => ?_)
              · skip
                have c_47 := ni_lt c_47 rfl li_0
                exfalso; omega
              · skip
                have c_47 := ni_nlt c_47 rfl li_0
                refine lv_iconst (v := 1) hx hb dX11_lot_88 (by decide) ?_
                refine lv_goto (tgt := 93) hx hb dX11_lot_89 (by decide) ?_
                refine lv_iadd hx hb dX11_lot_93 (lv_topi (fun v48 e_v48 => ?_))
                have e_v48 := ai_add e_v48 rfl li_1 (by omega)
                refine lv_istore_n (lv' := [(2, .int v48), (6, .int r45), (5, .int v36), (4, .int r32), (3, .int r30), (0, .ref h0), (1, .int x1)]) hx hb dX11_lot_94 rfl hl (by decide) rfl (fun ls hl => ?_)
                refine lv_goto (tgt := 16) hx hb dX11_lot_95 (by decide) ?_
                exact ih16_27 v48 v46 v35 (0) (0) _ _ _ (by have := li_0; omega) (by have := li_0; omega) (by have := li_0; omega) (by have := li_0; omega) (by have := li_0; omega) (by have := li_0; omega) (by have := li_0; omega) hT hS (lv_sub hl [5, 6, 0] rfl)
    exact lp16_27 ((x1.toInt + (-1) * (0 : Int32).toInt + 1).toNat + 1) (0) h0f1 h0f2 h0f9 h0f30 _ _ _ (by have := li_0; omega) (by have := li_0; omega) (by have := li_0; omega) (by have := li_0; omega) (by have := li_0; omega) (by have := li_0; omega) (Nat.lt_succ_self _) hT hS (lv_sub hl [1, 2, 0] rfl)
abbrev Rm_cX10_isSheet_b539c : Room := { frames := 0, cells := 0, slots := 0, locals := 0 }
abbrev B_cX10_isSheet_b539c (D : va_G) (k : Nat → ClassId) (x0 : Int32) (A : Nat → Prop) (r : Int32) (H : Heap) : Prop := (x0.toInt < 0 ∧ 0 = r ∧ TP D A [] H) ∨ (0 ≤ x0.toInt ∧ 4 ≤ x0.toInt ∧ 0 = r ∧ TP D A [] H) ∨ (0 ≤ x0.toInt ∧ x0.toInt < 4 ∧ 1 = r ∧ TP D A [] H)
set_option maxHeartbeats 4000000 in
set_option maxRecDepth 100000 in
theorem cX10_isSheet_b539c (l : Launch) (D : va_G) (k : Nat → ClassId) (sz : Nat) (x0 : Int32) : Met l yX10_isSheet (Cond.code yX10_isSheet cX10_isSheet 1 (some .boolean) :: uw) Rm_cX10_isSheet_b539c (pT D k sz [.int x0] []) (qI (B_cX10_isSheet_b539c D k x0 (zA [] sz)) (zA [] sz)) 0 0 (zA [] sz) := by
  refine tz_begin (as := []) (Qc := fun A => qI (B_cX10_isSheet_b539c D k x0 A) A) (by decide +kernel) rfl (Nat.le_of_ble_eq_true rfl) ?_
  intro p e s m args below meth c ls A Q hx hb hr hml hown hlocks hin hU hK hT hS hA hl hQ
  have hl : lv_has ls 1 [(0, .int x0)] := hl
  have hT : TP D A [] s.heap := hT
  refine lv_iload_n hx hb dX10_isSheet_0 rfl (lv_at hl 0 rfl) ?_
  refine lv_if_lt (tgt := 13) hx hb dX10_isSheet_1 (by decide) (fun c_1 => ?_) (fun c_1 => ?_)
  · skip
    have c_1 := ni_lt c_1 rfl li_0
    refine lv_iconst (v := 0) hx hb dX10_isSheet_13 (by decide) ?_
    exact tz_retZ (B := B_cX10_isSheet_b539c D k x0) (v := 0) hQ hx hb hr hlocks hS (Nat.le_of_ble_eq_true rfl) (Nat.le_of_ble_eq_true rfl) dX10_isSheet_14 (by have := li_0; omega) (Or.inl ⟨(by have := li_0; omega), rfl, hT⟩)
  · skip
    have c_1 := ni_nlt c_1 rfl li_0
    refine lv_iload_n hx hb dX10_isSheet_4 rfl (lv_at hl 0 rfl) ?_
    refine lv_iconst (v := 4) hx hb dX10_isSheet_5 (by decide) ?_
    refine lv_icmp_ge (tgt := 13) hx hb dX10_isSheet_6 (by decide) (fun c_2 => ?_) (fun c_2 => ?_)
    · skip
      have c_2 := ni_le c_2 li_4 rfl
      refine lv_iconst (v := 0) hx hb dX10_isSheet_13 (by decide) ?_
      exact tz_retZ (B := B_cX10_isSheet_b539c D k x0) (v := 0) hQ hx hb hr hlocks hS (Nat.le_of_ble_eq_true rfl) (Nat.le_of_ble_eq_true rfl) dX10_isSheet_14 (by have := li_0; omega) (Or.inr (Or.inl ⟨(by have := li_0; omega), (by have := li_0; omega), rfl, hT⟩))
    · skip
      have c_2 := ni_nle c_2 li_4 rfl
      refine lv_iconst (v := 1) hx hb dX10_isSheet_9 (by decide) ?_
      refine lv_goto (tgt := 14) hx hb dX10_isSheet_10 (by decide) ?_
      exact tz_retZ (B := B_cX10_isSheet_b539c D k x0) (v := 1) hQ hx hb hr hlocks hS (Nat.le_of_ble_eq_true rfl) (Nat.le_of_ble_eq_true rfl) dX10_isSheet_14 (by have := li_1; omega) (Or.inr (Or.inr (⟨(by have := li_1; omega), (by have := li_1; omega), rfl, hT⟩)))
abbrev Rm_cJ7_fill_d0a16_3ef3e : Room := { frames := 0, cells := 0, slots := 0, locals := 0 }
abbrev B_cJ7_fill_d0a16_3ef3e (D : va_G) (k : Nat → ClassId) (h0 : Nat) (x1 : Int64) (A : Nat → Prop) (H : Heap) : Prop := TP D A [(h0, aJ (k 1) 40 anJ)] H
set_option maxHeartbeats 4000000 in
set_option maxRecDepth 100000 in
theorem cJ7_fill_d0a16_3ef3e (l : Launch) (D : va_G) (k : Nat → ClassId) (sz : Nat) (h0 : Nat) (x1 : Int64) (b_x1 : 0 ≤ x1.toInt ∧ x1.toInt ≤ 0) : Met l yJ7_fill_d0a16 (Cond.code yJ7_fill_d0a16 cJ7_fill_d0a16 5 none :: uw) Rm_cJ7_fill_d0a16_3ef3e (pT D k sz [.ref h0, .long x1] [(h0, aJ (k 1) 40 anJ)]) (qV (B_cJ7_fill_d0a16_3ef3e D k h0 x1 (zA [h0] sz)) (zA [h0] sz)) 0 0 (zA [h0] sz) := by
  refine tz_begin (as := [h0]) (Qc := fun A => qV (B_cJ7_fill_d0a16_3ef3e D k h0 x1 A) A) (by decide +kernel) rfl (Nat.le_of_ble_eq_true rfl) ?_
  intro p e s m args below meth c ls A Q hx hb hr hml hown hlocks hin hU hK hT hS hA hl hQ
  have hl : lv_has ls 5 [(0, .ref h0), (1, .long x1)] := hl
  have hT : TP D A [(h0, aJ (k 1) 40 anJ)] s.heap := hT
  refine lv_iconst (v := 0) hx hb dJ7_fill_d0a16_0 (by decide) ?_
  refine lv_istore_n (lv' := [(3, .int 0), (0, .ref h0), (1, .long x1)]) hx hb dJ7_fill_d0a16_1 rfl hl (by decide) rfl (fun ls hl => ?_)
  refine lv_aload_n hx hb dJ7_fill_d0a16_2 rfl (lv_at hl 1 rfl) ?_
  refine tz_alenl (v := 40) hx hb hK hT 0 rfl (by decide +kernel) dJ7_fill_d0a16_3 ?_
  refine lv_istore (lv' := [(4, .int 40), (3, .int 0), (0, .ref h0), (1, .long x1)]) hx hb dJ7_fill_d0a16_4 hl (by decide) rfl (fun ls hl => ?_)
  have lp6_11 : ∀ (n : Nat) (y10 : Int32) (H : Heap) (locs : List Loc) (ls : Array Slot), (0 ≤ y10.toInt ∧ y10.toInt ≤ 59) → ((-1) * y10.toInt + 40 + 1).toNat < n → TP D A [(h0, aJ (k 1) 40 anJ)] H → va_S A s.heap H locs → lv_has ls 5 [(0, .ref h0), (1, .long x1), (3, .int y10), (4, .int 40)] → W p l e Rm_cJ7_fill_d0a16_3ef3e s m args below meth c H locs 0 0 Q (F0 m 6 ls []) := by
    intro n
    induction n with
    | zero => intro y10 H locs ls b_y10 hm hT hS hl; exact absurd hm (Nat.not_lt_zero _)
    | succ n ih =>
      intro y10 H locs ls b_y10 hm hT hS hl
      have ih6_11 := ih
      clear ih
      refine lv_iload_n hx hb dJ7_fill_d0a16_6 rfl (lv_at hl 2 rfl) ?_
      refine lv_iload hx hb dJ7_fill_d0a16_7 (lv_at hl 3 rfl) ?_
      refine lv_icmp_ge (tgt := 22) hx hb dJ7_fill_d0a16_9 (by decide) (fun c_12 => ?_) (fun c_12 => ?_)
      · skip
        have c_12 := ni_le c_12 li_40 rfl
        exact tz_retV (B := B_cJ7_fill_d0a16_3ef3e D k h0 x1) hQ hx hb hr hlocks hS (Nat.le_of_ble_eq_true rfl) (Nat.le_of_ble_eq_true rfl) dJ7_fill_d0a16_22 (hT)
      · skip
        have c_12 := ni_nle c_12 li_40 rfl
        refine lv_aload_n hx hb dJ7_fill_d0a16_12 rfl (lv_at hl 0 rfl) ?_
        refine lv_iload_n hx hb dJ7_fill_d0a16_13 rfl (lv_at hl 2 rfl) ?_
        refine lv_lload_n hx hb dJ7_fill_d0a16_14 rfl (lv_at hl 1 rfl) ?_
        refine tz_last hx hb hK hT hS 0 rfl (by omega) (fun _ _ => trivial) dJ7_fill_d0a16_15 (fun H locs hT hS => ?_)
        obtain ⟨v13, e_v13⟩ : ∃ x : Int32, x = y10 + Int32.ofInt 1 := ⟨_, rfl⟩
        have f_v13 := e_v13.symm
        have e_v13 : v13.toInt = y10.toInt + 1 := ai_add e_v13 rfl (show (Int32.ofInt 1).toInt = 1 from (by decide +kernel)) (by omega)
        refine lv_iinc (v := v13) (lv' := [(3, .int v13), (0, .ref h0), (1, .long x1), (4, .int 40)]) hx hb dJ7_fill_d0a16_16 hl (k := 2) rfl f_v13 (by decide) rfl (fun ls hl => ?_)
        refine lv_goto (tgt := 6) hx hb dJ7_fill_d0a16_19 (by decide) ?_
        exact ih6_11 v13 _ _ _ (by omega)  (by omega) hT hS (lv_sub hl [1, 2, 0, 3] rfl)
  exact lp6_11 (((-1) * (0 : Int32).toInt + 40 + 1).toNat + 1) (0) _ _ _ (by have := li_0; omega)  (Nat.lt_succ_self _) hT hS (lv_sub hl [2, 3, 1, 0] rfl)
abbrev Rm_cX6_become_2eaac : Room := { frames := 1, cells := 0, slots := 0, locals := 24 }
abbrev B_cX6_become_2eaac (D : va_G) (k : Nat → ClassId) (h0 h1 : Nat) (x1 : Int32) (x2 : Int32) (h0f0 : Int32) (h0f1 : Int32) (A : Nat → Prop) (H : Heap) : Prop := TP D A [(h0, ob 5 [.int x1, .int x2, .ref h1]), (h1, aJ (k 1) 40 anJ)] H
set_option maxHeartbeats 4000000 in
set_option maxRecDepth 100000 in
theorem cX6_become_2eaac (l : Launch) (D : va_G) (k : Nat → ClassId) (sz : Nat) (h0 h1 : Nat) (x1 : Int32) (x2 : Int32) (h0f0 : Int32) (h0f1 : Int32) (b_x1 : (-1) ≤ x1.toInt ∧ x1.toInt ≤ 2) (b_x2 : 0 ≤ x2.toInt ∧ x2.toInt ≤ 40) (b_h0f0 : (-1) ≤ h0f0.toInt ∧ h0f0.toInt ≤ 2) (b_h0f1 : 0 ≤ h0f1.toInt ∧ h0f1.toInt ≤ 40) : Met l yX6_become (Cond.code yX6_become cX6_become 3 none :: uw) Rm_cX6_become_2eaac (pT D k sz [.ref h0, .int x1, .int x2] [(h0, ob 5 [.int h0f0, .int h0f1, .ref h1]), (h1, aJ (k 1) 40 anJ)]) (qV (B_cX6_become_2eaac D k h0 h1 x1 x2 h0f0 h0f1 (zA [h0, h1] sz)) (zA [h0, h1] sz)) 0 0 (zA [h0, h1] sz) := by
  refine tz_begin (as := [h0, h1]) (Qc := fun A => qV (B_cX6_become_2eaac D k h0 h1 x1 x2 h0f0 h0f1 A) A) (by decide +kernel) rfl (Nat.le_of_ble_eq_true rfl) ?_
  intro p e s m args below meth c ls A Q hx hb hr hml hown hlocks hin hU hK hT hS hA hl hQ
  have hl : lv_has ls 3 [(0, .ref h0), (1, .int x1), (2, .int x2)] := hl
  have hT : TP D A [(h0, ob 5 [.int h0f0, .int h0f1, .ref h1]), (h1, aJ (k 1) 40 anJ)] s.heap := hT
  refine lv_aload_n hx hb dX6_become_0 rfl (lv_at hl 0 rfl) ?_
  refine lv_iload_n hx hb dX6_become_1 rfl (lv_at hl 1 rfl) ?_
  refine tz_put (ci := 5) (v := .int x1) (ty := .int) (C := RX6) (F := TX6) (N := 3) hx hb hU iX6 tyX6 tyX6_ok nmX6 hown hK hT hS 0 rfl rfl 0 (by decide) w237 (fun _ h9 => h9) rfl (by decide +kernel) rfl rfl (Nat.le_of_ble_eq_true rfl) dX6_become_2 (fun H locs hT hS => ?_)
  have hT : TP D A [(h0, ob 5 [.int x1, .int h0f1, .ref h1]), (h1, aJ (k 1) 40 anJ)] _ := hT
  refine lv_aload_n hx hb dX6_become_5 rfl (lv_at hl 0 rfl) ?_
  refine lv_iload_n hx hb dX6_become_6 rfl (lv_at hl 2 rfl) ?_
  refine tz_put (ci := 5) (v := .int x2) (ty := .int) (C := RX6) (F := TX6) (N := 3) hx hb hU iX6 tyX6 tyX6_ok nmX6 hown hK hT hS 0 rfl rfl 1 (by decide) w239 (fun _ h9 => h9) rfl (by decide +kernel) rfl rfl (Nat.le_of_ble_eq_true rfl) dX6_become_7 (fun H locs hT hS => ?_)
  have hT : TP D A [(h0, ob 5 [.int x1, .int x2, .ref h1]), (h1, aJ (k 1) 40 anJ)] _ := hT
  refine lv_aload_n hx hb dX6_become_10 rfl (lv_at hl 0 rfl) ?_
  refine tz_get (ci := 5) (v := .ref h1) (C := RX6) (F := TX6) (N := 3) hx hb hU iX6 hown hK hT 0 rfl rfl 2 (by decide) w240 (fun _ h9 => h9) rfl dX6_become_11 ?_
  refine lv_lconst (v := 0) hx hb dX6_become_14 (by decide) ?_
  have q_q2 := ll_0
  refine tcV (Tc := [(h1, aJ (k 1) 40 anJ)]) (Tr := [(h0, ob 5 [.int x1, .int x2, .ref h1])]) (as := [h1]) (zcS (As := [.ref h1, .long 0]) (rest := []) (Tc := [(h1, aJ (k 1) 40 anJ)]) hx hb hml hown hU hK hT [1] rfl (by decide) (cJ7_fill_d0a16_3ef3e l D k _ h1 (0) (by have := ll_0; omega)) w336 w737 w335 w73 hdJ7_fill_d0a16 ⟨rfl, rfl⟩ ⟨Nat.le_of_ble_eq_true rfl, Nat.le_of_ble_eq_true rfl⟩ rfl hl.1 (Nat.le_of_ble_eq_true rfl) dX6_become_15 ⟨Nat.le_of_ble_eq_true rfl, Nat.le_of_ble_eq_true rfl⟩) hT hS hA [1] [0] rfl rfl rfl (by decide) (by decide) (fun H locs hB J hS => ?_)
  have hT1 := hB
  have hT := J _ hT1
  have hT : TP D A [(h0, ob 5 [.int x1, .int x2, .ref h1]), (h1, aJ (k 1) 40 anJ)] _ := hT
  exact tz_retV (B := B_cX6_become_2eaac D k h0 h1 x1 x2 h0f0 h0f1) hQ hx hb hr hlocks hS (Nat.le_of_ble_eq_true rfl) (Nat.le_of_ble_eq_true rfl) dX6_become_18 (hT)
abbrev Rm_cX10_isSort_c9073 : Room := { frames := 0, cells := 0, slots := 0, locals := 0 }
abbrev B_cX10_isSort_c9073 (D : va_G) (k : Nat → ClassId) (x0 : Int32) (A : Nat → Prop) (r : Int32) (H : Heap) : Prop := (x0.toInt < 0 ∧ 0 = r ∧ TP D A [] H) ∨ (0 ≤ x0.toInt ∧ 2 < x0.toInt ∧ 0 = r ∧ TP D A [] H) ∨ (0 ≤ x0.toInt ∧ x0.toInt ≤ 2 ∧ 1 = r ∧ TP D A [] H)
set_option maxHeartbeats 4000000 in
set_option maxRecDepth 100000 in
theorem cX10_isSort_c9073 (l : Launch) (D : va_G) (k : Nat → ClassId) (sz : Nat) (x0 : Int32) : Met l yX10_isSort (Cond.code yX10_isSort cX10_isSort 1 (some .boolean) :: uw) Rm_cX10_isSort_c9073 (pT D k sz [.int x0] []) (qI (B_cX10_isSort_c9073 D k x0 (zA [] sz)) (zA [] sz)) 0 0 (zA [] sz) := by
  refine tz_begin (as := []) (Qc := fun A => qI (B_cX10_isSort_c9073 D k x0 A) A) (by decide +kernel) rfl (Nat.le_of_ble_eq_true rfl) ?_
  intro p e s m args below meth c ls A Q hx hb hr hml hown hlocks hin hU hK hT hS hA hl hQ
  have hl : lv_has ls 1 [(0, .int x0)] := hl
  have hT : TP D A [] s.heap := hT
  refine lv_iload_n hx hb dX10_isSort_0 rfl (lv_at hl 0 rfl) ?_
  refine lv_if_lt (tgt := 13) hx hb dX10_isSort_1 (by decide) (fun c_1 => ?_) (fun c_1 => ?_)
  · skip
    have c_1 := ni_lt c_1 rfl li_0
    refine lv_iconst (v := 0) hx hb dX10_isSort_13 (by decide) ?_
    exact tz_retZ (B := B_cX10_isSort_c9073 D k x0) (v := 0) hQ hx hb hr hlocks hS (Nat.le_of_ble_eq_true rfl) (Nat.le_of_ble_eq_true rfl) dX10_isSort_14 (by have := li_0; omega) (Or.inl ⟨(by have := li_0; omega), rfl, hT⟩)
  · skip
    have c_1 := ni_nlt c_1 rfl li_0
    refine lv_iload_n hx hb dX10_isSort_4 rfl (lv_at hl 0 rfl) ?_
    refine lv_iconst (v := 2) hx hb dX10_isSort_5 (by decide) ?_
    refine lv_icmp_gt (tgt := 13) hx hb dX10_isSort_6 (by decide) (fun c_2 => ?_) (fun c_2 => ?_)
    · skip
      have c_2 := ni_lt c_2 li_2 rfl
      refine lv_iconst (v := 0) hx hb dX10_isSort_13 (by decide) ?_
      exact tz_retZ (B := B_cX10_isSort_c9073 D k x0) (v := 0) hQ hx hb hr hlocks hS (Nat.le_of_ble_eq_true rfl) (Nat.le_of_ble_eq_true rfl) dX10_isSort_14 (by have := li_0; omega) (Or.inr (Or.inl ⟨(by have := li_0; omega), (by have := li_0; omega), rfl, hT⟩))
    · skip
      have c_2 := ni_nlt c_2 li_2 rfl
      refine lv_iconst (v := 1) hx hb dX10_isSort_9 (by decide) ?_
      refine lv_goto (tgt := 14) hx hb dX10_isSort_10 (by decide) ?_
      exact tz_retZ (B := B_cX10_isSort_c9073 D k x0) (v := 1) hQ hx hb hr hlocks hS (Nat.le_of_ble_eq_true rfl) (Nat.le_of_ble_eq_true rfl) dX10_isSort_14 (by have := li_1; omega) (Or.inr (Or.inr (⟨(by have := li_1; omega), (by have := li_1; omega), rfl, hT⟩)))
abbrev Rm_cX10_sheet_02988 : Room := { frames := 2, cells := 0, slots := 0, locals := 46 }
abbrev B_cX10_sheet_02988 (D : va_G) (k : Nat → ClassId) (h0 h4 h17 h18 h19 h20 h37 h38 h39 h40 h1 h2 h3 h5 h6 h7 h8 h9 h10 h11 h12 : Nat) (x1 : Int32) (x2 : Int32) (x3 : Int32) (h0f2 : Int32) (h0f6 : Int32) (h0f8 : Int32) (h0f11 : Int32) (h17f0 : Int32) (h17f1 : Int32) (h18f0 : Int32) (h18f1 : Int32) (h19f0 : Int32) (h19f1 : Int32) (h20f0 : Int32) (h20f1 : Int32) (A : Nat → Prop) (r : Int32) (H : Heap) : Prop := ∃ o0 : Int32, ∃ o1 : Int32, ∃ o2 : Int32, ∃ o3 : Int32, ∃ o4 : Int32, ∃ o5 : Int32, ∃ o6 : Int32, ∃ o7 : Int32, ((-1) ≤ o0.toInt ∧ o0.toInt ≤ 2) ∧ (0 ≤ o1.toInt ∧ o1.toInt ≤ 40) ∧ ((-1) ≤ o2.toInt ∧ o2.toInt ≤ 2) ∧ (0 ≤ o3.toInt ∧ o3.toInt ≤ 40) ∧ ((-1) ≤ o4.toInt ∧ o4.toInt ≤ 2) ∧ (0 ≤ o5.toInt ∧ o5.toInt ≤ 40) ∧ ((-1) ≤ o6.toInt ∧ o6.toInt ≤ 2) ∧ (0 ≤ o7.toInt ∧ o7.toInt ≤ 40) ∧ ((-14) ≤ r.toInt ∧ r.toInt ≤ 1) ∧ (o0.toInt = GSi 0 x1.toInt x2.toInt x3.toInt (h17f0.toInt)) ∧ (o2.toInt = GSi 1 x1.toInt x2.toInt x3.toInt (h18f0.toInt)) ∧ (o4.toInt = GSi 2 x1.toInt x2.toInt x3.toInt (h19f0.toInt)) ∧ (o6.toInt = GSi 3 x1.toInt x2.toInt x3.toInt (h20f0.toInt)) ∧ (o1.toInt = GLi 0 x1.toInt x2.toInt x3.toInt (h17f1.toInt)) ∧ (o3.toInt = GLi 1 x1.toInt x2.toInt x3.toInt (h18f1.toInt)) ∧ (o5.toInt = GLi 2 x1.toInt x2.toInt x3.toInt (h19f1.toInt)) ∧ (o7.toInt = GLi 3 x1.toInt x2.toInt x3.toInt (h20f1.toInt)) ∧ TP D A [(h0, ob 7 [.ref h1, .ref h2, .int h0f2, .ref h3, .ref h4, .ref h5, .int h0f6, .ref h6, .int h0f8, .null, .ref h7, .int h0f11, .ref h8, .ref h9, .ref h10, .ref h11, .ref h12]), (h4, aQ (k 3) 4 (q4 h17 h18 h19 h20)), (h17, ob 5 [.int o0, .int o1, .ref h37]), (h18, ob 5 [.int o2, .int o3, .ref h38]), (h19, ob 5 [.int o4, .int o5, .ref h39]), (h20, ob 5 [.int o6, .int o7, .ref h40]), (h37, aJ (k 1) 40 anJ), (h38, aJ (k 1) 40 anJ), (h39, aJ (k 1) 40 anJ), (h40, aJ (k 1) 40 anJ)] H
set_option maxHeartbeats 4000000 in
set_option maxRecDepth 100000 in
theorem cX10_sheet_02988 (l : Launch) (D : va_G) (k : Nat → ClassId) (sz : Nat) (h0 h4 h17 h18 h19 h20 h37 h38 h39 h40 h1 h2 h3 h5 h6 h7 h8 h9 h10 h11 h12 : Nat) (x1 : Int32) (x2 : Int32) (x3 : Int32) (h0f2 : Int32) (h0f6 : Int32) (h0f8 : Int32) (h0f11 : Int32) (h17f0 : Int32) (h17f1 : Int32) (h18f0 : Int32) (h18f1 : Int32) (h19f0 : Int32) (h19f1 : Int32) (h20f0 : Int32) (h20f1 : Int32) (b_h0f2 : 0 ≤ h0f2.toInt ∧ h0f2.toInt ≤ 1) (b_h0f6 : 0 ≤ h0f6.toInt ∧ h0f6.toInt ≤ 1) (b_h0f8 : 0 ≤ h0f8.toInt ∧ h0f8.toInt ≤ 1) (b_h0f11 : 0 ≤ h0f11.toInt ∧ h0f11.toInt ≤ 200) (b_h17f0 : (-1) ≤ h17f0.toInt ∧ h17f0.toInt ≤ 2) (b_h17f1 : 0 ≤ h17f1.toInt ∧ h17f1.toInt ≤ 40) (b_h18f0 : (-1) ≤ h18f0.toInt ∧ h18f0.toInt ≤ 2) (b_h18f1 : 0 ≤ h18f1.toInt ∧ h18f1.toInt ≤ 40) (b_h19f0 : (-1) ≤ h19f0.toInt ∧ h19f0.toInt ≤ 2) (b_h19f1 : 0 ≤ h19f1.toInt ∧ h19f1.toInt ≤ 40) (b_h20f0 : (-1) ≤ h20f0.toInt ∧ h20f0.toInt ≤ 2) (b_h20f1 : 0 ≤ h20f1.toInt ∧ h20f1.toInt ≤ 40) : Met l yX10_sheet (Cond.code yX10_sheet cX10_sheet 4 (some .int) :: uw) Rm_cX10_sheet_02988 (pT D k sz [.ref h0, .int x1, .int x2, .int x3] [(h0, ob 7 [.ref h1, .ref h2, .int h0f2, .ref h3, .ref h4, .ref h5, .int h0f6, .ref h6, .int h0f8, .null, .ref h7, .int h0f11, .ref h8, .ref h9, .ref h10, .ref h11, .ref h12]), (h4, aQ (k 3) 4 (q4 h17 h18 h19 h20)), (h17, ob 5 [.int h17f0, .int h17f1, .ref h37]), (h18, ob 5 [.int h18f0, .int h18f1, .ref h38]), (h19, ob 5 [.int h19f0, .int h19f1, .ref h39]), (h20, ob 5 [.int h20f0, .int h20f1, .ref h40]), (h37, aJ (k 1) 40 anJ), (h38, aJ (k 1) 40 anJ), (h39, aJ (k 1) 40 anJ), (h40, aJ (k 1) 40 anJ)]) (qI (B_cX10_sheet_02988 D k h0 h4 h17 h18 h19 h20 h37 h38 h39 h40 h1 h2 h3 h5 h6 h7 h8 h9 h10 h11 h12 x1 x2 x3 h0f2 h0f6 h0f8 h0f11 h17f0 h17f1 h18f0 h18f1 h19f0 h19f1 h20f0 h20f1 (zA [h0, h4, h17, h18, h19, h20, h37, h38, h39, h40] sz)) (zA [h0, h4, h17, h18, h19, h20, h37, h38, h39, h40] sz)) 0 0 (zA [h0, h4, h17, h18, h19, h20, h37, h38, h39, h40] sz) := by
  refine tz_begin (as := [h0, h4, h17, h18, h19, h20, h37, h38, h39, h40]) (Qc := fun A => qI (B_cX10_sheet_02988 D k h0 h4 h17 h18 h19 h20 h37 h38 h39 h40 h1 h2 h3 h5 h6 h7 h8 h9 h10 h11 h12 x1 x2 x3 h0f2 h0f6 h0f8 h0f11 h17f0 h17f1 h18f0 h18f1 h19f0 h19f1 h20f0 h20f1 A) A) (by decide +kernel) rfl (Nat.le_of_ble_eq_true rfl) ?_
  intro p e s m args below meth c ls A Q hx hb hr hml hown hlocks hin hU hK hT hS hA hl hQ
  have hl : lv_has ls 4 [(0, .ref h0), (1, .int x1), (2, .int x2), (3, .int x3)] := hl
  have hT : TP D A [(h0, ob 7 [.ref h1, .ref h2, .int h0f2, .ref h3, .ref h4, .ref h5, .int h0f6, .ref h6, .int h0f8, .null, .ref h7, .int h0f11, .ref h8, .ref h9, .ref h10, .ref h11, .ref h12]), (h4, aQ (k 3) 4 (q4 h17 h18 h19 h20)), (h17, ob 5 [.int h17f0, .int h17f1, .ref h37]), (h18, ob 5 [.int h18f0, .int h18f1, .ref h38]), (h19, ob 5 [.int h19f0, .int h19f1, .ref h39]), (h20, ob 5 [.int h20f0, .int h20f1, .ref h40]), (h37, aJ (k 1) 40 anJ), (h38, aJ (k 1) 40 anJ), (h39, aJ (k 1) 40 anJ), (h40, aJ (k 1) 40 anJ)] s.heap := hT
  refine lv_iload_n hx hb dX10_sheet_0 rfl (lv_at hl 1 rfl) ?_
  refine tcI (Tc := []) (Tr := [(h0, ob 7 [.ref h1, .ref h2, .int h0f2, .ref h3, .ref h4, .ref h5, .int h0f6, .ref h6, .int h0f8, .null, .ref h7, .int h0f11, .ref h8, .ref h9, .ref h10, .ref h11, .ref h12]), (h4, aQ (k 3) 4 (q4 h17 h18 h19 h20)), (h17, ob 5 [.int h17f0, .int h17f1, .ref h37]), (h18, ob 5 [.int h18f0, .int h18f1, .ref h38]), (h19, ob 5 [.int h19f0, .int h19f1, .ref h39]), (h20, ob 5 [.int h20f0, .int h20f1, .ref h40]), (h37, aJ (k 1) 40 anJ), (h38, aJ (k 1) 40 anJ), (h39, aJ (k 1) 40 anJ), (h40, aJ (k 1) 40 anJ)]) (as := []) (zcS (As := [.int x1]) (rest := []) (Tc := []) hx hb hml hown hU hK hT [] rfl (by decide) (cX10_isSheet_b539c l D k _ x1) w640 w638 w639 w63 hdX10_isSheet ⟨rfl, rfl⟩ ⟨Nat.le_of_ble_eq_true rfl, Nat.le_of_ble_eq_true rfl⟩ rfl hl.1 (Nat.le_of_ble_eq_true rfl) dX10_sheet_1 ⟨Nat.le_of_ble_eq_true rfl, Nat.le_of_ble_eq_true rfl⟩) hT hS hA [] [0, 1, 2, 3, 4, 5, 6, 7, 8, 9] rfl rfl rfl (by decide) (by decide) (fun r1 H locs hB J hS => ?_)
  rcases hB with ⟨c_2, rfl, hT1⟩ | ⟨c_3, c_4, rfl, hT1⟩ | ⟨c_5, c_6, rfl, hT1⟩
  · skip
    have hT := J _ hT1
    have hT : TP D A [(h0, ob 7 [.ref h1, .ref h2, .int h0f2, .ref h3, .ref h4, .ref h5, .int h0f6, .ref h6, .int h0f8, .null, .ref h7, .int h0f11, .ref h8, .ref h9, .ref h10, .ref h11, .ref h12]), (h4, aQ (k 3) 4 (q4 h17 h18 h19 h20)), (h17, ob 5 [.int h17f0, .int h17f1, .ref h37]), (h18, ob 5 [.int h18f0, .int h18f1, .ref h38]), (h19, ob 5 [.int h19f0, .int h19f1, .ref h39]), (h20, ob 5 [.int h20f0, .int h20f1, .ref h40]), (h37, aJ (k 1) 40 anJ), (h38, aJ (k 1) 40 anJ), (h39, aJ (k 1) 40 anJ), (h40, aJ (k 1) 40 anJ)] _ := hT
    refine lv_if_eq (tgt := 19) hx hb dX10_sheet_4 (by decide) (fun _ => ?_) (fun cc => absurd (by decide +kernel) cc)
    refine lv_iconst (v := (-1)) hx hb dX10_sheet_19 (by decide) ?_
    exact tz_retI (B := B_cX10_sheet_02988 D k h0 h4 h17 h18 h19 h20 h37 h38 h39 h40 h1 h2 h3 h5 h6 h7 h8 h9 h10 h11 h12 x1 x2 x3 h0f2 h0f6 h0f8 h0f11 h17f0 h17f1 h18f0 h18f1 h19f0 h19f1 h20f0 h20f1) (v := (-1)) hQ hx hb hr hlocks hS (Nat.le_of_ble_eq_true rfl) (Nat.le_of_ble_eq_true rfl) dX10_sheet_20 (⟨h17f0, h17f1, h18f0, h18f1, h19f0, h19f1, h20f0, h20f1, (by have := li_m1; omega), (by have := li_m1; omega), (by have := li_m1; omega), (by have := li_m1; omega), (by have := li_m1; omega), (by have := li_m1; omega), (by have := li_m1; omega), (by have := li_m1; omega), (by have := li_m1; omega), (by have := li_m1; first | assumption | (simp only [GSi, GLi]; (repeat' split) <;> omega)), (by have := li_m1; first | assumption | (simp only [GSi, GLi]; (repeat' split) <;> omega)), (by have := li_m1; first | assumption | (simp only [GSi, GLi]; (repeat' split) <;> omega)), (by have := li_m1; first | assumption | (simp only [GSi, GLi]; (repeat' split) <;> omega)), (by have := li_m1; first | assumption | (simp only [GSi, GLi]; (repeat' split) <;> omega)), (by have := li_m1; first | assumption | (simp only [GSi, GLi]; (repeat' split) <;> omega)), (by have := li_m1; first | assumption | (simp only [GSi, GLi]; (repeat' split) <;> omega)), (by have := li_m1; first | assumption | (simp only [GSi, GLi]; (repeat' split) <;> omega)), hT⟩)
  · skip
    have hT := J _ hT1
    have hT : TP D A [(h0, ob 7 [.ref h1, .ref h2, .int h0f2, .ref h3, .ref h4, .ref h5, .int h0f6, .ref h6, .int h0f8, .null, .ref h7, .int h0f11, .ref h8, .ref h9, .ref h10, .ref h11, .ref h12]), (h4, aQ (k 3) 4 (q4 h17 h18 h19 h20)), (h17, ob 5 [.int h17f0, .int h17f1, .ref h37]), (h18, ob 5 [.int h18f0, .int h18f1, .ref h38]), (h19, ob 5 [.int h19f0, .int h19f1, .ref h39]), (h20, ob 5 [.int h20f0, .int h20f1, .ref h40]), (h37, aJ (k 1) 40 anJ), (h38, aJ (k 1) 40 anJ), (h39, aJ (k 1) 40 anJ), (h40, aJ (k 1) 40 anJ)] _ := hT
    refine lv_if_eq (tgt := 19) hx hb dX10_sheet_4 (by decide) (fun _ => ?_) (fun cc => absurd (by decide +kernel) cc)
    refine lv_iconst (v := (-1)) hx hb dX10_sheet_19 (by decide) ?_
    exact tz_retI (B := B_cX10_sheet_02988 D k h0 h4 h17 h18 h19 h20 h37 h38 h39 h40 h1 h2 h3 h5 h6 h7 h8 h9 h10 h11 h12 x1 x2 x3 h0f2 h0f6 h0f8 h0f11 h17f0 h17f1 h18f0 h18f1 h19f0 h19f1 h20f0 h20f1) (v := (-1)) hQ hx hb hr hlocks hS (Nat.le_of_ble_eq_true rfl) (Nat.le_of_ble_eq_true rfl) dX10_sheet_20 (⟨h17f0, h17f1, h18f0, h18f1, h19f0, h19f1, h20f0, h20f1, (by have := li_m1; omega), (by have := li_m1; omega), (by have := li_m1; omega), (by have := li_m1; omega), (by have := li_m1; omega), (by have := li_m1; omega), (by have := li_m1; omega), (by have := li_m1; omega), (by have := li_m1; omega), (by have := li_m1; first | assumption | (simp only [GSi, GLi]; (repeat' split) <;> omega)), (by have := li_m1; first | assumption | (simp only [GSi, GLi]; (repeat' split) <;> omega)), (by have := li_m1; first | assumption | (simp only [GSi, GLi]; (repeat' split) <;> omega)), (by have := li_m1; first | assumption | (simp only [GSi, GLi]; (repeat' split) <;> omega)), (by have := li_m1; first | assumption | (simp only [GSi, GLi]; (repeat' split) <;> omega)), (by have := li_m1; first | assumption | (simp only [GSi, GLi]; (repeat' split) <;> omega)), (by have := li_m1; first | assumption | (simp only [GSi, GLi]; (repeat' split) <;> omega)), (by have := li_m1; first | assumption | (simp only [GSi, GLi]; (repeat' split) <;> omega)), hT⟩)
  · skip
    have hT := J _ hT1
    have hT : TP D A [(h0, ob 7 [.ref h1, .ref h2, .int h0f2, .ref h3, .ref h4, .ref h5, .int h0f6, .ref h6, .int h0f8, .null, .ref h7, .int h0f11, .ref h8, .ref h9, .ref h10, .ref h11, .ref h12]), (h4, aQ (k 3) 4 (q4 h17 h18 h19 h20)), (h17, ob 5 [.int h17f0, .int h17f1, .ref h37]), (h18, ob 5 [.int h18f0, .int h18f1, .ref h38]), (h19, ob 5 [.int h19f0, .int h19f1, .ref h39]), (h20, ob 5 [.int h20f0, .int h20f1, .ref h40]), (h37, aJ (k 1) 40 anJ), (h38, aJ (k 1) 40 anJ), (h39, aJ (k 1) 40 anJ), (h40, aJ (k 1) 40 anJ)] _ := hT
    refine lv_if_eq (tgt := 19) hx hb dX10_sheet_4 (by decide) (fun cc => absurd cc (by decide +kernel)) (fun _ => ?_)
    refine lv_iload_n hx hb dX10_sheet_7 rfl (lv_at hl 2 rfl) ?_
    refine lv_iconst (v := (-1)) hx hb dX10_sheet_8 (by decide) ?_
    refine lv_icmp_eq (tgt := 21) hx hb dX10_sheet_9 (by decide) (fun c_7 => ?_) (fun c_7 => ?_)
    · skip
      have c_7 := ni_eq c_7 rfl li_m1
      refine lv_iload_n hx hb dX10_sheet_21 rfl (lv_at hl 2 rfl) ?_
      refine lv_iconst (v := (-1)) hx hb dX10_sheet_22 (by decide) ?_
      refine lv_icmp_ne (tgt := 39) hx hb dX10_sheet_23 (by decide) (fun c_8 => ?_) (fun c_8 => ?_)
      · skip
        have c_8 := ni_ne c_8 rfl li_m1
        exfalso; omega
      · skip
        have c_8 := ni_eq c_8 rfl li_m1
        refine lv_aload_n hx hb dX10_sheet_26 rfl (lv_at hl 0 rfl) ?_
        refine tz_get (ci := 7) (v := .ref h4) (C := RX10) (F := TX10) (N := 17) hx hb hU iX10 hown hK hT 0 rfl rfl 4 (by decide) w253 (fun _ h9 => h9) rfl dX10_sheet_27 ?_
        refine lv_iload_n hx hb dX10_sheet_30 rfl (lv_at hl 1 rfl) ?_
        rcases (show x1.toInt = 0 ∨ x1.toInt = 1 ∨ x1.toInt = 2 ∨ x1.toInt = 3 by omega) with hq9 | hq9 | hq9 | hq9
        · skip
          refine tz_aldq (b := h17) hx hb hK hT 1 rfl (vp_in_iff.mpr (by have := hq9; omega)) (fun f hf => by rw [cl_of hq9]; exact hf.1) dX10_sheet_31 ?_
          refine lv_iconst (v := (-1)) hx hb dX10_sheet_32 (by decide) ?_
          refine lv_iconst (v := 0) hx hb dX10_sheet_33 (by decide) ?_
          have q_q11 := li_m1
          have q_q12 := li_0
          refine tcV (Tc := [(h17, ob 5 [.int h17f0, .int h17f1, .ref h37]), (h37, aJ (k 1) 40 anJ)]) (Tr := [(h0, ob 7 [.ref h1, .ref h2, .int h0f2, .ref h3, .ref h4, .ref h5, .int h0f6, .ref h6, .int h0f8, .null, .ref h7, .int h0f11, .ref h8, .ref h9, .ref h10, .ref h11, .ref h12]), (h4, aQ (k 3) 4 (q4 h17 h18 h19 h20)), (h18, ob 5 [.int h18f0, .int h18f1, .ref h38]), (h19, ob 5 [.int h19f0, .int h19f1, .ref h39]), (h20, ob 5 [.int h20f0, .int h20f1, .ref h40]), (h38, aJ (k 1) 40 anJ), (h39, aJ (k 1) 40 anJ), (h40, aJ (k 1) 40 anJ)]) (as := [h17, h37]) (zcV (q0 := 2) (ci := 5) (As := [.int (-1), .int 0]) (rest := []) (Tc := [(h17, ob 5 [.int h17f0, .int h17f1, .ref h37]), (h37, aJ (k 1) 40 anJ)]) hx hb hml hown hU hK hT rfl rfl [2, 6] rfl (by decide) (cX6_become_2eaac l D k _ h17 h37 ((-1)) (0) h17f0 h17f1 (by have := li_m1; omega) (by have := li_0; omega) (by omega) (by omega)) w736 w733 w734 w735 w71 hdX6_become ⟨rfl, rfl⟩ ⟨Nat.le_of_ble_eq_true rfl, Nat.le_of_ble_eq_true rfl⟩ rfl hl.1 (Nat.le_of_ble_eq_true rfl) dX10_sheet_34 ⟨Nat.le_of_ble_eq_true rfl, Nat.le_of_ble_eq_true rfl⟩) hT hS hA [2, 6] [0, 1, 3, 4, 5, 7, 8, 9] rfl rfl rfl (by decide) (by decide) (fun H locs hB J hS => ?_)
          have hT1 := hB
          have hT := J _ hT1
          have hT : TP D A [(h0, ob 7 [.ref h1, .ref h2, .int h0f2, .ref h3, .ref h4, .ref h5, .int h0f6, .ref h6, .int h0f8, .null, .ref h7, .int h0f11, .ref h8, .ref h9, .ref h10, .ref h11, .ref h12]), (h4, aQ (k 3) 4 (q4 h17 h18 h19 h20)), (h18, ob 5 [.int h18f0, .int h18f1, .ref h38]), (h19, ob 5 [.int h19f0, .int h19f1, .ref h39]), (h20, ob 5 [.int h20f0, .int h20f1, .ref h40]), (h38, aJ (k 1) 40 anJ), (h39, aJ (k 1) 40 anJ), (h40, aJ (k 1) 40 anJ), (h17, ob 5 [.int (-1), .int 0, .ref h37]), (h37, aJ (k 1) 40 anJ)] _ := hT
          refine lv_iconst (v := 1) hx hb dX10_sheet_37 (by decide) ?_
          exact tz_retI (B := B_cX10_sheet_02988 D k h0 h4 h17 h18 h19 h20 h37 h38 h39 h40 h1 h2 h3 h5 h6 h7 h8 h9 h10 h11 h12 x1 x2 x3 h0f2 h0f6 h0f8 h0f11 h17f0 h17f1 h18f0 h18f1 h19f0 h19f1 h20f0 h20f1) (v := 1) hQ hx hb hr hlocks hS (Nat.le_of_ble_eq_true rfl) (Nat.le_of_ble_eq_true rfl) dX10_sheet_38 (⟨(-1), 0, h18f0, h18f1, h19f0, h19f1, h20f0, h20f1, (by have := li_m1; have := li_0; have := li_1; omega), (by have := li_m1; have := li_0; have := li_1; omega), (by have := li_m1; have := li_0; have := li_1; omega), (by have := li_m1; have := li_0; have := li_1; omega), (by have := li_m1; have := li_0; have := li_1; omega), (by have := li_m1; have := li_0; have := li_1; omega), (by have := li_m1; have := li_0; have := li_1; omega), (by have := li_m1; have := li_0; have := li_1; omega), (by have := li_m1; have := li_0; have := li_1; omega), (by have := li_m1; have := li_0; have := li_1; first | assumption | (simp only [GSi, GLi]; (repeat' split) <;> omega)), (by have := li_m1; have := li_0; have := li_1; first | assumption | (simp only [GSi, GLi]; (repeat' split) <;> omega)), (by have := li_m1; have := li_0; have := li_1; first | assumption | (simp only [GSi, GLi]; (repeat' split) <;> omega)), (by have := li_m1; have := li_0; have := li_1; first | assumption | (simp only [GSi, GLi]; (repeat' split) <;> omega)), (by have := li_m1; have := li_0; have := li_1; first | assumption | (simp only [GSi, GLi]; (repeat' split) <;> omega)), (by have := li_m1; have := li_0; have := li_1; first | assumption | (simp only [GSi, GLi]; (repeat' split) <;> omega)), (by have := li_m1; have := li_0; have := li_1; first | assumption | (simp only [GSi, GLi]; (repeat' split) <;> omega)), (by have := li_m1; have := li_0; have := li_1; first | assumption | (simp only [GSi, GLi]; (repeat' split) <;> omega)), (hT.sub [0, 1, 8, 2, 3, 4, 9, 5, 6, 7] (by decide) rfl)⟩)
        · skip
          refine tz_aldq (b := h18) hx hb hK hT 1 rfl (vp_in_iff.mpr (by have := hq9; omega)) (fun f hf => by rw [cl_of hq9]; exact hf.2.1) dX10_sheet_31 ?_
          refine lv_iconst (v := (-1)) hx hb dX10_sheet_32 (by decide) ?_
          refine lv_iconst (v := 0) hx hb dX10_sheet_33 (by decide) ?_
          have q_q14 := li_m1
          have q_q15 := li_0
          refine tcV (Tc := [(h18, ob 5 [.int h18f0, .int h18f1, .ref h38]), (h38, aJ (k 1) 40 anJ)]) (Tr := [(h0, ob 7 [.ref h1, .ref h2, .int h0f2, .ref h3, .ref h4, .ref h5, .int h0f6, .ref h6, .int h0f8, .null, .ref h7, .int h0f11, .ref h8, .ref h9, .ref h10, .ref h11, .ref h12]), (h4, aQ (k 3) 4 (q4 h17 h18 h19 h20)), (h17, ob 5 [.int h17f0, .int h17f1, .ref h37]), (h19, ob 5 [.int h19f0, .int h19f1, .ref h39]), (h20, ob 5 [.int h20f0, .int h20f1, .ref h40]), (h37, aJ (k 1) 40 anJ), (h39, aJ (k 1) 40 anJ), (h40, aJ (k 1) 40 anJ)]) (as := [h18, h38]) (zcV (q0 := 3) (ci := 5) (As := [.int (-1), .int 0]) (rest := []) (Tc := [(h18, ob 5 [.int h18f0, .int h18f1, .ref h38]), (h38, aJ (k 1) 40 anJ)]) hx hb hml hown hU hK hT rfl rfl [3, 7] rfl (by decide) (cX6_become_2eaac l D k _ h18 h38 ((-1)) (0) h18f0 h18f1 (by have := li_m1; omega) (by have := li_0; omega) (by omega) (by omega)) w736 w733 w734 w735 w71 hdX6_become ⟨rfl, rfl⟩ ⟨Nat.le_of_ble_eq_true rfl, Nat.le_of_ble_eq_true rfl⟩ rfl hl.1 (Nat.le_of_ble_eq_true rfl) dX10_sheet_34 ⟨Nat.le_of_ble_eq_true rfl, Nat.le_of_ble_eq_true rfl⟩) hT hS hA [3, 7] [0, 1, 2, 4, 5, 6, 8, 9] rfl rfl rfl (by decide) (by decide) (fun H locs hB J hS => ?_)
          have hT1 := hB
          have hT := J _ hT1
          have hT : TP D A [(h0, ob 7 [.ref h1, .ref h2, .int h0f2, .ref h3, .ref h4, .ref h5, .int h0f6, .ref h6, .int h0f8, .null, .ref h7, .int h0f11, .ref h8, .ref h9, .ref h10, .ref h11, .ref h12]), (h4, aQ (k 3) 4 (q4 h17 h18 h19 h20)), (h17, ob 5 [.int h17f0, .int h17f1, .ref h37]), (h19, ob 5 [.int h19f0, .int h19f1, .ref h39]), (h20, ob 5 [.int h20f0, .int h20f1, .ref h40]), (h37, aJ (k 1) 40 anJ), (h39, aJ (k 1) 40 anJ), (h40, aJ (k 1) 40 anJ), (h18, ob 5 [.int (-1), .int 0, .ref h38]), (h38, aJ (k 1) 40 anJ)] _ := hT
          refine lv_iconst (v := 1) hx hb dX10_sheet_37 (by decide) ?_
          exact tz_retI (B := B_cX10_sheet_02988 D k h0 h4 h17 h18 h19 h20 h37 h38 h39 h40 h1 h2 h3 h5 h6 h7 h8 h9 h10 h11 h12 x1 x2 x3 h0f2 h0f6 h0f8 h0f11 h17f0 h17f1 h18f0 h18f1 h19f0 h19f1 h20f0 h20f1) (v := 1) hQ hx hb hr hlocks hS (Nat.le_of_ble_eq_true rfl) (Nat.le_of_ble_eq_true rfl) dX10_sheet_38 (⟨h17f0, h17f1, (-1), 0, h19f0, h19f1, h20f0, h20f1, (by have := li_m1; have := li_0; have := li_1; omega), (by have := li_m1; have := li_0; have := li_1; omega), (by have := li_m1; have := li_0; have := li_1; omega), (by have := li_m1; have := li_0; have := li_1; omega), (by have := li_m1; have := li_0; have := li_1; omega), (by have := li_m1; have := li_0; have := li_1; omega), (by have := li_m1; have := li_0; have := li_1; omega), (by have := li_m1; have := li_0; have := li_1; omega), (by have := li_m1; have := li_0; have := li_1; omega), (by have := li_m1; have := li_0; have := li_1; first | assumption | (simp only [GSi, GLi]; (repeat' split) <;> omega)), (by have := li_m1; have := li_0; have := li_1; first | assumption | (simp only [GSi, GLi]; (repeat' split) <;> omega)), (by have := li_m1; have := li_0; have := li_1; first | assumption | (simp only [GSi, GLi]; (repeat' split) <;> omega)), (by have := li_m1; have := li_0; have := li_1; first | assumption | (simp only [GSi, GLi]; (repeat' split) <;> omega)), (by have := li_m1; have := li_0; have := li_1; first | assumption | (simp only [GSi, GLi]; (repeat' split) <;> omega)), (by have := li_m1; have := li_0; have := li_1; first | assumption | (simp only [GSi, GLi]; (repeat' split) <;> omega)), (by have := li_m1; have := li_0; have := li_1; first | assumption | (simp only [GSi, GLi]; (repeat' split) <;> omega)), (by have := li_m1; have := li_0; have := li_1; first | assumption | (simp only [GSi, GLi]; (repeat' split) <;> omega)), (hT.sub [0, 1, 2, 8, 3, 4, 5, 9, 6, 7] (by decide) rfl)⟩)
        · skip
          refine tz_aldq (b := h19) hx hb hK hT 1 rfl (vp_in_iff.mpr (by have := hq9; omega)) (fun f hf => by rw [cl_of hq9]; exact hf.2.2.1) dX10_sheet_31 ?_
          refine lv_iconst (v := (-1)) hx hb dX10_sheet_32 (by decide) ?_
          refine lv_iconst (v := 0) hx hb dX10_sheet_33 (by decide) ?_
          have q_q17 := li_m1
          have q_q18 := li_0
          refine tcV (Tc := [(h19, ob 5 [.int h19f0, .int h19f1, .ref h39]), (h39, aJ (k 1) 40 anJ)]) (Tr := [(h0, ob 7 [.ref h1, .ref h2, .int h0f2, .ref h3, .ref h4, .ref h5, .int h0f6, .ref h6, .int h0f8, .null, .ref h7, .int h0f11, .ref h8, .ref h9, .ref h10, .ref h11, .ref h12]), (h4, aQ (k 3) 4 (q4 h17 h18 h19 h20)), (h17, ob 5 [.int h17f0, .int h17f1, .ref h37]), (h18, ob 5 [.int h18f0, .int h18f1, .ref h38]), (h20, ob 5 [.int h20f0, .int h20f1, .ref h40]), (h37, aJ (k 1) 40 anJ), (h38, aJ (k 1) 40 anJ), (h40, aJ (k 1) 40 anJ)]) (as := [h19, h39]) (zcV (q0 := 4) (ci := 5) (As := [.int (-1), .int 0]) (rest := []) (Tc := [(h19, ob 5 [.int h19f0, .int h19f1, .ref h39]), (h39, aJ (k 1) 40 anJ)]) hx hb hml hown hU hK hT rfl rfl [4, 8] rfl (by decide) (cX6_become_2eaac l D k _ h19 h39 ((-1)) (0) h19f0 h19f1 (by have := li_m1; omega) (by have := li_0; omega) (by omega) (by omega)) w736 w733 w734 w735 w71 hdX6_become ⟨rfl, rfl⟩ ⟨Nat.le_of_ble_eq_true rfl, Nat.le_of_ble_eq_true rfl⟩ rfl hl.1 (Nat.le_of_ble_eq_true rfl) dX10_sheet_34 ⟨Nat.le_of_ble_eq_true rfl, Nat.le_of_ble_eq_true rfl⟩) hT hS hA [4, 8] [0, 1, 2, 3, 5, 6, 7, 9] rfl rfl rfl (by decide) (by decide) (fun H locs hB J hS => ?_)
          have hT1 := hB
          have hT := J _ hT1
          have hT : TP D A [(h0, ob 7 [.ref h1, .ref h2, .int h0f2, .ref h3, .ref h4, .ref h5, .int h0f6, .ref h6, .int h0f8, .null, .ref h7, .int h0f11, .ref h8, .ref h9, .ref h10, .ref h11, .ref h12]), (h4, aQ (k 3) 4 (q4 h17 h18 h19 h20)), (h17, ob 5 [.int h17f0, .int h17f1, .ref h37]), (h18, ob 5 [.int h18f0, .int h18f1, .ref h38]), (h20, ob 5 [.int h20f0, .int h20f1, .ref h40]), (h37, aJ (k 1) 40 anJ), (h38, aJ (k 1) 40 anJ), (h40, aJ (k 1) 40 anJ), (h19, ob 5 [.int (-1), .int 0, .ref h39]), (h39, aJ (k 1) 40 anJ)] _ := hT
          refine lv_iconst (v := 1) hx hb dX10_sheet_37 (by decide) ?_
          exact tz_retI (B := B_cX10_sheet_02988 D k h0 h4 h17 h18 h19 h20 h37 h38 h39 h40 h1 h2 h3 h5 h6 h7 h8 h9 h10 h11 h12 x1 x2 x3 h0f2 h0f6 h0f8 h0f11 h17f0 h17f1 h18f0 h18f1 h19f0 h19f1 h20f0 h20f1) (v := 1) hQ hx hb hr hlocks hS (Nat.le_of_ble_eq_true rfl) (Nat.le_of_ble_eq_true rfl) dX10_sheet_38 (⟨h17f0, h17f1, h18f0, h18f1, (-1), 0, h20f0, h20f1, (by have := li_m1; have := li_0; have := li_1; omega), (by have := li_m1; have := li_0; have := li_1; omega), (by have := li_m1; have := li_0; have := li_1; omega), (by have := li_m1; have := li_0; have := li_1; omega), (by have := li_m1; have := li_0; have := li_1; omega), (by have := li_m1; have := li_0; have := li_1; omega), (by have := li_m1; have := li_0; have := li_1; omega), (by have := li_m1; have := li_0; have := li_1; omega), (by have := li_m1; have := li_0; have := li_1; omega), (by have := li_m1; have := li_0; have := li_1; first | assumption | (simp only [GSi, GLi]; (repeat' split) <;> omega)), (by have := li_m1; have := li_0; have := li_1; first | assumption | (simp only [GSi, GLi]; (repeat' split) <;> omega)), (by have := li_m1; have := li_0; have := li_1; first | assumption | (simp only [GSi, GLi]; (repeat' split) <;> omega)), (by have := li_m1; have := li_0; have := li_1; first | assumption | (simp only [GSi, GLi]; (repeat' split) <;> omega)), (by have := li_m1; have := li_0; have := li_1; first | assumption | (simp only [GSi, GLi]; (repeat' split) <;> omega)), (by have := li_m1; have := li_0; have := li_1; first | assumption | (simp only [GSi, GLi]; (repeat' split) <;> omega)), (by have := li_m1; have := li_0; have := li_1; first | assumption | (simp only [GSi, GLi]; (repeat' split) <;> omega)), (by have := li_m1; have := li_0; have := li_1; first | assumption | (simp only [GSi, GLi]; (repeat' split) <;> omega)), (hT.sub [0, 1, 2, 3, 8, 4, 5, 6, 9, 7] (by decide) rfl)⟩)
        · skip
          refine tz_aldq (b := h20) hx hb hK hT 1 rfl (vp_in_iff.mpr (by have := hq9; omega)) (fun f hf => by rw [cl_of hq9]; exact hf.2.2.2) dX10_sheet_31 ?_
          refine lv_iconst (v := (-1)) hx hb dX10_sheet_32 (by decide) ?_
          refine lv_iconst (v := 0) hx hb dX10_sheet_33 (by decide) ?_
          have q_q20 := li_m1
          have q_q21 := li_0
          refine tcV (Tc := [(h20, ob 5 [.int h20f0, .int h20f1, .ref h40]), (h40, aJ (k 1) 40 anJ)]) (Tr := [(h0, ob 7 [.ref h1, .ref h2, .int h0f2, .ref h3, .ref h4, .ref h5, .int h0f6, .ref h6, .int h0f8, .null, .ref h7, .int h0f11, .ref h8, .ref h9, .ref h10, .ref h11, .ref h12]), (h4, aQ (k 3) 4 (q4 h17 h18 h19 h20)), (h17, ob 5 [.int h17f0, .int h17f1, .ref h37]), (h18, ob 5 [.int h18f0, .int h18f1, .ref h38]), (h19, ob 5 [.int h19f0, .int h19f1, .ref h39]), (h37, aJ (k 1) 40 anJ), (h38, aJ (k 1) 40 anJ), (h39, aJ (k 1) 40 anJ)]) (as := [h20, h40]) (zcV (q0 := 5) (ci := 5) (As := [.int (-1), .int 0]) (rest := []) (Tc := [(h20, ob 5 [.int h20f0, .int h20f1, .ref h40]), (h40, aJ (k 1) 40 anJ)]) hx hb hml hown hU hK hT rfl rfl [5, 9] rfl (by decide) (cX6_become_2eaac l D k _ h20 h40 ((-1)) (0) h20f0 h20f1 (by have := li_m1; omega) (by have := li_0; omega) (by omega) (by omega)) w736 w733 w734 w735 w71 hdX6_become ⟨rfl, rfl⟩ ⟨Nat.le_of_ble_eq_true rfl, Nat.le_of_ble_eq_true rfl⟩ rfl hl.1 (Nat.le_of_ble_eq_true rfl) dX10_sheet_34 ⟨Nat.le_of_ble_eq_true rfl, Nat.le_of_ble_eq_true rfl⟩) hT hS hA [5, 9] [0, 1, 2, 3, 4, 6, 7, 8] rfl rfl rfl (by decide) (by decide) (fun H locs hB J hS => ?_)
          have hT1 := hB
          have hT := J _ hT1
          have hT : TP D A [(h0, ob 7 [.ref h1, .ref h2, .int h0f2, .ref h3, .ref h4, .ref h5, .int h0f6, .ref h6, .int h0f8, .null, .ref h7, .int h0f11, .ref h8, .ref h9, .ref h10, .ref h11, .ref h12]), (h4, aQ (k 3) 4 (q4 h17 h18 h19 h20)), (h17, ob 5 [.int h17f0, .int h17f1, .ref h37]), (h18, ob 5 [.int h18f0, .int h18f1, .ref h38]), (h19, ob 5 [.int h19f0, .int h19f1, .ref h39]), (h37, aJ (k 1) 40 anJ), (h38, aJ (k 1) 40 anJ), (h39, aJ (k 1) 40 anJ), (h20, ob 5 [.int (-1), .int 0, .ref h40]), (h40, aJ (k 1) 40 anJ)] _ := hT
          refine lv_iconst (v := 1) hx hb dX10_sheet_37 (by decide) ?_
          exact tz_retI (B := B_cX10_sheet_02988 D k h0 h4 h17 h18 h19 h20 h37 h38 h39 h40 h1 h2 h3 h5 h6 h7 h8 h9 h10 h11 h12 x1 x2 x3 h0f2 h0f6 h0f8 h0f11 h17f0 h17f1 h18f0 h18f1 h19f0 h19f1 h20f0 h20f1) (v := 1) hQ hx hb hr hlocks hS (Nat.le_of_ble_eq_true rfl) (Nat.le_of_ble_eq_true rfl) dX10_sheet_38 (⟨h17f0, h17f1, h18f0, h18f1, h19f0, h19f1, (-1), 0, (by have := li_m1; have := li_0; have := li_1; omega), (by have := li_m1; have := li_0; have := li_1; omega), (by have := li_m1; have := li_0; have := li_1; omega), (by have := li_m1; have := li_0; have := li_1; omega), (by have := li_m1; have := li_0; have := li_1; omega), (by have := li_m1; have := li_0; have := li_1; omega), (by have := li_m1; have := li_0; have := li_1; omega), (by have := li_m1; have := li_0; have := li_1; omega), (by have := li_m1; have := li_0; have := li_1; omega), (by have := li_m1; have := li_0; have := li_1; first | assumption | (simp only [GSi, GLi]; (repeat' split) <;> omega)), (by have := li_m1; have := li_0; have := li_1; first | assumption | (simp only [GSi, GLi]; (repeat' split) <;> omega)), (by have := li_m1; have := li_0; have := li_1; first | assumption | (simp only [GSi, GLi]; (repeat' split) <;> omega)), (by have := li_m1; have := li_0; have := li_1; first | assumption | (simp only [GSi, GLi]; (repeat' split) <;> omega)), (by have := li_m1; have := li_0; have := li_1; first | assumption | (simp only [GSi, GLi]; (repeat' split) <;> omega)), (by have := li_m1; have := li_0; have := li_1; first | assumption | (simp only [GSi, GLi]; (repeat' split) <;> omega)), (by have := li_m1; have := li_0; have := li_1; first | assumption | (simp only [GSi, GLi]; (repeat' split) <;> omega)), (by have := li_m1; have := li_0; have := li_1; first | assumption | (simp only [GSi, GLi]; (repeat' split) <;> omega)), (hT.sub [0, 1, 2, 3, 4, 8, 5, 6, 7, 9] (by decide) rfl)⟩)
    · skip
      have c_7 := ni_ne c_7 rfl li_m1
      refine lv_iload_n hx hb dX10_sheet_12 rfl (lv_at hl 2 rfl) ?_
      refine tcI (Tc := []) (Tr := [(h0, ob 7 [.ref h1, .ref h2, .int h0f2, .ref h3, .ref h4, .ref h5, .int h0f6, .ref h6, .int h0f8, .null, .ref h7, .int h0f11, .ref h8, .ref h9, .ref h10, .ref h11, .ref h12]), (h4, aQ (k 3) 4 (q4 h17 h18 h19 h20)), (h17, ob 5 [.int h17f0, .int h17f1, .ref h37]), (h18, ob 5 [.int h18f0, .int h18f1, .ref h38]), (h19, ob 5 [.int h19f0, .int h19f1, .ref h39]), (h20, ob 5 [.int h20f0, .int h20f1, .ref h40]), (h37, aJ (k 1) 40 anJ), (h38, aJ (k 1) 40 anJ), (h39, aJ (k 1) 40 anJ), (h40, aJ (k 1) 40 anJ)]) (as := []) (zcS (As := [.int x2]) (rest := []) (Tc := []) hx hb hml hown hU hK hT [] rfl (by decide) (cX10_isSort_c9073 l D k _ x2) w732 w730 w731 w63 hdX10_isSort ⟨rfl, rfl⟩ ⟨Nat.le_of_ble_eq_true rfl, Nat.le_of_ble_eq_true rfl⟩ rfl hl.1 (Nat.le_of_ble_eq_true rfl) dX10_sheet_13 ⟨Nat.le_of_ble_eq_true rfl, Nat.le_of_ble_eq_true rfl⟩) hT hS hA [] [0, 1, 2, 3, 4, 5, 6, 7, 8, 9] rfl rfl rfl (by decide) (by decide) (fun r22 H locs hB J hS => ?_)
      rcases hB with ⟨c_23, rfl, hT1⟩ | ⟨c_24, c_25, rfl, hT1⟩ | ⟨c_26, c_27, rfl, hT1⟩
      · skip
        have hT := J _ hT1
        have hT : TP D A [(h0, ob 7 [.ref h1, .ref h2, .int h0f2, .ref h3, .ref h4, .ref h5, .int h0f6, .ref h6, .int h0f8, .null, .ref h7, .int h0f11, .ref h8, .ref h9, .ref h10, .ref h11, .ref h12]), (h4, aQ (k 3) 4 (q4 h17 h18 h19 h20)), (h17, ob 5 [.int h17f0, .int h17f1, .ref h37]), (h18, ob 5 [.int h18f0, .int h18f1, .ref h38]), (h19, ob 5 [.int h19f0, .int h19f1, .ref h39]), (h20, ob 5 [.int h20f0, .int h20f1, .ref h40]), (h37, aJ (k 1) 40 anJ), (h38, aJ (k 1) 40 anJ), (h39, aJ (k 1) 40 anJ), (h40, aJ (k 1) 40 anJ)] _ := hT
        refine lv_if_ne (tgt := 21) hx hb dX10_sheet_16 (by decide) (fun cc => absurd (by decide +kernel) cc) (fun _ => ?_)
        refine lv_iconst (v := (-1)) hx hb dX10_sheet_19 (by decide) ?_
        exact tz_retI (B := B_cX10_sheet_02988 D k h0 h4 h17 h18 h19 h20 h37 h38 h39 h40 h1 h2 h3 h5 h6 h7 h8 h9 h10 h11 h12 x1 x2 x3 h0f2 h0f6 h0f8 h0f11 h17f0 h17f1 h18f0 h18f1 h19f0 h19f1 h20f0 h20f1) (v := (-1)) hQ hx hb hr hlocks hS (Nat.le_of_ble_eq_true rfl) (Nat.le_of_ble_eq_true rfl) dX10_sheet_20 (⟨h17f0, h17f1, h18f0, h18f1, h19f0, h19f1, h20f0, h20f1, (by have := li_m1; omega), (by have := li_m1; omega), (by have := li_m1; omega), (by have := li_m1; omega), (by have := li_m1; omega), (by have := li_m1; omega), (by have := li_m1; omega), (by have := li_m1; omega), (by have := li_m1; omega), (by have := li_m1; first | assumption | (simp only [GSi, GLi]; (repeat' split) <;> omega)), (by have := li_m1; first | assumption | (simp only [GSi, GLi]; (repeat' split) <;> omega)), (by have := li_m1; first | assumption | (simp only [GSi, GLi]; (repeat' split) <;> omega)), (by have := li_m1; first | assumption | (simp only [GSi, GLi]; (repeat' split) <;> omega)), (by have := li_m1; first | assumption | (simp only [GSi, GLi]; (repeat' split) <;> omega)), (by have := li_m1; first | assumption | (simp only [GSi, GLi]; (repeat' split) <;> omega)), (by have := li_m1; first | assumption | (simp only [GSi, GLi]; (repeat' split) <;> omega)), (by have := li_m1; first | assumption | (simp only [GSi, GLi]; (repeat' split) <;> omega)), hT⟩)
      · skip
        have hT := J _ hT1
        have hT : TP D A [(h0, ob 7 [.ref h1, .ref h2, .int h0f2, .ref h3, .ref h4, .ref h5, .int h0f6, .ref h6, .int h0f8, .null, .ref h7, .int h0f11, .ref h8, .ref h9, .ref h10, .ref h11, .ref h12]), (h4, aQ (k 3) 4 (q4 h17 h18 h19 h20)), (h17, ob 5 [.int h17f0, .int h17f1, .ref h37]), (h18, ob 5 [.int h18f0, .int h18f1, .ref h38]), (h19, ob 5 [.int h19f0, .int h19f1, .ref h39]), (h20, ob 5 [.int h20f0, .int h20f1, .ref h40]), (h37, aJ (k 1) 40 anJ), (h38, aJ (k 1) 40 anJ), (h39, aJ (k 1) 40 anJ), (h40, aJ (k 1) 40 anJ)] _ := hT
        refine lv_if_ne (tgt := 21) hx hb dX10_sheet_16 (by decide) (fun cc => absurd (by decide +kernel) cc) (fun _ => ?_)
        refine lv_iconst (v := (-1)) hx hb dX10_sheet_19 (by decide) ?_
        exact tz_retI (B := B_cX10_sheet_02988 D k h0 h4 h17 h18 h19 h20 h37 h38 h39 h40 h1 h2 h3 h5 h6 h7 h8 h9 h10 h11 h12 x1 x2 x3 h0f2 h0f6 h0f8 h0f11 h17f0 h17f1 h18f0 h18f1 h19f0 h19f1 h20f0 h20f1) (v := (-1)) hQ hx hb hr hlocks hS (Nat.le_of_ble_eq_true rfl) (Nat.le_of_ble_eq_true rfl) dX10_sheet_20 (⟨h17f0, h17f1, h18f0, h18f1, h19f0, h19f1, h20f0, h20f1, (by have := li_m1; omega), (by have := li_m1; omega), (by have := li_m1; omega), (by have := li_m1; omega), (by have := li_m1; omega), (by have := li_m1; omega), (by have := li_m1; omega), (by have := li_m1; omega), (by have := li_m1; omega), (by have := li_m1; first | assumption | (simp only [GSi, GLi]; (repeat' split) <;> omega)), (by have := li_m1; first | assumption | (simp only [GSi, GLi]; (repeat' split) <;> omega)), (by have := li_m1; first | assumption | (simp only [GSi, GLi]; (repeat' split) <;> omega)), (by have := li_m1; first | assumption | (simp only [GSi, GLi]; (repeat' split) <;> omega)), (by have := li_m1; first | assumption | (simp only [GSi, GLi]; (repeat' split) <;> omega)), (by have := li_m1; first | assumption | (simp only [GSi, GLi]; (repeat' split) <;> omega)), (by have := li_m1; first | assumption | (simp only [GSi, GLi]; (repeat' split) <;> omega)), (by have := li_m1; first | assumption | (simp only [GSi, GLi]; (repeat' split) <;> omega)), hT⟩)
      · skip
        have hT := J _ hT1
        have hT : TP D A [(h0, ob 7 [.ref h1, .ref h2, .int h0f2, .ref h3, .ref h4, .ref h5, .int h0f6, .ref h6, .int h0f8, .null, .ref h7, .int h0f11, .ref h8, .ref h9, .ref h10, .ref h11, .ref h12]), (h4, aQ (k 3) 4 (q4 h17 h18 h19 h20)), (h17, ob 5 [.int h17f0, .int h17f1, .ref h37]), (h18, ob 5 [.int h18f0, .int h18f1, .ref h38]), (h19, ob 5 [.int h19f0, .int h19f1, .ref h39]), (h20, ob 5 [.int h20f0, .int h20f1, .ref h40]), (h37, aJ (k 1) 40 anJ), (h38, aJ (k 1) 40 anJ), (h39, aJ (k 1) 40 anJ), (h40, aJ (k 1) 40 anJ)] _ := hT
        refine lv_if_ne (tgt := 21) hx hb dX10_sheet_16 (by decide) (fun _ => ?_) (fun cc => absurd cc (by decide +kernel))
        refine lv_iload_n hx hb dX10_sheet_21 rfl (lv_at hl 2 rfl) ?_
        refine lv_iconst (v := (-1)) hx hb dX10_sheet_22 (by decide) ?_
        refine lv_icmp_ne (tgt := 39) hx hb dX10_sheet_23 (by decide) (fun c_28 => ?_) (fun c_28 => ?_)
        · skip
          have c_28 := ni_ne c_28 rfl li_m1
          refine lv_iload_n hx hb dX10_sheet_39 rfl (lv_at hl 3 rfl) ?_
          refine lv_bipush (v := 40) hx hb dX10_sheet_40 (by decide) ?_
          refine lv_icmp_le (tgt := 47) hx hb dX10_sheet_42 (by decide) (fun c_29 => ?_) (fun c_29 => ?_)
          · skip
            have c_29 := ni_le c_29 rfl li_40
            refine lv_iload_n hx hb dX10_sheet_47 rfl (lv_at hl 3 rfl) ?_
            refine lv_if_ge (tgt := 54) hx hb dX10_sheet_48 (by decide) (fun c_30 => ?_) (fun c_30 => ?_)
            · skip
              have c_30 := ni_le c_30 li_0 rfl
              refine lv_aload_n hx hb dX10_sheet_54 rfl (lv_at hl 0 rfl) ?_
              refine tz_get (ci := 7) (v := .ref h4) (C := RX10) (F := TX10) (N := 17) hx hb hU iX10 hown hK hT 0 rfl rfl 4 (by decide) w253 (fun _ h9 => h9) rfl dX10_sheet_55 ?_
              refine lv_iload_n hx hb dX10_sheet_58 rfl (lv_at hl 1 rfl) ?_
              rcases (show x1.toInt = 0 ∨ x1.toInt = 1 ∨ x1.toInt = 2 ∨ x1.toInt = 3 by omega) with hq31 | hq31 | hq31 | hq31
              · skip
                refine tz_aldq (b := h17) hx hb hK hT 1 rfl (vp_in_iff.mpr (by have := hq31; omega)) (fun f hf => by rw [cl_of hq31]; exact hf.1) dX10_sheet_59 ?_
                refine lv_iload_n hx hb dX10_sheet_60 rfl (lv_at hl 2 rfl) ?_
                refine lv_iload_n hx hb dX10_sheet_61 rfl (lv_at hl 3 rfl) ?_
                refine tcV (Tc := [(h17, ob 5 [.int h17f0, .int h17f1, .ref h37]), (h37, aJ (k 1) 40 anJ)]) (Tr := [(h0, ob 7 [.ref h1, .ref h2, .int h0f2, .ref h3, .ref h4, .ref h5, .int h0f6, .ref h6, .int h0f8, .null, .ref h7, .int h0f11, .ref h8, .ref h9, .ref h10, .ref h11, .ref h12]), (h4, aQ (k 3) 4 (q4 h17 h18 h19 h20)), (h18, ob 5 [.int h18f0, .int h18f1, .ref h38]), (h19, ob 5 [.int h19f0, .int h19f1, .ref h39]), (h20, ob 5 [.int h20f0, .int h20f1, .ref h40]), (h38, aJ (k 1) 40 anJ), (h39, aJ (k 1) 40 anJ), (h40, aJ (k 1) 40 anJ)]) (as := [h17, h37]) (zcV (q0 := 2) (ci := 5) (As := [.int x2, .int x3]) (rest := []) (Tc := [(h17, ob 5 [.int h17f0, .int h17f1, .ref h37]), (h37, aJ (k 1) 40 anJ)]) hx hb hml hown hU hK hT rfl rfl [2, 6] rfl (by decide) (cX6_become_2eaac l D k _ h17 h37 x2 x3 h17f0 h17f1 (by omega) (by omega) (by omega) (by omega)) w736 w733 w734 w735 w71 hdX6_become ⟨rfl, rfl⟩ ⟨Nat.le_of_ble_eq_true rfl, Nat.le_of_ble_eq_true rfl⟩ rfl hl.1 (Nat.le_of_ble_eq_true rfl) dX10_sheet_62 ⟨Nat.le_of_ble_eq_true rfl, Nat.le_of_ble_eq_true rfl⟩) hT hS hA [2, 6] [0, 1, 3, 4, 5, 7, 8, 9] rfl rfl rfl (by decide) (by decide) (fun H locs hB J hS => ?_)
                have hT1 := hB
                have hT := J _ hT1
                have hT : TP D A [(h0, ob 7 [.ref h1, .ref h2, .int h0f2, .ref h3, .ref h4, .ref h5, .int h0f6, .ref h6, .int h0f8, .null, .ref h7, .int h0f11, .ref h8, .ref h9, .ref h10, .ref h11, .ref h12]), (h4, aQ (k 3) 4 (q4 h17 h18 h19 h20)), (h18, ob 5 [.int h18f0, .int h18f1, .ref h38]), (h19, ob 5 [.int h19f0, .int h19f1, .ref h39]), (h20, ob 5 [.int h20f0, .int h20f1, .ref h40]), (h38, aJ (k 1) 40 anJ), (h39, aJ (k 1) 40 anJ), (h40, aJ (k 1) 40 anJ), (h17, ob 5 [.int x2, .int x3, .ref h37]), (h37, aJ (k 1) 40 anJ)] _ := hT
                refine lv_iconst (v := 1) hx hb dX10_sheet_65 (by decide) ?_
                exact tz_retI (B := B_cX10_sheet_02988 D k h0 h4 h17 h18 h19 h20 h37 h38 h39 h40 h1 h2 h3 h5 h6 h7 h8 h9 h10 h11 h12 x1 x2 x3 h0f2 h0f6 h0f8 h0f11 h17f0 h17f1 h18f0 h18f1 h19f0 h19f1 h20f0 h20f1) (v := 1) hQ hx hb hr hlocks hS (Nat.le_of_ble_eq_true rfl) (Nat.le_of_ble_eq_true rfl) dX10_sheet_66 (⟨x2, x3, h18f0, h18f1, h19f0, h19f1, h20f0, h20f1, (by have := li_1; omega), (by have := li_1; omega), (by have := li_1; omega), (by have := li_1; omega), (by have := li_1; omega), (by have := li_1; omega), (by have := li_1; omega), (by have := li_1; omega), (by have := li_1; omega), (by have := li_1; first | assumption | (simp only [GSi, GLi]; (repeat' split) <;> omega)), (by have := li_1; first | assumption | (simp only [GSi, GLi]; (repeat' split) <;> omega)), (by have := li_1; first | assumption | (simp only [GSi, GLi]; (repeat' split) <;> omega)), (by have := li_1; first | assumption | (simp only [GSi, GLi]; (repeat' split) <;> omega)), (by have := li_1; first | assumption | (simp only [GSi, GLi]; (repeat' split) <;> omega)), (by have := li_1; first | assumption | (simp only [GSi, GLi]; (repeat' split) <;> omega)), (by have := li_1; first | assumption | (simp only [GSi, GLi]; (repeat' split) <;> omega)), (by have := li_1; first | assumption | (simp only [GSi, GLi]; (repeat' split) <;> omega)), (hT.sub [0, 1, 8, 2, 3, 4, 9, 5, 6, 7] (by decide) rfl)⟩)
              · skip
                refine tz_aldq (b := h18) hx hb hK hT 1 rfl (vp_in_iff.mpr (by have := hq31; omega)) (fun f hf => by rw [cl_of hq31]; exact hf.2.1) dX10_sheet_59 ?_
                refine lv_iload_n hx hb dX10_sheet_60 rfl (lv_at hl 2 rfl) ?_
                refine lv_iload_n hx hb dX10_sheet_61 rfl (lv_at hl 3 rfl) ?_
                refine tcV (Tc := [(h18, ob 5 [.int h18f0, .int h18f1, .ref h38]), (h38, aJ (k 1) 40 anJ)]) (Tr := [(h0, ob 7 [.ref h1, .ref h2, .int h0f2, .ref h3, .ref h4, .ref h5, .int h0f6, .ref h6, .int h0f8, .null, .ref h7, .int h0f11, .ref h8, .ref h9, .ref h10, .ref h11, .ref h12]), (h4, aQ (k 3) 4 (q4 h17 h18 h19 h20)), (h17, ob 5 [.int h17f0, .int h17f1, .ref h37]), (h19, ob 5 [.int h19f0, .int h19f1, .ref h39]), (h20, ob 5 [.int h20f0, .int h20f1, .ref h40]), (h37, aJ (k 1) 40 anJ), (h39, aJ (k 1) 40 anJ), (h40, aJ (k 1) 40 anJ)]) (as := [h18, h38]) (zcV (q0 := 3) (ci := 5) (As := [.int x2, .int x3]) (rest := []) (Tc := [(h18, ob 5 [.int h18f0, .int h18f1, .ref h38]), (h38, aJ (k 1) 40 anJ)]) hx hb hml hown hU hK hT rfl rfl [3, 7] rfl (by decide) (cX6_become_2eaac l D k _ h18 h38 x2 x3 h18f0 h18f1 (by omega) (by omega) (by omega) (by omega)) w736 w733 w734 w735 w71 hdX6_become ⟨rfl, rfl⟩ ⟨Nat.le_of_ble_eq_true rfl, Nat.le_of_ble_eq_true rfl⟩ rfl hl.1 (Nat.le_of_ble_eq_true rfl) dX10_sheet_62 ⟨Nat.le_of_ble_eq_true rfl, Nat.le_of_ble_eq_true rfl⟩) hT hS hA [3, 7] [0, 1, 2, 4, 5, 6, 8, 9] rfl rfl rfl (by decide) (by decide) (fun H locs hB J hS => ?_)
                have hT1 := hB
                have hT := J _ hT1
                have hT : TP D A [(h0, ob 7 [.ref h1, .ref h2, .int h0f2, .ref h3, .ref h4, .ref h5, .int h0f6, .ref h6, .int h0f8, .null, .ref h7, .int h0f11, .ref h8, .ref h9, .ref h10, .ref h11, .ref h12]), (h4, aQ (k 3) 4 (q4 h17 h18 h19 h20)), (h17, ob 5 [.int h17f0, .int h17f1, .ref h37]), (h19, ob 5 [.int h19f0, .int h19f1, .ref h39]), (h20, ob 5 [.int h20f0, .int h20f1, .ref h40]), (h37, aJ (k 1) 40 anJ), (h39, aJ (k 1) 40 anJ), (h40, aJ (k 1) 40 anJ), (h18, ob 5 [.int x2, .int x3, .ref h38]), (h38, aJ (k 1) 40 anJ)] _ := hT
                refine lv_iconst (v := 1) hx hb dX10_sheet_65 (by decide) ?_
                exact tz_retI (B := B_cX10_sheet_02988 D k h0 h4 h17 h18 h19 h20 h37 h38 h39 h40 h1 h2 h3 h5 h6 h7 h8 h9 h10 h11 h12 x1 x2 x3 h0f2 h0f6 h0f8 h0f11 h17f0 h17f1 h18f0 h18f1 h19f0 h19f1 h20f0 h20f1) (v := 1) hQ hx hb hr hlocks hS (Nat.le_of_ble_eq_true rfl) (Nat.le_of_ble_eq_true rfl) dX10_sheet_66 (⟨h17f0, h17f1, x2, x3, h19f0, h19f1, h20f0, h20f1, (by have := li_1; omega), (by have := li_1; omega), (by have := li_1; omega), (by have := li_1; omega), (by have := li_1; omega), (by have := li_1; omega), (by have := li_1; omega), (by have := li_1; omega), (by have := li_1; omega), (by have := li_1; first | assumption | (simp only [GSi, GLi]; (repeat' split) <;> omega)), (by have := li_1; first | assumption | (simp only [GSi, GLi]; (repeat' split) <;> omega)), (by have := li_1; first | assumption | (simp only [GSi, GLi]; (repeat' split) <;> omega)), (by have := li_1; first | assumption | (simp only [GSi, GLi]; (repeat' split) <;> omega)), (by have := li_1; first | assumption | (simp only [GSi, GLi]; (repeat' split) <;> omega)), (by have := li_1; first | assumption | (simp only [GSi, GLi]; (repeat' split) <;> omega)), (by have := li_1; first | assumption | (simp only [GSi, GLi]; (repeat' split) <;> omega)), (by have := li_1; first | assumption | (simp only [GSi, GLi]; (repeat' split) <;> omega)), (hT.sub [0, 1, 2, 8, 3, 4, 5, 9, 6, 7] (by decide) rfl)⟩)
              · skip
                refine tz_aldq (b := h19) hx hb hK hT 1 rfl (vp_in_iff.mpr (by have := hq31; omega)) (fun f hf => by rw [cl_of hq31]; exact hf.2.2.1) dX10_sheet_59 ?_
                refine lv_iload_n hx hb dX10_sheet_60 rfl (lv_at hl 2 rfl) ?_
                refine lv_iload_n hx hb dX10_sheet_61 rfl (lv_at hl 3 rfl) ?_
                refine tcV (Tc := [(h19, ob 5 [.int h19f0, .int h19f1, .ref h39]), (h39, aJ (k 1) 40 anJ)]) (Tr := [(h0, ob 7 [.ref h1, .ref h2, .int h0f2, .ref h3, .ref h4, .ref h5, .int h0f6, .ref h6, .int h0f8, .null, .ref h7, .int h0f11, .ref h8, .ref h9, .ref h10, .ref h11, .ref h12]), (h4, aQ (k 3) 4 (q4 h17 h18 h19 h20)), (h17, ob 5 [.int h17f0, .int h17f1, .ref h37]), (h18, ob 5 [.int h18f0, .int h18f1, .ref h38]), (h20, ob 5 [.int h20f0, .int h20f1, .ref h40]), (h37, aJ (k 1) 40 anJ), (h38, aJ (k 1) 40 anJ), (h40, aJ (k 1) 40 anJ)]) (as := [h19, h39]) (zcV (q0 := 4) (ci := 5) (As := [.int x2, .int x3]) (rest := []) (Tc := [(h19, ob 5 [.int h19f0, .int h19f1, .ref h39]), (h39, aJ (k 1) 40 anJ)]) hx hb hml hown hU hK hT rfl rfl [4, 8] rfl (by decide) (cX6_become_2eaac l D k _ h19 h39 x2 x3 h19f0 h19f1 (by omega) (by omega) (by omega) (by omega)) w736 w733 w734 w735 w71 hdX6_become ⟨rfl, rfl⟩ ⟨Nat.le_of_ble_eq_true rfl, Nat.le_of_ble_eq_true rfl⟩ rfl hl.1 (Nat.le_of_ble_eq_true rfl) dX10_sheet_62 ⟨Nat.le_of_ble_eq_true rfl, Nat.le_of_ble_eq_true rfl⟩) hT hS hA [4, 8] [0, 1, 2, 3, 5, 6, 7, 9] rfl rfl rfl (by decide) (by decide) (fun H locs hB J hS => ?_)
                have hT1 := hB
                have hT := J _ hT1
                have hT : TP D A [(h0, ob 7 [.ref h1, .ref h2, .int h0f2, .ref h3, .ref h4, .ref h5, .int h0f6, .ref h6, .int h0f8, .null, .ref h7, .int h0f11, .ref h8, .ref h9, .ref h10, .ref h11, .ref h12]), (h4, aQ (k 3) 4 (q4 h17 h18 h19 h20)), (h17, ob 5 [.int h17f0, .int h17f1, .ref h37]), (h18, ob 5 [.int h18f0, .int h18f1, .ref h38]), (h20, ob 5 [.int h20f0, .int h20f1, .ref h40]), (h37, aJ (k 1) 40 anJ), (h38, aJ (k 1) 40 anJ), (h40, aJ (k 1) 40 anJ), (h19, ob 5 [.int x2, .int x3, .ref h39]), (h39, aJ (k 1) 40 anJ)] _ := hT
                refine lv_iconst (v := 1) hx hb dX10_sheet_65 (by decide) ?_
                exact tz_retI (B := B_cX10_sheet_02988 D k h0 h4 h17 h18 h19 h20 h37 h38 h39 h40 h1 h2 h3 h5 h6 h7 h8 h9 h10 h11 h12 x1 x2 x3 h0f2 h0f6 h0f8 h0f11 h17f0 h17f1 h18f0 h18f1 h19f0 h19f1 h20f0 h20f1) (v := 1) hQ hx hb hr hlocks hS (Nat.le_of_ble_eq_true rfl) (Nat.le_of_ble_eq_true rfl) dX10_sheet_66 (⟨h17f0, h17f1, h18f0, h18f1, x2, x3, h20f0, h20f1, (by have := li_1; omega), (by have := li_1; omega), (by have := li_1; omega), (by have := li_1; omega), (by have := li_1; omega), (by have := li_1; omega), (by have := li_1; omega), (by have := li_1; omega), (by have := li_1; omega), (by have := li_1; first | assumption | (simp only [GSi, GLi]; (repeat' split) <;> omega)), (by have := li_1; first | assumption | (simp only [GSi, GLi]; (repeat' split) <;> omega)), (by have := li_1; first | assumption | (simp only [GSi, GLi]; (repeat' split) <;> omega)), (by have := li_1; first | assumption | (simp only [GSi, GLi]; (repeat' split) <;> omega)), (by have := li_1; first | assumption | (simp only [GSi, GLi]; (repeat' split) <;> omega)), (by have := li_1; first | assumption | (simp only [GSi, GLi]; (repeat' split) <;> omega)), (by have := li_1; first | assumption | (simp only [GSi, GLi]; (repeat' split) <;> omega)), (by have := li_1; first | assumption | (simp only [GSi, GLi]; (repeat' split) <;> omega)), (hT.sub [0, 1, 2, 3, 8, 4, 5, 6, 9, 7] (by decide) rfl)⟩)
              · skip
                refine tz_aldq (b := h20) hx hb hK hT 1 rfl (vp_in_iff.mpr (by have := hq31; omega)) (fun f hf => by rw [cl_of hq31]; exact hf.2.2.2) dX10_sheet_59 ?_
                refine lv_iload_n hx hb dX10_sheet_60 rfl (lv_at hl 2 rfl) ?_
                refine lv_iload_n hx hb dX10_sheet_61 rfl (lv_at hl 3 rfl) ?_
                refine tcV (Tc := [(h20, ob 5 [.int h20f0, .int h20f1, .ref h40]), (h40, aJ (k 1) 40 anJ)]) (Tr := [(h0, ob 7 [.ref h1, .ref h2, .int h0f2, .ref h3, .ref h4, .ref h5, .int h0f6, .ref h6, .int h0f8, .null, .ref h7, .int h0f11, .ref h8, .ref h9, .ref h10, .ref h11, .ref h12]), (h4, aQ (k 3) 4 (q4 h17 h18 h19 h20)), (h17, ob 5 [.int h17f0, .int h17f1, .ref h37]), (h18, ob 5 [.int h18f0, .int h18f1, .ref h38]), (h19, ob 5 [.int h19f0, .int h19f1, .ref h39]), (h37, aJ (k 1) 40 anJ), (h38, aJ (k 1) 40 anJ), (h39, aJ (k 1) 40 anJ)]) (as := [h20, h40]) (zcV (q0 := 5) (ci := 5) (As := [.int x2, .int x3]) (rest := []) (Tc := [(h20, ob 5 [.int h20f0, .int h20f1, .ref h40]), (h40, aJ (k 1) 40 anJ)]) hx hb hml hown hU hK hT rfl rfl [5, 9] rfl (by decide) (cX6_become_2eaac l D k _ h20 h40 x2 x3 h20f0 h20f1 (by omega) (by omega) (by omega) (by omega)) w736 w733 w734 w735 w71 hdX6_become ⟨rfl, rfl⟩ ⟨Nat.le_of_ble_eq_true rfl, Nat.le_of_ble_eq_true rfl⟩ rfl hl.1 (Nat.le_of_ble_eq_true rfl) dX10_sheet_62 ⟨Nat.le_of_ble_eq_true rfl, Nat.le_of_ble_eq_true rfl⟩) hT hS hA [5, 9] [0, 1, 2, 3, 4, 6, 7, 8] rfl rfl rfl (by decide) (by decide) (fun H locs hB J hS => ?_)
                have hT1 := hB
                have hT := J _ hT1
                have hT : TP D A [(h0, ob 7 [.ref h1, .ref h2, .int h0f2, .ref h3, .ref h4, .ref h5, .int h0f6, .ref h6, .int h0f8, .null, .ref h7, .int h0f11, .ref h8, .ref h9, .ref h10, .ref h11, .ref h12]), (h4, aQ (k 3) 4 (q4 h17 h18 h19 h20)), (h17, ob 5 [.int h17f0, .int h17f1, .ref h37]), (h18, ob 5 [.int h18f0, .int h18f1, .ref h38]), (h19, ob 5 [.int h19f0, .int h19f1, .ref h39]), (h37, aJ (k 1) 40 anJ), (h38, aJ (k 1) 40 anJ), (h39, aJ (k 1) 40 anJ), (h20, ob 5 [.int x2, .int x3, .ref h40]), (h40, aJ (k 1) 40 anJ)] _ := hT
                refine lv_iconst (v := 1) hx hb dX10_sheet_65 (by decide) ?_
                exact tz_retI (B := B_cX10_sheet_02988 D k h0 h4 h17 h18 h19 h20 h37 h38 h39 h40 h1 h2 h3 h5 h6 h7 h8 h9 h10 h11 h12 x1 x2 x3 h0f2 h0f6 h0f8 h0f11 h17f0 h17f1 h18f0 h18f1 h19f0 h19f1 h20f0 h20f1) (v := 1) hQ hx hb hr hlocks hS (Nat.le_of_ble_eq_true rfl) (Nat.le_of_ble_eq_true rfl) dX10_sheet_66 (⟨h17f0, h17f1, h18f0, h18f1, h19f0, h19f1, x2, x3, (by have := li_1; omega), (by have := li_1; omega), (by have := li_1; omega), (by have := li_1; omega), (by have := li_1; omega), (by have := li_1; omega), (by have := li_1; omega), (by have := li_1; omega), (by have := li_1; omega), (by have := li_1; first | assumption | (simp only [GSi, GLi]; (repeat' split) <;> omega)), (by have := li_1; first | assumption | (simp only [GSi, GLi]; (repeat' split) <;> omega)), (by have := li_1; first | assumption | (simp only [GSi, GLi]; (repeat' split) <;> omega)), (by have := li_1; first | assumption | (simp only [GSi, GLi]; (repeat' split) <;> omega)), (by have := li_1; first | assumption | (simp only [GSi, GLi]; (repeat' split) <;> omega)), (by have := li_1; first | assumption | (simp only [GSi, GLi]; (repeat' split) <;> omega)), (by have := li_1; first | assumption | (simp only [GSi, GLi]; (repeat' split) <;> omega)), (by have := li_1; first | assumption | (simp only [GSi, GLi]; (repeat' split) <;> omega)), (hT.sub [0, 1, 2, 3, 4, 8, 5, 6, 7, 9] (by decide) rfl)⟩)
            · skip
              have c_30 := ni_nle c_30 li_0 rfl
              refine lv_bipush (v := (-14)) hx hb dX10_sheet_51 (by decide) ?_
              exact tz_retI (B := B_cX10_sheet_02988 D k h0 h4 h17 h18 h19 h20 h37 h38 h39 h40 h1 h2 h3 h5 h6 h7 h8 h9 h10 h11 h12 x1 x2 x3 h0f2 h0f6 h0f8 h0f11 h17f0 h17f1 h18f0 h18f1 h19f0 h19f1 h20f0 h20f1) (v := (-14)) hQ hx hb hr hlocks hS (Nat.le_of_ble_eq_true rfl) (Nat.le_of_ble_eq_true rfl) dX10_sheet_53 (⟨h17f0, h17f1, h18f0, h18f1, h19f0, h19f1, h20f0, h20f1, (by have := li_m14; omega), (by have := li_m14; omega), (by have := li_m14; omega), (by have := li_m14; omega), (by have := li_m14; omega), (by have := li_m14; omega), (by have := li_m14; omega), (by have := li_m14; omega), (by have := li_m14; omega), (by have := li_m14; first | assumption | (simp only [GSi, GLi]; (repeat' split) <;> omega)), (by have := li_m14; first | assumption | (simp only [GSi, GLi]; (repeat' split) <;> omega)), (by have := li_m14; first | assumption | (simp only [GSi, GLi]; (repeat' split) <;> omega)), (by have := li_m14; first | assumption | (simp only [GSi, GLi]; (repeat' split) <;> omega)), (by have := li_m14; first | assumption | (simp only [GSi, GLi]; (repeat' split) <;> omega)), (by have := li_m14; first | assumption | (simp only [GSi, GLi]; (repeat' split) <;> omega)), (by have := li_m14; first | assumption | (simp only [GSi, GLi]; (repeat' split) <;> omega)), (by have := li_m14; first | assumption | (simp only [GSi, GLi]; (repeat' split) <;> omega)), hT⟩)
          · skip
            have c_29 := ni_nle c_29 rfl li_40
            refine lv_iconst (v := (-1)) hx hb dX10_sheet_45 (by decide) ?_
            exact tz_retI (B := B_cX10_sheet_02988 D k h0 h4 h17 h18 h19 h20 h37 h38 h39 h40 h1 h2 h3 h5 h6 h7 h8 h9 h10 h11 h12 x1 x2 x3 h0f2 h0f6 h0f8 h0f11 h17f0 h17f1 h18f0 h18f1 h19f0 h19f1 h20f0 h20f1) (v := (-1)) hQ hx hb hr hlocks hS (Nat.le_of_ble_eq_true rfl) (Nat.le_of_ble_eq_true rfl) dX10_sheet_46 (⟨h17f0, h17f1, h18f0, h18f1, h19f0, h19f1, h20f0, h20f1, (by have := li_m1; omega), (by have := li_m1; omega), (by have := li_m1; omega), (by have := li_m1; omega), (by have := li_m1; omega), (by have := li_m1; omega), (by have := li_m1; omega), (by have := li_m1; omega), (by have := li_m1; omega), (by have := li_m1; first | assumption | (simp only [GSi, GLi]; (repeat' split) <;> omega)), (by have := li_m1; first | assumption | (simp only [GSi, GLi]; (repeat' split) <;> omega)), (by have := li_m1; first | assumption | (simp only [GSi, GLi]; (repeat' split) <;> omega)), (by have := li_m1; first | assumption | (simp only [GSi, GLi]; (repeat' split) <;> omega)), (by have := li_m1; first | assumption | (simp only [GSi, GLi]; (repeat' split) <;> omega)), (by have := li_m1; first | assumption | (simp only [GSi, GLi]; (repeat' split) <;> omega)), (by have := li_m1; first | assumption | (simp only [GSi, GLi]; (repeat' split) <;> omega)), (by have := li_m1; first | assumption | (simp only [GSi, GLi]; (repeat' split) <;> omega)), hT⟩)
        · skip
          have c_28 := ni_eq c_28 rfl li_m1
          exfalso; omega
abbrev Rm_cX10_sheet_28244 : Room := { frames := 2, cells := 0, slots := 0, locals := 46 }
abbrev B_cX10_sheet_28244 (D : va_G) (k : Nat → ClassId) (h0 h4 h18 h19 h20 h21 h46 h47 h48 h49 h1 h2 h3 h5 h6 h7 h8 h9 h10 h11 h12 h13 : Nat) (x1 : Int32) (x2 : Int32) (x3 : Int32) (h0f2 : Int32) (h0f6 : Int32) (h0f8 : Int32) (h0f11 : Int32) (h18f0 : Int32) (h18f1 : Int32) (h19f0 : Int32) (h19f1 : Int32) (h20f0 : Int32) (h20f1 : Int32) (h21f0 : Int32) (h21f1 : Int32) (A : Nat → Prop) (r : Int32) (H : Heap) : Prop := ∃ o0 : Int32, ∃ o1 : Int32, ∃ o2 : Int32, ∃ o3 : Int32, ∃ o4 : Int32, ∃ o5 : Int32, ∃ o6 : Int32, ∃ o7 : Int32, ((-1) ≤ o0.toInt ∧ o0.toInt ≤ 2) ∧ (0 ≤ o1.toInt ∧ o1.toInt ≤ 40) ∧ ((-1) ≤ o2.toInt ∧ o2.toInt ≤ 2) ∧ (0 ≤ o3.toInt ∧ o3.toInt ≤ 40) ∧ ((-1) ≤ o4.toInt ∧ o4.toInt ≤ 2) ∧ (0 ≤ o5.toInt ∧ o5.toInt ≤ 40) ∧ ((-1) ≤ o6.toInt ∧ o6.toInt ≤ 2) ∧ (0 ≤ o7.toInt ∧ o7.toInt ≤ 40) ∧ ((-14) ≤ r.toInt ∧ r.toInt ≤ 1) ∧ (o0.toInt = GSi 0 x1.toInt x2.toInt x3.toInt (h18f0.toInt)) ∧ (o2.toInt = GSi 1 x1.toInt x2.toInt x3.toInt (h19f0.toInt)) ∧ (o4.toInt = GSi 2 x1.toInt x2.toInt x3.toInt (h20f0.toInt)) ∧ (o6.toInt = GSi 3 x1.toInt x2.toInt x3.toInt (h21f0.toInt)) ∧ (o1.toInt = GLi 0 x1.toInt x2.toInt x3.toInt (h18f1.toInt)) ∧ (o3.toInt = GLi 1 x1.toInt x2.toInt x3.toInt (h19f1.toInt)) ∧ (o5.toInt = GLi 2 x1.toInt x2.toInt x3.toInt (h20f1.toInt)) ∧ (o7.toInt = GLi 3 x1.toInt x2.toInt x3.toInt (h21f1.toInt)) ∧ TP D A [(h0, ob 7 [.ref h1, .ref h2, .int h0f2, .ref h3, .ref h4, .ref h5, .int h0f6, .ref h6, .int h0f8, .ref h7, .ref h8, .int h0f11, .ref h9, .ref h10, .ref h11, .ref h12, .ref h13]), (h4, aQ (k 3) 4 (q4 h18 h19 h20 h21)), (h18, ob 5 [.int o0, .int o1, .ref h46]), (h19, ob 5 [.int o2, .int o3, .ref h47]), (h20, ob 5 [.int o4, .int o5, .ref h48]), (h21, ob 5 [.int o6, .int o7, .ref h49]), (h46, aJ (k 1) 40 anJ), (h47, aJ (k 1) 40 anJ), (h48, aJ (k 1) 40 anJ), (h49, aJ (k 1) 40 anJ)] H
set_option maxHeartbeats 4000000 in
set_option maxRecDepth 100000 in
theorem cX10_sheet_28244 (l : Launch) (D : va_G) (k : Nat → ClassId) (sz : Nat) (h0 h4 h18 h19 h20 h21 h46 h47 h48 h49 h1 h2 h3 h5 h6 h7 h8 h9 h10 h11 h12 h13 : Nat) (x1 : Int32) (x2 : Int32) (x3 : Int32) (h0f2 : Int32) (h0f6 : Int32) (h0f8 : Int32) (h0f11 : Int32) (h18f0 : Int32) (h18f1 : Int32) (h19f0 : Int32) (h19f1 : Int32) (h20f0 : Int32) (h20f1 : Int32) (h21f0 : Int32) (h21f1 : Int32) (b_h0f2 : 0 ≤ h0f2.toInt ∧ h0f2.toInt ≤ 1) (b_h0f6 : 0 ≤ h0f6.toInt ∧ h0f6.toInt ≤ 1) (b_h0f8 : 0 ≤ h0f8.toInt ∧ h0f8.toInt ≤ 1) (b_h0f11 : 0 ≤ h0f11.toInt ∧ h0f11.toInt ≤ 200) (b_h18f0 : (-1) ≤ h18f0.toInt ∧ h18f0.toInt ≤ 2) (b_h18f1 : 0 ≤ h18f1.toInt ∧ h18f1.toInt ≤ 40) (b_h19f0 : (-1) ≤ h19f0.toInt ∧ h19f0.toInt ≤ 2) (b_h19f1 : 0 ≤ h19f1.toInt ∧ h19f1.toInt ≤ 40) (b_h20f0 : (-1) ≤ h20f0.toInt ∧ h20f0.toInt ≤ 2) (b_h20f1 : 0 ≤ h20f1.toInt ∧ h20f1.toInt ≤ 40) (b_h21f0 : (-1) ≤ h21f0.toInt ∧ h21f0.toInt ≤ 2) (b_h21f1 : 0 ≤ h21f1.toInt ∧ h21f1.toInt ≤ 40) : Met l yX10_sheet (Cond.code yX10_sheet cX10_sheet 4 (some .int) :: uw) Rm_cX10_sheet_28244 (pT D k sz [.ref h0, .int x1, .int x2, .int x3] [(h0, ob 7 [.ref h1, .ref h2, .int h0f2, .ref h3, .ref h4, .ref h5, .int h0f6, .ref h6, .int h0f8, .ref h7, .ref h8, .int h0f11, .ref h9, .ref h10, .ref h11, .ref h12, .ref h13]), (h4, aQ (k 3) 4 (q4 h18 h19 h20 h21)), (h18, ob 5 [.int h18f0, .int h18f1, .ref h46]), (h19, ob 5 [.int h19f0, .int h19f1, .ref h47]), (h20, ob 5 [.int h20f0, .int h20f1, .ref h48]), (h21, ob 5 [.int h21f0, .int h21f1, .ref h49]), (h46, aJ (k 1) 40 anJ), (h47, aJ (k 1) 40 anJ), (h48, aJ (k 1) 40 anJ), (h49, aJ (k 1) 40 anJ)]) (qI (B_cX10_sheet_28244 D k h0 h4 h18 h19 h20 h21 h46 h47 h48 h49 h1 h2 h3 h5 h6 h7 h8 h9 h10 h11 h12 h13 x1 x2 x3 h0f2 h0f6 h0f8 h0f11 h18f0 h18f1 h19f0 h19f1 h20f0 h20f1 h21f0 h21f1 (zA [h0, h4, h18, h19, h20, h21, h46, h47, h48, h49] sz)) (zA [h0, h4, h18, h19, h20, h21, h46, h47, h48, h49] sz)) 0 0 (zA [h0, h4, h18, h19, h20, h21, h46, h47, h48, h49] sz) := by
  refine tz_begin (as := [h0, h4, h18, h19, h20, h21, h46, h47, h48, h49]) (Qc := fun A => qI (B_cX10_sheet_28244 D k h0 h4 h18 h19 h20 h21 h46 h47 h48 h49 h1 h2 h3 h5 h6 h7 h8 h9 h10 h11 h12 h13 x1 x2 x3 h0f2 h0f6 h0f8 h0f11 h18f0 h18f1 h19f0 h19f1 h20f0 h20f1 h21f0 h21f1 A) A) (by decide +kernel) rfl (Nat.le_of_ble_eq_true rfl) ?_
  intro p e s m args below meth c ls A Q hx hb hr hml hown hlocks hin hU hK hT hS hA hl hQ
  have hl : lv_has ls 4 [(0, .ref h0), (1, .int x1), (2, .int x2), (3, .int x3)] := hl
  have hT : TP D A [(h0, ob 7 [.ref h1, .ref h2, .int h0f2, .ref h3, .ref h4, .ref h5, .int h0f6, .ref h6, .int h0f8, .ref h7, .ref h8, .int h0f11, .ref h9, .ref h10, .ref h11, .ref h12, .ref h13]), (h4, aQ (k 3) 4 (q4 h18 h19 h20 h21)), (h18, ob 5 [.int h18f0, .int h18f1, .ref h46]), (h19, ob 5 [.int h19f0, .int h19f1, .ref h47]), (h20, ob 5 [.int h20f0, .int h20f1, .ref h48]), (h21, ob 5 [.int h21f0, .int h21f1, .ref h49]), (h46, aJ (k 1) 40 anJ), (h47, aJ (k 1) 40 anJ), (h48, aJ (k 1) 40 anJ), (h49, aJ (k 1) 40 anJ)] s.heap := hT
  refine lv_iload_n hx hb dX10_sheet_0 rfl (lv_at hl 1 rfl) ?_
  refine tcI (Tc := []) (Tr := [(h0, ob 7 [.ref h1, .ref h2, .int h0f2, .ref h3, .ref h4, .ref h5, .int h0f6, .ref h6, .int h0f8, .ref h7, .ref h8, .int h0f11, .ref h9, .ref h10, .ref h11, .ref h12, .ref h13]), (h4, aQ (k 3) 4 (q4 h18 h19 h20 h21)), (h18, ob 5 [.int h18f0, .int h18f1, .ref h46]), (h19, ob 5 [.int h19f0, .int h19f1, .ref h47]), (h20, ob 5 [.int h20f0, .int h20f1, .ref h48]), (h21, ob 5 [.int h21f0, .int h21f1, .ref h49]), (h46, aJ (k 1) 40 anJ), (h47, aJ (k 1) 40 anJ), (h48, aJ (k 1) 40 anJ), (h49, aJ (k 1) 40 anJ)]) (as := []) (zcS (As := [.int x1]) (rest := []) (Tc := []) hx hb hml hown hU hK hT [] rfl (by decide) (cX10_isSheet_b539c l D k _ x1) w640 w638 w639 w63 hdX10_isSheet ⟨rfl, rfl⟩ ⟨Nat.le_of_ble_eq_true rfl, Nat.le_of_ble_eq_true rfl⟩ rfl hl.1 (Nat.le_of_ble_eq_true rfl) dX10_sheet_1 ⟨Nat.le_of_ble_eq_true rfl, Nat.le_of_ble_eq_true rfl⟩) hT hS hA [] [0, 1, 2, 3, 4, 5, 6, 7, 8, 9] rfl rfl rfl (by decide) (by decide) (fun r1 H locs hB J hS => ?_)
  rcases hB with ⟨c_2, rfl, hT1⟩ | ⟨c_3, c_4, rfl, hT1⟩ | ⟨c_5, c_6, rfl, hT1⟩
  · skip
    have hT := J _ hT1
    have hT : TP D A [(h0, ob 7 [.ref h1, .ref h2, .int h0f2, .ref h3, .ref h4, .ref h5, .int h0f6, .ref h6, .int h0f8, .ref h7, .ref h8, .int h0f11, .ref h9, .ref h10, .ref h11, .ref h12, .ref h13]), (h4, aQ (k 3) 4 (q4 h18 h19 h20 h21)), (h18, ob 5 [.int h18f0, .int h18f1, .ref h46]), (h19, ob 5 [.int h19f0, .int h19f1, .ref h47]), (h20, ob 5 [.int h20f0, .int h20f1, .ref h48]), (h21, ob 5 [.int h21f0, .int h21f1, .ref h49]), (h46, aJ (k 1) 40 anJ), (h47, aJ (k 1) 40 anJ), (h48, aJ (k 1) 40 anJ), (h49, aJ (k 1) 40 anJ)] _ := hT
    refine lv_if_eq (tgt := 19) hx hb dX10_sheet_4 (by decide) (fun _ => ?_) (fun cc => absurd (by decide +kernel) cc)
    refine lv_iconst (v := (-1)) hx hb dX10_sheet_19 (by decide) ?_
    exact tz_retI (B := B_cX10_sheet_28244 D k h0 h4 h18 h19 h20 h21 h46 h47 h48 h49 h1 h2 h3 h5 h6 h7 h8 h9 h10 h11 h12 h13 x1 x2 x3 h0f2 h0f6 h0f8 h0f11 h18f0 h18f1 h19f0 h19f1 h20f0 h20f1 h21f0 h21f1) (v := (-1)) hQ hx hb hr hlocks hS (Nat.le_of_ble_eq_true rfl) (Nat.le_of_ble_eq_true rfl) dX10_sheet_20 (⟨h18f0, h18f1, h19f0, h19f1, h20f0, h20f1, h21f0, h21f1, (by have := li_m1; omega), (by have := li_m1; omega), (by have := li_m1; omega), (by have := li_m1; omega), (by have := li_m1; omega), (by have := li_m1; omega), (by have := li_m1; omega), (by have := li_m1; omega), (by have := li_m1; omega), (by have := li_m1; first | assumption | (simp only [GSi, GLi]; (repeat' split) <;> omega)), (by have := li_m1; first | assumption | (simp only [GSi, GLi]; (repeat' split) <;> omega)), (by have := li_m1; first | assumption | (simp only [GSi, GLi]; (repeat' split) <;> omega)), (by have := li_m1; first | assumption | (simp only [GSi, GLi]; (repeat' split) <;> omega)), (by have := li_m1; first | assumption | (simp only [GSi, GLi]; (repeat' split) <;> omega)), (by have := li_m1; first | assumption | (simp only [GSi, GLi]; (repeat' split) <;> omega)), (by have := li_m1; first | assumption | (simp only [GSi, GLi]; (repeat' split) <;> omega)), (by have := li_m1; first | assumption | (simp only [GSi, GLi]; (repeat' split) <;> omega)), hT⟩)
  · skip
    have hT := J _ hT1
    have hT : TP D A [(h0, ob 7 [.ref h1, .ref h2, .int h0f2, .ref h3, .ref h4, .ref h5, .int h0f6, .ref h6, .int h0f8, .ref h7, .ref h8, .int h0f11, .ref h9, .ref h10, .ref h11, .ref h12, .ref h13]), (h4, aQ (k 3) 4 (q4 h18 h19 h20 h21)), (h18, ob 5 [.int h18f0, .int h18f1, .ref h46]), (h19, ob 5 [.int h19f0, .int h19f1, .ref h47]), (h20, ob 5 [.int h20f0, .int h20f1, .ref h48]), (h21, ob 5 [.int h21f0, .int h21f1, .ref h49]), (h46, aJ (k 1) 40 anJ), (h47, aJ (k 1) 40 anJ), (h48, aJ (k 1) 40 anJ), (h49, aJ (k 1) 40 anJ)] _ := hT
    refine lv_if_eq (tgt := 19) hx hb dX10_sheet_4 (by decide) (fun _ => ?_) (fun cc => absurd (by decide +kernel) cc)
    refine lv_iconst (v := (-1)) hx hb dX10_sheet_19 (by decide) ?_
    exact tz_retI (B := B_cX10_sheet_28244 D k h0 h4 h18 h19 h20 h21 h46 h47 h48 h49 h1 h2 h3 h5 h6 h7 h8 h9 h10 h11 h12 h13 x1 x2 x3 h0f2 h0f6 h0f8 h0f11 h18f0 h18f1 h19f0 h19f1 h20f0 h20f1 h21f0 h21f1) (v := (-1)) hQ hx hb hr hlocks hS (Nat.le_of_ble_eq_true rfl) (Nat.le_of_ble_eq_true rfl) dX10_sheet_20 (⟨h18f0, h18f1, h19f0, h19f1, h20f0, h20f1, h21f0, h21f1, (by have := li_m1; omega), (by have := li_m1; omega), (by have := li_m1; omega), (by have := li_m1; omega), (by have := li_m1; omega), (by have := li_m1; omega), (by have := li_m1; omega), (by have := li_m1; omega), (by have := li_m1; omega), (by have := li_m1; first | assumption | (simp only [GSi, GLi]; (repeat' split) <;> omega)), (by have := li_m1; first | assumption | (simp only [GSi, GLi]; (repeat' split) <;> omega)), (by have := li_m1; first | assumption | (simp only [GSi, GLi]; (repeat' split) <;> omega)), (by have := li_m1; first | assumption | (simp only [GSi, GLi]; (repeat' split) <;> omega)), (by have := li_m1; first | assumption | (simp only [GSi, GLi]; (repeat' split) <;> omega)), (by have := li_m1; first | assumption | (simp only [GSi, GLi]; (repeat' split) <;> omega)), (by have := li_m1; first | assumption | (simp only [GSi, GLi]; (repeat' split) <;> omega)), (by have := li_m1; first | assumption | (simp only [GSi, GLi]; (repeat' split) <;> omega)), hT⟩)
  · skip
    have hT := J _ hT1
    have hT : TP D A [(h0, ob 7 [.ref h1, .ref h2, .int h0f2, .ref h3, .ref h4, .ref h5, .int h0f6, .ref h6, .int h0f8, .ref h7, .ref h8, .int h0f11, .ref h9, .ref h10, .ref h11, .ref h12, .ref h13]), (h4, aQ (k 3) 4 (q4 h18 h19 h20 h21)), (h18, ob 5 [.int h18f0, .int h18f1, .ref h46]), (h19, ob 5 [.int h19f0, .int h19f1, .ref h47]), (h20, ob 5 [.int h20f0, .int h20f1, .ref h48]), (h21, ob 5 [.int h21f0, .int h21f1, .ref h49]), (h46, aJ (k 1) 40 anJ), (h47, aJ (k 1) 40 anJ), (h48, aJ (k 1) 40 anJ), (h49, aJ (k 1) 40 anJ)] _ := hT
    refine lv_if_eq (tgt := 19) hx hb dX10_sheet_4 (by decide) (fun cc => absurd cc (by decide +kernel)) (fun _ => ?_)
    refine lv_iload_n hx hb dX10_sheet_7 rfl (lv_at hl 2 rfl) ?_
    refine lv_iconst (v := (-1)) hx hb dX10_sheet_8 (by decide) ?_
    refine lv_icmp_eq (tgt := 21) hx hb dX10_sheet_9 (by decide) (fun c_7 => ?_) (fun c_7 => ?_)
    · skip
      have c_7 := ni_eq c_7 rfl li_m1
      refine lv_iload_n hx hb dX10_sheet_21 rfl (lv_at hl 2 rfl) ?_
      refine lv_iconst (v := (-1)) hx hb dX10_sheet_22 (by decide) ?_
      refine lv_icmp_ne (tgt := 39) hx hb dX10_sheet_23 (by decide) (fun c_8 => ?_) (fun c_8 => ?_)
      · skip
        have c_8 := ni_ne c_8 rfl li_m1
        exfalso; omega
      · skip
        have c_8 := ni_eq c_8 rfl li_m1
        refine lv_aload_n hx hb dX10_sheet_26 rfl (lv_at hl 0 rfl) ?_
        refine tz_get (ci := 7) (v := .ref h4) (C := RX10) (F := TX10) (N := 17) hx hb hU iX10 hown hK hT 0 rfl rfl 4 (by decide) w253 (fun _ h9 => h9) rfl dX10_sheet_27 ?_
        refine lv_iload_n hx hb dX10_sheet_30 rfl (lv_at hl 1 rfl) ?_
        rcases (show x1.toInt = 0 ∨ x1.toInt = 1 ∨ x1.toInt = 2 ∨ x1.toInt = 3 by omega) with hq9 | hq9 | hq9 | hq9
        · skip
          refine tz_aldq (b := h18) hx hb hK hT 1 rfl (vp_in_iff.mpr (by have := hq9; omega)) (fun f hf => by rw [cl_of hq9]; exact hf.1) dX10_sheet_31 ?_
          refine lv_iconst (v := (-1)) hx hb dX10_sheet_32 (by decide) ?_
          refine lv_iconst (v := 0) hx hb dX10_sheet_33 (by decide) ?_
          have q_q11 := li_m1
          have q_q12 := li_0
          refine tcV (Tc := [(h18, ob 5 [.int h18f0, .int h18f1, .ref h46]), (h46, aJ (k 1) 40 anJ)]) (Tr := [(h0, ob 7 [.ref h1, .ref h2, .int h0f2, .ref h3, .ref h4, .ref h5, .int h0f6, .ref h6, .int h0f8, .ref h7, .ref h8, .int h0f11, .ref h9, .ref h10, .ref h11, .ref h12, .ref h13]), (h4, aQ (k 3) 4 (q4 h18 h19 h20 h21)), (h19, ob 5 [.int h19f0, .int h19f1, .ref h47]), (h20, ob 5 [.int h20f0, .int h20f1, .ref h48]), (h21, ob 5 [.int h21f0, .int h21f1, .ref h49]), (h47, aJ (k 1) 40 anJ), (h48, aJ (k 1) 40 anJ), (h49, aJ (k 1) 40 anJ)]) (as := [h18, h46]) (zcV (q0 := 2) (ci := 5) (As := [.int (-1), .int 0]) (rest := []) (Tc := [(h18, ob 5 [.int h18f0, .int h18f1, .ref h46]), (h46, aJ (k 1) 40 anJ)]) hx hb hml hown hU hK hT rfl rfl [2, 6] rfl (by decide) (cX6_become_2eaac l D k _ h18 h46 ((-1)) (0) h18f0 h18f1 (by have := li_m1; omega) (by have := li_0; omega) (by omega) (by omega)) w736 w733 w734 w735 w71 hdX6_become ⟨rfl, rfl⟩ ⟨Nat.le_of_ble_eq_true rfl, Nat.le_of_ble_eq_true rfl⟩ rfl hl.1 (Nat.le_of_ble_eq_true rfl) dX10_sheet_34 ⟨Nat.le_of_ble_eq_true rfl, Nat.le_of_ble_eq_true rfl⟩) hT hS hA [2, 6] [0, 1, 3, 4, 5, 7, 8, 9] rfl rfl rfl (by decide) (by decide) (fun H locs hB J hS => ?_)
          have hT1 := hB
          have hT := J _ hT1
          have hT : TP D A [(h0, ob 7 [.ref h1, .ref h2, .int h0f2, .ref h3, .ref h4, .ref h5, .int h0f6, .ref h6, .int h0f8, .ref h7, .ref h8, .int h0f11, .ref h9, .ref h10, .ref h11, .ref h12, .ref h13]), (h4, aQ (k 3) 4 (q4 h18 h19 h20 h21)), (h19, ob 5 [.int h19f0, .int h19f1, .ref h47]), (h20, ob 5 [.int h20f0, .int h20f1, .ref h48]), (h21, ob 5 [.int h21f0, .int h21f1, .ref h49]), (h47, aJ (k 1) 40 anJ), (h48, aJ (k 1) 40 anJ), (h49, aJ (k 1) 40 anJ), (h18, ob 5 [.int (-1), .int 0, .ref h46]), (h46, aJ (k 1) 40 anJ)] _ := hT
          refine lv_iconst (v := 1) hx hb dX10_sheet_37 (by decide) ?_
          exact tz_retI (B := B_cX10_sheet_28244 D k h0 h4 h18 h19 h20 h21 h46 h47 h48 h49 h1 h2 h3 h5 h6 h7 h8 h9 h10 h11 h12 h13 x1 x2 x3 h0f2 h0f6 h0f8 h0f11 h18f0 h18f1 h19f0 h19f1 h20f0 h20f1 h21f0 h21f1) (v := 1) hQ hx hb hr hlocks hS (Nat.le_of_ble_eq_true rfl) (Nat.le_of_ble_eq_true rfl) dX10_sheet_38 (⟨(-1), 0, h19f0, h19f1, h20f0, h20f1, h21f0, h21f1, (by have := li_m1; have := li_0; have := li_1; omega), (by have := li_m1; have := li_0; have := li_1; omega), (by have := li_m1; have := li_0; have := li_1; omega), (by have := li_m1; have := li_0; have := li_1; omega), (by have := li_m1; have := li_0; have := li_1; omega), (by have := li_m1; have := li_0; have := li_1; omega), (by have := li_m1; have := li_0; have := li_1; omega), (by have := li_m1; have := li_0; have := li_1; omega), (by have := li_m1; have := li_0; have := li_1; omega), (by have := li_m1; have := li_0; have := li_1; first | assumption | (simp only [GSi, GLi]; (repeat' split) <;> omega)), (by have := li_m1; have := li_0; have := li_1; first | assumption | (simp only [GSi, GLi]; (repeat' split) <;> omega)), (by have := li_m1; have := li_0; have := li_1; first | assumption | (simp only [GSi, GLi]; (repeat' split) <;> omega)), (by have := li_m1; have := li_0; have := li_1; first | assumption | (simp only [GSi, GLi]; (repeat' split) <;> omega)), (by have := li_m1; have := li_0; have := li_1; first | assumption | (simp only [GSi, GLi]; (repeat' split) <;> omega)), (by have := li_m1; have := li_0; have := li_1; first | assumption | (simp only [GSi, GLi]; (repeat' split) <;> omega)), (by have := li_m1; have := li_0; have := li_1; first | assumption | (simp only [GSi, GLi]; (repeat' split) <;> omega)), (by have := li_m1; have := li_0; have := li_1; first | assumption | (simp only [GSi, GLi]; (repeat' split) <;> omega)), (hT.sub [0, 1, 8, 2, 3, 4, 9, 5, 6, 7] (by decide) rfl)⟩)
        · skip
          refine tz_aldq (b := h19) hx hb hK hT 1 rfl (vp_in_iff.mpr (by have := hq9; omega)) (fun f hf => by rw [cl_of hq9]; exact hf.2.1) dX10_sheet_31 ?_
          refine lv_iconst (v := (-1)) hx hb dX10_sheet_32 (by decide) ?_
          refine lv_iconst (v := 0) hx hb dX10_sheet_33 (by decide) ?_
          have q_q14 := li_m1
          have q_q15 := li_0
          refine tcV (Tc := [(h19, ob 5 [.int h19f0, .int h19f1, .ref h47]), (h47, aJ (k 1) 40 anJ)]) (Tr := [(h0, ob 7 [.ref h1, .ref h2, .int h0f2, .ref h3, .ref h4, .ref h5, .int h0f6, .ref h6, .int h0f8, .ref h7, .ref h8, .int h0f11, .ref h9, .ref h10, .ref h11, .ref h12, .ref h13]), (h4, aQ (k 3) 4 (q4 h18 h19 h20 h21)), (h18, ob 5 [.int h18f0, .int h18f1, .ref h46]), (h20, ob 5 [.int h20f0, .int h20f1, .ref h48]), (h21, ob 5 [.int h21f0, .int h21f1, .ref h49]), (h46, aJ (k 1) 40 anJ), (h48, aJ (k 1) 40 anJ), (h49, aJ (k 1) 40 anJ)]) (as := [h19, h47]) (zcV (q0 := 3) (ci := 5) (As := [.int (-1), .int 0]) (rest := []) (Tc := [(h19, ob 5 [.int h19f0, .int h19f1, .ref h47]), (h47, aJ (k 1) 40 anJ)]) hx hb hml hown hU hK hT rfl rfl [3, 7] rfl (by decide) (cX6_become_2eaac l D k _ h19 h47 ((-1)) (0) h19f0 h19f1 (by have := li_m1; omega) (by have := li_0; omega) (by omega) (by omega)) w736 w733 w734 w735 w71 hdX6_become ⟨rfl, rfl⟩ ⟨Nat.le_of_ble_eq_true rfl, Nat.le_of_ble_eq_true rfl⟩ rfl hl.1 (Nat.le_of_ble_eq_true rfl) dX10_sheet_34 ⟨Nat.le_of_ble_eq_true rfl, Nat.le_of_ble_eq_true rfl⟩) hT hS hA [3, 7] [0, 1, 2, 4, 5, 6, 8, 9] rfl rfl rfl (by decide) (by decide) (fun H locs hB J hS => ?_)
          have hT1 := hB
          have hT := J _ hT1
          have hT : TP D A [(h0, ob 7 [.ref h1, .ref h2, .int h0f2, .ref h3, .ref h4, .ref h5, .int h0f6, .ref h6, .int h0f8, .ref h7, .ref h8, .int h0f11, .ref h9, .ref h10, .ref h11, .ref h12, .ref h13]), (h4, aQ (k 3) 4 (q4 h18 h19 h20 h21)), (h18, ob 5 [.int h18f0, .int h18f1, .ref h46]), (h20, ob 5 [.int h20f0, .int h20f1, .ref h48]), (h21, ob 5 [.int h21f0, .int h21f1, .ref h49]), (h46, aJ (k 1) 40 anJ), (h48, aJ (k 1) 40 anJ), (h49, aJ (k 1) 40 anJ), (h19, ob 5 [.int (-1), .int 0, .ref h47]), (h47, aJ (k 1) 40 anJ)] _ := hT
          refine lv_iconst (v := 1) hx hb dX10_sheet_37 (by decide) ?_
          exact tz_retI (B := B_cX10_sheet_28244 D k h0 h4 h18 h19 h20 h21 h46 h47 h48 h49 h1 h2 h3 h5 h6 h7 h8 h9 h10 h11 h12 h13 x1 x2 x3 h0f2 h0f6 h0f8 h0f11 h18f0 h18f1 h19f0 h19f1 h20f0 h20f1 h21f0 h21f1) (v := 1) hQ hx hb hr hlocks hS (Nat.le_of_ble_eq_true rfl) (Nat.le_of_ble_eq_true rfl) dX10_sheet_38 (⟨h18f0, h18f1, (-1), 0, h20f0, h20f1, h21f0, h21f1, (by have := li_m1; have := li_0; have := li_1; omega), (by have := li_m1; have := li_0; have := li_1; omega), (by have := li_m1; have := li_0; have := li_1; omega), (by have := li_m1; have := li_0; have := li_1; omega), (by have := li_m1; have := li_0; have := li_1; omega), (by have := li_m1; have := li_0; have := li_1; omega), (by have := li_m1; have := li_0; have := li_1; omega), (by have := li_m1; have := li_0; have := li_1; omega), (by have := li_m1; have := li_0; have := li_1; omega), (by have := li_m1; have := li_0; have := li_1; first | assumption | (simp only [GSi, GLi]; (repeat' split) <;> omega)), (by have := li_m1; have := li_0; have := li_1; first | assumption | (simp only [GSi, GLi]; (repeat' split) <;> omega)), (by have := li_m1; have := li_0; have := li_1; first | assumption | (simp only [GSi, GLi]; (repeat' split) <;> omega)), (by have := li_m1; have := li_0; have := li_1; first | assumption | (simp only [GSi, GLi]; (repeat' split) <;> omega)), (by have := li_m1; have := li_0; have := li_1; first | assumption | (simp only [GSi, GLi]; (repeat' split) <;> omega)), (by have := li_m1; have := li_0; have := li_1; first | assumption | (simp only [GSi, GLi]; (repeat' split) <;> omega)), (by have := li_m1; have := li_0; have := li_1; first | assumption | (simp only [GSi, GLi]; (repeat' split) <;> omega)), (by have := li_m1; have := li_0; have := li_1; first | assumption | (simp only [GSi, GLi]; (repeat' split) <;> omega)), (hT.sub [0, 1, 2, 8, 3, 4, 5, 9, 6, 7] (by decide) rfl)⟩)
        · skip
          refine tz_aldq (b := h20) hx hb hK hT 1 rfl (vp_in_iff.mpr (by have := hq9; omega)) (fun f hf => by rw [cl_of hq9]; exact hf.2.2.1) dX10_sheet_31 ?_
          refine lv_iconst (v := (-1)) hx hb dX10_sheet_32 (by decide) ?_
          refine lv_iconst (v := 0) hx hb dX10_sheet_33 (by decide) ?_
          have q_q17 := li_m1
          have q_q18 := li_0
          refine tcV (Tc := [(h20, ob 5 [.int h20f0, .int h20f1, .ref h48]), (h48, aJ (k 1) 40 anJ)]) (Tr := [(h0, ob 7 [.ref h1, .ref h2, .int h0f2, .ref h3, .ref h4, .ref h5, .int h0f6, .ref h6, .int h0f8, .ref h7, .ref h8, .int h0f11, .ref h9, .ref h10, .ref h11, .ref h12, .ref h13]), (h4, aQ (k 3) 4 (q4 h18 h19 h20 h21)), (h18, ob 5 [.int h18f0, .int h18f1, .ref h46]), (h19, ob 5 [.int h19f0, .int h19f1, .ref h47]), (h21, ob 5 [.int h21f0, .int h21f1, .ref h49]), (h46, aJ (k 1) 40 anJ), (h47, aJ (k 1) 40 anJ), (h49, aJ (k 1) 40 anJ)]) (as := [h20, h48]) (zcV (q0 := 4) (ci := 5) (As := [.int (-1), .int 0]) (rest := []) (Tc := [(h20, ob 5 [.int h20f0, .int h20f1, .ref h48]), (h48, aJ (k 1) 40 anJ)]) hx hb hml hown hU hK hT rfl rfl [4, 8] rfl (by decide) (cX6_become_2eaac l D k _ h20 h48 ((-1)) (0) h20f0 h20f1 (by have := li_m1; omega) (by have := li_0; omega) (by omega) (by omega)) w736 w733 w734 w735 w71 hdX6_become ⟨rfl, rfl⟩ ⟨Nat.le_of_ble_eq_true rfl, Nat.le_of_ble_eq_true rfl⟩ rfl hl.1 (Nat.le_of_ble_eq_true rfl) dX10_sheet_34 ⟨Nat.le_of_ble_eq_true rfl, Nat.le_of_ble_eq_true rfl⟩) hT hS hA [4, 8] [0, 1, 2, 3, 5, 6, 7, 9] rfl rfl rfl (by decide) (by decide) (fun H locs hB J hS => ?_)
          have hT1 := hB
          have hT := J _ hT1
          have hT : TP D A [(h0, ob 7 [.ref h1, .ref h2, .int h0f2, .ref h3, .ref h4, .ref h5, .int h0f6, .ref h6, .int h0f8, .ref h7, .ref h8, .int h0f11, .ref h9, .ref h10, .ref h11, .ref h12, .ref h13]), (h4, aQ (k 3) 4 (q4 h18 h19 h20 h21)), (h18, ob 5 [.int h18f0, .int h18f1, .ref h46]), (h19, ob 5 [.int h19f0, .int h19f1, .ref h47]), (h21, ob 5 [.int h21f0, .int h21f1, .ref h49]), (h46, aJ (k 1) 40 anJ), (h47, aJ (k 1) 40 anJ), (h49, aJ (k 1) 40 anJ), (h20, ob 5 [.int (-1), .int 0, .ref h48]), (h48, aJ (k 1) 40 anJ)] _ := hT
          refine lv_iconst (v := 1) hx hb dX10_sheet_37 (by decide) ?_
          exact tz_retI (B := B_cX10_sheet_28244 D k h0 h4 h18 h19 h20 h21 h46 h47 h48 h49 h1 h2 h3 h5 h6 h7 h8 h9 h10 h11 h12 h13 x1 x2 x3 h0f2 h0f6 h0f8 h0f11 h18f0 h18f1 h19f0 h19f1 h20f0 h20f1 h21f0 h21f1) (v := 1) hQ hx hb hr hlocks hS (Nat.le_of_ble_eq_true rfl) (Nat.le_of_ble_eq_true rfl) dX10_sheet_38 (⟨h18f0, h18f1, h19f0, h19f1, (-1), 0, h21f0, h21f1, (by have := li_m1; have := li_0; have := li_1; omega), (by have := li_m1; have := li_0; have := li_1; omega), (by have := li_m1; have := li_0; have := li_1; omega), (by have := li_m1; have := li_0; have := li_1; omega), (by have := li_m1; have := li_0; have := li_1; omega), (by have := li_m1; have := li_0; have := li_1; omega), (by have := li_m1; have := li_0; have := li_1; omega), (by have := li_m1; have := li_0; have := li_1; omega), (by have := li_m1; have := li_0; have := li_1; omega), (by have := li_m1; have := li_0; have := li_1; first | assumption | (simp only [GSi, GLi]; (repeat' split) <;> omega)), (by have := li_m1; have := li_0; have := li_1; first | assumption | (simp only [GSi, GLi]; (repeat' split) <;> omega)), (by have := li_m1; have := li_0; have := li_1; first | assumption | (simp only [GSi, GLi]; (repeat' split) <;> omega)), (by have := li_m1; have := li_0; have := li_1; first | assumption | (simp only [GSi, GLi]; (repeat' split) <;> omega)), (by have := li_m1; have := li_0; have := li_1; first | assumption | (simp only [GSi, GLi]; (repeat' split) <;> omega)), (by have := li_m1; have := li_0; have := li_1; first | assumption | (simp only [GSi, GLi]; (repeat' split) <;> omega)), (by have := li_m1; have := li_0; have := li_1; first | assumption | (simp only [GSi, GLi]; (repeat' split) <;> omega)), (by have := li_m1; have := li_0; have := li_1; first | assumption | (simp only [GSi, GLi]; (repeat' split) <;> omega)), (hT.sub [0, 1, 2, 3, 8, 4, 5, 6, 9, 7] (by decide) rfl)⟩)
        · skip
          refine tz_aldq (b := h21) hx hb hK hT 1 rfl (vp_in_iff.mpr (by have := hq9; omega)) (fun f hf => by rw [cl_of hq9]; exact hf.2.2.2) dX10_sheet_31 ?_
          refine lv_iconst (v := (-1)) hx hb dX10_sheet_32 (by decide) ?_
          refine lv_iconst (v := 0) hx hb dX10_sheet_33 (by decide) ?_
          have q_q20 := li_m1
          have q_q21 := li_0
          refine tcV (Tc := [(h21, ob 5 [.int h21f0, .int h21f1, .ref h49]), (h49, aJ (k 1) 40 anJ)]) (Tr := [(h0, ob 7 [.ref h1, .ref h2, .int h0f2, .ref h3, .ref h4, .ref h5, .int h0f6, .ref h6, .int h0f8, .ref h7, .ref h8, .int h0f11, .ref h9, .ref h10, .ref h11, .ref h12, .ref h13]), (h4, aQ (k 3) 4 (q4 h18 h19 h20 h21)), (h18, ob 5 [.int h18f0, .int h18f1, .ref h46]), (h19, ob 5 [.int h19f0, .int h19f1, .ref h47]), (h20, ob 5 [.int h20f0, .int h20f1, .ref h48]), (h46, aJ (k 1) 40 anJ), (h47, aJ (k 1) 40 anJ), (h48, aJ (k 1) 40 anJ)]) (as := [h21, h49]) (zcV (q0 := 5) (ci := 5) (As := [.int (-1), .int 0]) (rest := []) (Tc := [(h21, ob 5 [.int h21f0, .int h21f1, .ref h49]), (h49, aJ (k 1) 40 anJ)]) hx hb hml hown hU hK hT rfl rfl [5, 9] rfl (by decide) (cX6_become_2eaac l D k _ h21 h49 ((-1)) (0) h21f0 h21f1 (by have := li_m1; omega) (by have := li_0; omega) (by omega) (by omega)) w736 w733 w734 w735 w71 hdX6_become ⟨rfl, rfl⟩ ⟨Nat.le_of_ble_eq_true rfl, Nat.le_of_ble_eq_true rfl⟩ rfl hl.1 (Nat.le_of_ble_eq_true rfl) dX10_sheet_34 ⟨Nat.le_of_ble_eq_true rfl, Nat.le_of_ble_eq_true rfl⟩) hT hS hA [5, 9] [0, 1, 2, 3, 4, 6, 7, 8] rfl rfl rfl (by decide) (by decide) (fun H locs hB J hS => ?_)
          have hT1 := hB
          have hT := J _ hT1
          have hT : TP D A [(h0, ob 7 [.ref h1, .ref h2, .int h0f2, .ref h3, .ref h4, .ref h5, .int h0f6, .ref h6, .int h0f8, .ref h7, .ref h8, .int h0f11, .ref h9, .ref h10, .ref h11, .ref h12, .ref h13]), (h4, aQ (k 3) 4 (q4 h18 h19 h20 h21)), (h18, ob 5 [.int h18f0, .int h18f1, .ref h46]), (h19, ob 5 [.int h19f0, .int h19f1, .ref h47]), (h20, ob 5 [.int h20f0, .int h20f1, .ref h48]), (h46, aJ (k 1) 40 anJ), (h47, aJ (k 1) 40 anJ), (h48, aJ (k 1) 40 anJ), (h21, ob 5 [.int (-1), .int 0, .ref h49]), (h49, aJ (k 1) 40 anJ)] _ := hT
          refine lv_iconst (v := 1) hx hb dX10_sheet_37 (by decide) ?_
          exact tz_retI (B := B_cX10_sheet_28244 D k h0 h4 h18 h19 h20 h21 h46 h47 h48 h49 h1 h2 h3 h5 h6 h7 h8 h9 h10 h11 h12 h13 x1 x2 x3 h0f2 h0f6 h0f8 h0f11 h18f0 h18f1 h19f0 h19f1 h20f0 h20f1 h21f0 h21f1) (v := 1) hQ hx hb hr hlocks hS (Nat.le_of_ble_eq_true rfl) (Nat.le_of_ble_eq_true rfl) dX10_sheet_38 (⟨h18f0, h18f1, h19f0, h19f1, h20f0, h20f1, (-1), 0, (by have := li_m1; have := li_0; have := li_1; omega), (by have := li_m1; have := li_0; have := li_1; omega), (by have := li_m1; have := li_0; have := li_1; omega), (by have := li_m1; have := li_0; have := li_1; omega), (by have := li_m1; have := li_0; have := li_1; omega), (by have := li_m1; have := li_0; have := li_1; omega), (by have := li_m1; have := li_0; have := li_1; omega), (by have := li_m1; have := li_0; have := li_1; omega), (by have := li_m1; have := li_0; have := li_1; omega), (by have := li_m1; have := li_0; have := li_1; first | assumption | (simp only [GSi, GLi]; (repeat' split) <;> omega)), (by have := li_m1; have := li_0; have := li_1; first | assumption | (simp only [GSi, GLi]; (repeat' split) <;> omega)), (by have := li_m1; have := li_0; have := li_1; first | assumption | (simp only [GSi, GLi]; (repeat' split) <;> omega)), (by have := li_m1; have := li_0; have := li_1; first | assumption | (simp only [GSi, GLi]; (repeat' split) <;> omega)), (by have := li_m1; have := li_0; have := li_1; first | assumption | (simp only [GSi, GLi]; (repeat' split) <;> omega)), (by have := li_m1; have := li_0; have := li_1; first | assumption | (simp only [GSi, GLi]; (repeat' split) <;> omega)), (by have := li_m1; have := li_0; have := li_1; first | assumption | (simp only [GSi, GLi]; (repeat' split) <;> omega)), (by have := li_m1; have := li_0; have := li_1; first | assumption | (simp only [GSi, GLi]; (repeat' split) <;> omega)), (hT.sub [0, 1, 2, 3, 4, 8, 5, 6, 7, 9] (by decide) rfl)⟩)
    · skip
      have c_7 := ni_ne c_7 rfl li_m1
      refine lv_iload_n hx hb dX10_sheet_12 rfl (lv_at hl 2 rfl) ?_
      refine tcI (Tc := []) (Tr := [(h0, ob 7 [.ref h1, .ref h2, .int h0f2, .ref h3, .ref h4, .ref h5, .int h0f6, .ref h6, .int h0f8, .ref h7, .ref h8, .int h0f11, .ref h9, .ref h10, .ref h11, .ref h12, .ref h13]), (h4, aQ (k 3) 4 (q4 h18 h19 h20 h21)), (h18, ob 5 [.int h18f0, .int h18f1, .ref h46]), (h19, ob 5 [.int h19f0, .int h19f1, .ref h47]), (h20, ob 5 [.int h20f0, .int h20f1, .ref h48]), (h21, ob 5 [.int h21f0, .int h21f1, .ref h49]), (h46, aJ (k 1) 40 anJ), (h47, aJ (k 1) 40 anJ), (h48, aJ (k 1) 40 anJ), (h49, aJ (k 1) 40 anJ)]) (as := []) (zcS (As := [.int x2]) (rest := []) (Tc := []) hx hb hml hown hU hK hT [] rfl (by decide) (cX10_isSort_c9073 l D k _ x2) w732 w730 w731 w63 hdX10_isSort ⟨rfl, rfl⟩ ⟨Nat.le_of_ble_eq_true rfl, Nat.le_of_ble_eq_true rfl⟩ rfl hl.1 (Nat.le_of_ble_eq_true rfl) dX10_sheet_13 ⟨Nat.le_of_ble_eq_true rfl, Nat.le_of_ble_eq_true rfl⟩) hT hS hA [] [0, 1, 2, 3, 4, 5, 6, 7, 8, 9] rfl rfl rfl (by decide) (by decide) (fun r22 H locs hB J hS => ?_)
      rcases hB with ⟨c_23, rfl, hT1⟩ | ⟨c_24, c_25, rfl, hT1⟩ | ⟨c_26, c_27, rfl, hT1⟩
      · skip
        have hT := J _ hT1
        have hT : TP D A [(h0, ob 7 [.ref h1, .ref h2, .int h0f2, .ref h3, .ref h4, .ref h5, .int h0f6, .ref h6, .int h0f8, .ref h7, .ref h8, .int h0f11, .ref h9, .ref h10, .ref h11, .ref h12, .ref h13]), (h4, aQ (k 3) 4 (q4 h18 h19 h20 h21)), (h18, ob 5 [.int h18f0, .int h18f1, .ref h46]), (h19, ob 5 [.int h19f0, .int h19f1, .ref h47]), (h20, ob 5 [.int h20f0, .int h20f1, .ref h48]), (h21, ob 5 [.int h21f0, .int h21f1, .ref h49]), (h46, aJ (k 1) 40 anJ), (h47, aJ (k 1) 40 anJ), (h48, aJ (k 1) 40 anJ), (h49, aJ (k 1) 40 anJ)] _ := hT
        refine lv_if_ne (tgt := 21) hx hb dX10_sheet_16 (by decide) (fun cc => absurd (by decide +kernel) cc) (fun _ => ?_)
        refine lv_iconst (v := (-1)) hx hb dX10_sheet_19 (by decide) ?_
        exact tz_retI (B := B_cX10_sheet_28244 D k h0 h4 h18 h19 h20 h21 h46 h47 h48 h49 h1 h2 h3 h5 h6 h7 h8 h9 h10 h11 h12 h13 x1 x2 x3 h0f2 h0f6 h0f8 h0f11 h18f0 h18f1 h19f0 h19f1 h20f0 h20f1 h21f0 h21f1) (v := (-1)) hQ hx hb hr hlocks hS (Nat.le_of_ble_eq_true rfl) (Nat.le_of_ble_eq_true rfl) dX10_sheet_20 (⟨h18f0, h18f1, h19f0, h19f1, h20f0, h20f1, h21f0, h21f1, (by have := li_m1; omega), (by have := li_m1; omega), (by have := li_m1; omega), (by have := li_m1; omega), (by have := li_m1; omega), (by have := li_m1; omega), (by have := li_m1; omega), (by have := li_m1; omega), (by have := li_m1; omega), (by have := li_m1; first | assumption | (simp only [GSi, GLi]; (repeat' split) <;> omega)), (by have := li_m1; first | assumption | (simp only [GSi, GLi]; (repeat' split) <;> omega)), (by have := li_m1; first | assumption | (simp only [GSi, GLi]; (repeat' split) <;> omega)), (by have := li_m1; first | assumption | (simp only [GSi, GLi]; (repeat' split) <;> omega)), (by have := li_m1; first | assumption | (simp only [GSi, GLi]; (repeat' split) <;> omega)), (by have := li_m1; first | assumption | (simp only [GSi, GLi]; (repeat' split) <;> omega)), (by have := li_m1; first | assumption | (simp only [GSi, GLi]; (repeat' split) <;> omega)), (by have := li_m1; first | assumption | (simp only [GSi, GLi]; (repeat' split) <;> omega)), hT⟩)
      · skip
        have hT := J _ hT1
        have hT : TP D A [(h0, ob 7 [.ref h1, .ref h2, .int h0f2, .ref h3, .ref h4, .ref h5, .int h0f6, .ref h6, .int h0f8, .ref h7, .ref h8, .int h0f11, .ref h9, .ref h10, .ref h11, .ref h12, .ref h13]), (h4, aQ (k 3) 4 (q4 h18 h19 h20 h21)), (h18, ob 5 [.int h18f0, .int h18f1, .ref h46]), (h19, ob 5 [.int h19f0, .int h19f1, .ref h47]), (h20, ob 5 [.int h20f0, .int h20f1, .ref h48]), (h21, ob 5 [.int h21f0, .int h21f1, .ref h49]), (h46, aJ (k 1) 40 anJ), (h47, aJ (k 1) 40 anJ), (h48, aJ (k 1) 40 anJ), (h49, aJ (k 1) 40 anJ)] _ := hT
        refine lv_if_ne (tgt := 21) hx hb dX10_sheet_16 (by decide) (fun cc => absurd (by decide +kernel) cc) (fun _ => ?_)
        refine lv_iconst (v := (-1)) hx hb dX10_sheet_19 (by decide) ?_
        exact tz_retI (B := B_cX10_sheet_28244 D k h0 h4 h18 h19 h20 h21 h46 h47 h48 h49 h1 h2 h3 h5 h6 h7 h8 h9 h10 h11 h12 h13 x1 x2 x3 h0f2 h0f6 h0f8 h0f11 h18f0 h18f1 h19f0 h19f1 h20f0 h20f1 h21f0 h21f1) (v := (-1)) hQ hx hb hr hlocks hS (Nat.le_of_ble_eq_true rfl) (Nat.le_of_ble_eq_true rfl) dX10_sheet_20 (⟨h18f0, h18f1, h19f0, h19f1, h20f0, h20f1, h21f0, h21f1, (by have := li_m1; omega), (by have := li_m1; omega), (by have := li_m1; omega), (by have := li_m1; omega), (by have := li_m1; omega), (by have := li_m1; omega), (by have := li_m1; omega), (by have := li_m1; omega), (by have := li_m1; omega), (by have := li_m1; first | assumption | (simp only [GSi, GLi]; (repeat' split) <;> omega)), (by have := li_m1; first | assumption | (simp only [GSi, GLi]; (repeat' split) <;> omega)), (by have := li_m1; first | assumption | (simp only [GSi, GLi]; (repeat' split) <;> omega)), (by have := li_m1; first | assumption | (simp only [GSi, GLi]; (repeat' split) <;> omega)), (by have := li_m1; first | assumption | (simp only [GSi, GLi]; (repeat' split) <;> omega)), (by have := li_m1; first | assumption | (simp only [GSi, GLi]; (repeat' split) <;> omega)), (by have := li_m1; first | assumption | (simp only [GSi, GLi]; (repeat' split) <;> omega)), (by have := li_m1; first | assumption | (simp only [GSi, GLi]; (repeat' split) <;> omega)), hT⟩)
      · skip
        have hT := J _ hT1
        have hT : TP D A [(h0, ob 7 [.ref h1, .ref h2, .int h0f2, .ref h3, .ref h4, .ref h5, .int h0f6, .ref h6, .int h0f8, .ref h7, .ref h8, .int h0f11, .ref h9, .ref h10, .ref h11, .ref h12, .ref h13]), (h4, aQ (k 3) 4 (q4 h18 h19 h20 h21)), (h18, ob 5 [.int h18f0, .int h18f1, .ref h46]), (h19, ob 5 [.int h19f0, .int h19f1, .ref h47]), (h20, ob 5 [.int h20f0, .int h20f1, .ref h48]), (h21, ob 5 [.int h21f0, .int h21f1, .ref h49]), (h46, aJ (k 1) 40 anJ), (h47, aJ (k 1) 40 anJ), (h48, aJ (k 1) 40 anJ), (h49, aJ (k 1) 40 anJ)] _ := hT
        refine lv_if_ne (tgt := 21) hx hb dX10_sheet_16 (by decide) (fun _ => ?_) (fun cc => absurd cc (by decide +kernel))
        refine lv_iload_n hx hb dX10_sheet_21 rfl (lv_at hl 2 rfl) ?_
        refine lv_iconst (v := (-1)) hx hb dX10_sheet_22 (by decide) ?_
        refine lv_icmp_ne (tgt := 39) hx hb dX10_sheet_23 (by decide) (fun c_28 => ?_) (fun c_28 => ?_)
        · skip
          have c_28 := ni_ne c_28 rfl li_m1
          refine lv_iload_n hx hb dX10_sheet_39 rfl (lv_at hl 3 rfl) ?_
          refine lv_bipush (v := 40) hx hb dX10_sheet_40 (by decide) ?_
          refine lv_icmp_le (tgt := 47) hx hb dX10_sheet_42 (by decide) (fun c_29 => ?_) (fun c_29 => ?_)
          · skip
            have c_29 := ni_le c_29 rfl li_40
            refine lv_iload_n hx hb dX10_sheet_47 rfl (lv_at hl 3 rfl) ?_
            refine lv_if_ge (tgt := 54) hx hb dX10_sheet_48 (by decide) (fun c_30 => ?_) (fun c_30 => ?_)
            · skip
              have c_30 := ni_le c_30 li_0 rfl
              refine lv_aload_n hx hb dX10_sheet_54 rfl (lv_at hl 0 rfl) ?_
              refine tz_get (ci := 7) (v := .ref h4) (C := RX10) (F := TX10) (N := 17) hx hb hU iX10 hown hK hT 0 rfl rfl 4 (by decide) w253 (fun _ h9 => h9) rfl dX10_sheet_55 ?_
              refine lv_iload_n hx hb dX10_sheet_58 rfl (lv_at hl 1 rfl) ?_
              rcases (show x1.toInt = 0 ∨ x1.toInt = 1 ∨ x1.toInt = 2 ∨ x1.toInt = 3 by omega) with hq31 | hq31 | hq31 | hq31
              · skip
                refine tz_aldq (b := h18) hx hb hK hT 1 rfl (vp_in_iff.mpr (by have := hq31; omega)) (fun f hf => by rw [cl_of hq31]; exact hf.1) dX10_sheet_59 ?_
                refine lv_iload_n hx hb dX10_sheet_60 rfl (lv_at hl 2 rfl) ?_
                refine lv_iload_n hx hb dX10_sheet_61 rfl (lv_at hl 3 rfl) ?_
                refine tcV (Tc := [(h18, ob 5 [.int h18f0, .int h18f1, .ref h46]), (h46, aJ (k 1) 40 anJ)]) (Tr := [(h0, ob 7 [.ref h1, .ref h2, .int h0f2, .ref h3, .ref h4, .ref h5, .int h0f6, .ref h6, .int h0f8, .ref h7, .ref h8, .int h0f11, .ref h9, .ref h10, .ref h11, .ref h12, .ref h13]), (h4, aQ (k 3) 4 (q4 h18 h19 h20 h21)), (h19, ob 5 [.int h19f0, .int h19f1, .ref h47]), (h20, ob 5 [.int h20f0, .int h20f1, .ref h48]), (h21, ob 5 [.int h21f0, .int h21f1, .ref h49]), (h47, aJ (k 1) 40 anJ), (h48, aJ (k 1) 40 anJ), (h49, aJ (k 1) 40 anJ)]) (as := [h18, h46]) (zcV (q0 := 2) (ci := 5) (As := [.int x2, .int x3]) (rest := []) (Tc := [(h18, ob 5 [.int h18f0, .int h18f1, .ref h46]), (h46, aJ (k 1) 40 anJ)]) hx hb hml hown hU hK hT rfl rfl [2, 6] rfl (by decide) (cX6_become_2eaac l D k _ h18 h46 x2 x3 h18f0 h18f1 (by omega) (by omega) (by omega) (by omega)) w736 w733 w734 w735 w71 hdX6_become ⟨rfl, rfl⟩ ⟨Nat.le_of_ble_eq_true rfl, Nat.le_of_ble_eq_true rfl⟩ rfl hl.1 (Nat.le_of_ble_eq_true rfl) dX10_sheet_62 ⟨Nat.le_of_ble_eq_true rfl, Nat.le_of_ble_eq_true rfl⟩) hT hS hA [2, 6] [0, 1, 3, 4, 5, 7, 8, 9] rfl rfl rfl (by decide) (by decide) (fun H locs hB J hS => ?_)
                have hT1 := hB
                have hT := J _ hT1
                have hT : TP D A [(h0, ob 7 [.ref h1, .ref h2, .int h0f2, .ref h3, .ref h4, .ref h5, .int h0f6, .ref h6, .int h0f8, .ref h7, .ref h8, .int h0f11, .ref h9, .ref h10, .ref h11, .ref h12, .ref h13]), (h4, aQ (k 3) 4 (q4 h18 h19 h20 h21)), (h19, ob 5 [.int h19f0, .int h19f1, .ref h47]), (h20, ob 5 [.int h20f0, .int h20f1, .ref h48]), (h21, ob 5 [.int h21f0, .int h21f1, .ref h49]), (h47, aJ (k 1) 40 anJ), (h48, aJ (k 1) 40 anJ), (h49, aJ (k 1) 40 anJ), (h18, ob 5 [.int x2, .int x3, .ref h46]), (h46, aJ (k 1) 40 anJ)] _ := hT
                refine lv_iconst (v := 1) hx hb dX10_sheet_65 (by decide) ?_
                exact tz_retI (B := B_cX10_sheet_28244 D k h0 h4 h18 h19 h20 h21 h46 h47 h48 h49 h1 h2 h3 h5 h6 h7 h8 h9 h10 h11 h12 h13 x1 x2 x3 h0f2 h0f6 h0f8 h0f11 h18f0 h18f1 h19f0 h19f1 h20f0 h20f1 h21f0 h21f1) (v := 1) hQ hx hb hr hlocks hS (Nat.le_of_ble_eq_true rfl) (Nat.le_of_ble_eq_true rfl) dX10_sheet_66 (⟨x2, x3, h19f0, h19f1, h20f0, h20f1, h21f0, h21f1, (by have := li_1; omega), (by have := li_1; omega), (by have := li_1; omega), (by have := li_1; omega), (by have := li_1; omega), (by have := li_1; omega), (by have := li_1; omega), (by have := li_1; omega), (by have := li_1; omega), (by have := li_1; first | assumption | (simp only [GSi, GLi]; (repeat' split) <;> omega)), (by have := li_1; first | assumption | (simp only [GSi, GLi]; (repeat' split) <;> omega)), (by have := li_1; first | assumption | (simp only [GSi, GLi]; (repeat' split) <;> omega)), (by have := li_1; first | assumption | (simp only [GSi, GLi]; (repeat' split) <;> omega)), (by have := li_1; first | assumption | (simp only [GSi, GLi]; (repeat' split) <;> omega)), (by have := li_1; first | assumption | (simp only [GSi, GLi]; (repeat' split) <;> omega)), (by have := li_1; first | assumption | (simp only [GSi, GLi]; (repeat' split) <;> omega)), (by have := li_1; first | assumption | (simp only [GSi, GLi]; (repeat' split) <;> omega)), (hT.sub [0, 1, 8, 2, 3, 4, 9, 5, 6, 7] (by decide) rfl)⟩)
              · skip
                refine tz_aldq (b := h19) hx hb hK hT 1 rfl (vp_in_iff.mpr (by have := hq31; omega)) (fun f hf => by rw [cl_of hq31]; exact hf.2.1) dX10_sheet_59 ?_
                refine lv_iload_n hx hb dX10_sheet_60 rfl (lv_at hl 2 rfl) ?_
                refine lv_iload_n hx hb dX10_sheet_61 rfl (lv_at hl 3 rfl) ?_
                refine tcV (Tc := [(h19, ob 5 [.int h19f0, .int h19f1, .ref h47]), (h47, aJ (k 1) 40 anJ)]) (Tr := [(h0, ob 7 [.ref h1, .ref h2, .int h0f2, .ref h3, .ref h4, .ref h5, .int h0f6, .ref h6, .int h0f8, .ref h7, .ref h8, .int h0f11, .ref h9, .ref h10, .ref h11, .ref h12, .ref h13]), (h4, aQ (k 3) 4 (q4 h18 h19 h20 h21)), (h18, ob 5 [.int h18f0, .int h18f1, .ref h46]), (h20, ob 5 [.int h20f0, .int h20f1, .ref h48]), (h21, ob 5 [.int h21f0, .int h21f1, .ref h49]), (h46, aJ (k 1) 40 anJ), (h48, aJ (k 1) 40 anJ), (h49, aJ (k 1) 40 anJ)]) (as := [h19, h47]) (zcV (q0 := 3) (ci := 5) (As := [.int x2, .int x3]) (rest := []) (Tc := [(h19, ob 5 [.int h19f0, .int h19f1, .ref h47]), (h47, aJ (k 1) 40 anJ)]) hx hb hml hown hU hK hT rfl rfl [3, 7] rfl (by decide) (cX6_become_2eaac l D k _ h19 h47 x2 x3 h19f0 h19f1 (by omega) (by omega) (by omega) (by omega)) w736 w733 w734 w735 w71 hdX6_become ⟨rfl, rfl⟩ ⟨Nat.le_of_ble_eq_true rfl, Nat.le_of_ble_eq_true rfl⟩ rfl hl.1 (Nat.le_of_ble_eq_true rfl) dX10_sheet_62 ⟨Nat.le_of_ble_eq_true rfl, Nat.le_of_ble_eq_true rfl⟩) hT hS hA [3, 7] [0, 1, 2, 4, 5, 6, 8, 9] rfl rfl rfl (by decide) (by decide) (fun H locs hB J hS => ?_)
                have hT1 := hB
                have hT := J _ hT1
                have hT : TP D A [(h0, ob 7 [.ref h1, .ref h2, .int h0f2, .ref h3, .ref h4, .ref h5, .int h0f6, .ref h6, .int h0f8, .ref h7, .ref h8, .int h0f11, .ref h9, .ref h10, .ref h11, .ref h12, .ref h13]), (h4, aQ (k 3) 4 (q4 h18 h19 h20 h21)), (h18, ob 5 [.int h18f0, .int h18f1, .ref h46]), (h20, ob 5 [.int h20f0, .int h20f1, .ref h48]), (h21, ob 5 [.int h21f0, .int h21f1, .ref h49]), (h46, aJ (k 1) 40 anJ), (h48, aJ (k 1) 40 anJ), (h49, aJ (k 1) 40 anJ), (h19, ob 5 [.int x2, .int x3, .ref h47]), (h47, aJ (k 1) 40 anJ)] _ := hT
                refine lv_iconst (v := 1) hx hb dX10_sheet_65 (by decide) ?_
                exact tz_retI (B := B_cX10_sheet_28244 D k h0 h4 h18 h19 h20 h21 h46 h47 h48 h49 h1 h2 h3 h5 h6 h7 h8 h9 h10 h11 h12 h13 x1 x2 x3 h0f2 h0f6 h0f8 h0f11 h18f0 h18f1 h19f0 h19f1 h20f0 h20f1 h21f0 h21f1) (v := 1) hQ hx hb hr hlocks hS (Nat.le_of_ble_eq_true rfl) (Nat.le_of_ble_eq_true rfl) dX10_sheet_66 (⟨h18f0, h18f1, x2, x3, h20f0, h20f1, h21f0, h21f1, (by have := li_1; omega), (by have := li_1; omega), (by have := li_1; omega), (by have := li_1; omega), (by have := li_1; omega), (by have := li_1; omega), (by have := li_1; omega), (by have := li_1; omega), (by have := li_1; omega), (by have := li_1; first | assumption | (simp only [GSi, GLi]; (repeat' split) <;> omega)), (by have := li_1; first | assumption | (simp only [GSi, GLi]; (repeat' split) <;> omega)), (by have := li_1; first | assumption | (simp only [GSi, GLi]; (repeat' split) <;> omega)), (by have := li_1; first | assumption | (simp only [GSi, GLi]; (repeat' split) <;> omega)), (by have := li_1; first | assumption | (simp only [GSi, GLi]; (repeat' split) <;> omega)), (by have := li_1; first | assumption | (simp only [GSi, GLi]; (repeat' split) <;> omega)), (by have := li_1; first | assumption | (simp only [GSi, GLi]; (repeat' split) <;> omega)), (by have := li_1; first | assumption | (simp only [GSi, GLi]; (repeat' split) <;> omega)), (hT.sub [0, 1, 2, 8, 3, 4, 5, 9, 6, 7] (by decide) rfl)⟩)
              · skip
                refine tz_aldq (b := h20) hx hb hK hT 1 rfl (vp_in_iff.mpr (by have := hq31; omega)) (fun f hf => by rw [cl_of hq31]; exact hf.2.2.1) dX10_sheet_59 ?_
                refine lv_iload_n hx hb dX10_sheet_60 rfl (lv_at hl 2 rfl) ?_
                refine lv_iload_n hx hb dX10_sheet_61 rfl (lv_at hl 3 rfl) ?_
                refine tcV (Tc := [(h20, ob 5 [.int h20f0, .int h20f1, .ref h48]), (h48, aJ (k 1) 40 anJ)]) (Tr := [(h0, ob 7 [.ref h1, .ref h2, .int h0f2, .ref h3, .ref h4, .ref h5, .int h0f6, .ref h6, .int h0f8, .ref h7, .ref h8, .int h0f11, .ref h9, .ref h10, .ref h11, .ref h12, .ref h13]), (h4, aQ (k 3) 4 (q4 h18 h19 h20 h21)), (h18, ob 5 [.int h18f0, .int h18f1, .ref h46]), (h19, ob 5 [.int h19f0, .int h19f1, .ref h47]), (h21, ob 5 [.int h21f0, .int h21f1, .ref h49]), (h46, aJ (k 1) 40 anJ), (h47, aJ (k 1) 40 anJ), (h49, aJ (k 1) 40 anJ)]) (as := [h20, h48]) (zcV (q0 := 4) (ci := 5) (As := [.int x2, .int x3]) (rest := []) (Tc := [(h20, ob 5 [.int h20f0, .int h20f1, .ref h48]), (h48, aJ (k 1) 40 anJ)]) hx hb hml hown hU hK hT rfl rfl [4, 8] rfl (by decide) (cX6_become_2eaac l D k _ h20 h48 x2 x3 h20f0 h20f1 (by omega) (by omega) (by omega) (by omega)) w736 w733 w734 w735 w71 hdX6_become ⟨rfl, rfl⟩ ⟨Nat.le_of_ble_eq_true rfl, Nat.le_of_ble_eq_true rfl⟩ rfl hl.1 (Nat.le_of_ble_eq_true rfl) dX10_sheet_62 ⟨Nat.le_of_ble_eq_true rfl, Nat.le_of_ble_eq_true rfl⟩) hT hS hA [4, 8] [0, 1, 2, 3, 5, 6, 7, 9] rfl rfl rfl (by decide) (by decide) (fun H locs hB J hS => ?_)
                have hT1 := hB
                have hT := J _ hT1
                have hT : TP D A [(h0, ob 7 [.ref h1, .ref h2, .int h0f2, .ref h3, .ref h4, .ref h5, .int h0f6, .ref h6, .int h0f8, .ref h7, .ref h8, .int h0f11, .ref h9, .ref h10, .ref h11, .ref h12, .ref h13]), (h4, aQ (k 3) 4 (q4 h18 h19 h20 h21)), (h18, ob 5 [.int h18f0, .int h18f1, .ref h46]), (h19, ob 5 [.int h19f0, .int h19f1, .ref h47]), (h21, ob 5 [.int h21f0, .int h21f1, .ref h49]), (h46, aJ (k 1) 40 anJ), (h47, aJ (k 1) 40 anJ), (h49, aJ (k 1) 40 anJ), (h20, ob 5 [.int x2, .int x3, .ref h48]), (h48, aJ (k 1) 40 anJ)] _ := hT
                refine lv_iconst (v := 1) hx hb dX10_sheet_65 (by decide) ?_
                exact tz_retI (B := B_cX10_sheet_28244 D k h0 h4 h18 h19 h20 h21 h46 h47 h48 h49 h1 h2 h3 h5 h6 h7 h8 h9 h10 h11 h12 h13 x1 x2 x3 h0f2 h0f6 h0f8 h0f11 h18f0 h18f1 h19f0 h19f1 h20f0 h20f1 h21f0 h21f1) (v := 1) hQ hx hb hr hlocks hS (Nat.le_of_ble_eq_true rfl) (Nat.le_of_ble_eq_true rfl) dX10_sheet_66 (⟨h18f0, h18f1, h19f0, h19f1, x2, x3, h21f0, h21f1, (by have := li_1; omega), (by have := li_1; omega), (by have := li_1; omega), (by have := li_1; omega), (by have := li_1; omega), (by have := li_1; omega), (by have := li_1; omega), (by have := li_1; omega), (by have := li_1; omega), (by have := li_1; first | assumption | (simp only [GSi, GLi]; (repeat' split) <;> omega)), (by have := li_1; first | assumption | (simp only [GSi, GLi]; (repeat' split) <;> omega)), (by have := li_1; first | assumption | (simp only [GSi, GLi]; (repeat' split) <;> omega)), (by have := li_1; first | assumption | (simp only [GSi, GLi]; (repeat' split) <;> omega)), (by have := li_1; first | assumption | (simp only [GSi, GLi]; (repeat' split) <;> omega)), (by have := li_1; first | assumption | (simp only [GSi, GLi]; (repeat' split) <;> omega)), (by have := li_1; first | assumption | (simp only [GSi, GLi]; (repeat' split) <;> omega)), (by have := li_1; first | assumption | (simp only [GSi, GLi]; (repeat' split) <;> omega)), (hT.sub [0, 1, 2, 3, 8, 4, 5, 6, 9, 7] (by decide) rfl)⟩)
              · skip
                refine tz_aldq (b := h21) hx hb hK hT 1 rfl (vp_in_iff.mpr (by have := hq31; omega)) (fun f hf => by rw [cl_of hq31]; exact hf.2.2.2) dX10_sheet_59 ?_
                refine lv_iload_n hx hb dX10_sheet_60 rfl (lv_at hl 2 rfl) ?_
                refine lv_iload_n hx hb dX10_sheet_61 rfl (lv_at hl 3 rfl) ?_
                refine tcV (Tc := [(h21, ob 5 [.int h21f0, .int h21f1, .ref h49]), (h49, aJ (k 1) 40 anJ)]) (Tr := [(h0, ob 7 [.ref h1, .ref h2, .int h0f2, .ref h3, .ref h4, .ref h5, .int h0f6, .ref h6, .int h0f8, .ref h7, .ref h8, .int h0f11, .ref h9, .ref h10, .ref h11, .ref h12, .ref h13]), (h4, aQ (k 3) 4 (q4 h18 h19 h20 h21)), (h18, ob 5 [.int h18f0, .int h18f1, .ref h46]), (h19, ob 5 [.int h19f0, .int h19f1, .ref h47]), (h20, ob 5 [.int h20f0, .int h20f1, .ref h48]), (h46, aJ (k 1) 40 anJ), (h47, aJ (k 1) 40 anJ), (h48, aJ (k 1) 40 anJ)]) (as := [h21, h49]) (zcV (q0 := 5) (ci := 5) (As := [.int x2, .int x3]) (rest := []) (Tc := [(h21, ob 5 [.int h21f0, .int h21f1, .ref h49]), (h49, aJ (k 1) 40 anJ)]) hx hb hml hown hU hK hT rfl rfl [5, 9] rfl (by decide) (cX6_become_2eaac l D k _ h21 h49 x2 x3 h21f0 h21f1 (by omega) (by omega) (by omega) (by omega)) w736 w733 w734 w735 w71 hdX6_become ⟨rfl, rfl⟩ ⟨Nat.le_of_ble_eq_true rfl, Nat.le_of_ble_eq_true rfl⟩ rfl hl.1 (Nat.le_of_ble_eq_true rfl) dX10_sheet_62 ⟨Nat.le_of_ble_eq_true rfl, Nat.le_of_ble_eq_true rfl⟩) hT hS hA [5, 9] [0, 1, 2, 3, 4, 6, 7, 8] rfl rfl rfl (by decide) (by decide) (fun H locs hB J hS => ?_)
                have hT1 := hB
                have hT := J _ hT1
                have hT : TP D A [(h0, ob 7 [.ref h1, .ref h2, .int h0f2, .ref h3, .ref h4, .ref h5, .int h0f6, .ref h6, .int h0f8, .ref h7, .ref h8, .int h0f11, .ref h9, .ref h10, .ref h11, .ref h12, .ref h13]), (h4, aQ (k 3) 4 (q4 h18 h19 h20 h21)), (h18, ob 5 [.int h18f0, .int h18f1, .ref h46]), (h19, ob 5 [.int h19f0, .int h19f1, .ref h47]), (h20, ob 5 [.int h20f0, .int h20f1, .ref h48]), (h46, aJ (k 1) 40 anJ), (h47, aJ (k 1) 40 anJ), (h48, aJ (k 1) 40 anJ), (h21, ob 5 [.int x2, .int x3, .ref h49]), (h49, aJ (k 1) 40 anJ)] _ := hT
                refine lv_iconst (v := 1) hx hb dX10_sheet_65 (by decide) ?_
                exact tz_retI (B := B_cX10_sheet_28244 D k h0 h4 h18 h19 h20 h21 h46 h47 h48 h49 h1 h2 h3 h5 h6 h7 h8 h9 h10 h11 h12 h13 x1 x2 x3 h0f2 h0f6 h0f8 h0f11 h18f0 h18f1 h19f0 h19f1 h20f0 h20f1 h21f0 h21f1) (v := 1) hQ hx hb hr hlocks hS (Nat.le_of_ble_eq_true rfl) (Nat.le_of_ble_eq_true rfl) dX10_sheet_66 (⟨h18f0, h18f1, h19f0, h19f1, h20f0, h20f1, x2, x3, (by have := li_1; omega), (by have := li_1; omega), (by have := li_1; omega), (by have := li_1; omega), (by have := li_1; omega), (by have := li_1; omega), (by have := li_1; omega), (by have := li_1; omega), (by have := li_1; omega), (by have := li_1; first | assumption | (simp only [GSi, GLi]; (repeat' split) <;> omega)), (by have := li_1; first | assumption | (simp only [GSi, GLi]; (repeat' split) <;> omega)), (by have := li_1; first | assumption | (simp only [GSi, GLi]; (repeat' split) <;> omega)), (by have := li_1; first | assumption | (simp only [GSi, GLi]; (repeat' split) <;> omega)), (by have := li_1; first | assumption | (simp only [GSi, GLi]; (repeat' split) <;> omega)), (by have := li_1; first | assumption | (simp only [GSi, GLi]; (repeat' split) <;> omega)), (by have := li_1; first | assumption | (simp only [GSi, GLi]; (repeat' split) <;> omega)), (by have := li_1; first | assumption | (simp only [GSi, GLi]; (repeat' split) <;> omega)), (hT.sub [0, 1, 2, 3, 4, 8, 5, 6, 7, 9] (by decide) rfl)⟩)
            · skip
              have c_30 := ni_nle c_30 li_0 rfl
              refine lv_bipush (v := (-14)) hx hb dX10_sheet_51 (by decide) ?_
              exact tz_retI (B := B_cX10_sheet_28244 D k h0 h4 h18 h19 h20 h21 h46 h47 h48 h49 h1 h2 h3 h5 h6 h7 h8 h9 h10 h11 h12 h13 x1 x2 x3 h0f2 h0f6 h0f8 h0f11 h18f0 h18f1 h19f0 h19f1 h20f0 h20f1 h21f0 h21f1) (v := (-14)) hQ hx hb hr hlocks hS (Nat.le_of_ble_eq_true rfl) (Nat.le_of_ble_eq_true rfl) dX10_sheet_53 (⟨h18f0, h18f1, h19f0, h19f1, h20f0, h20f1, h21f0, h21f1, (by have := li_m14; omega), (by have := li_m14; omega), (by have := li_m14; omega), (by have := li_m14; omega), (by have := li_m14; omega), (by have := li_m14; omega), (by have := li_m14; omega), (by have := li_m14; omega), (by have := li_m14; omega), (by have := li_m14; first | assumption | (simp only [GSi, GLi]; (repeat' split) <;> omega)), (by have := li_m14; first | assumption | (simp only [GSi, GLi]; (repeat' split) <;> omega)), (by have := li_m14; first | assumption | (simp only [GSi, GLi]; (repeat' split) <;> omega)), (by have := li_m14; first | assumption | (simp only [GSi, GLi]; (repeat' split) <;> omega)), (by have := li_m14; first | assumption | (simp only [GSi, GLi]; (repeat' split) <;> omega)), (by have := li_m14; first | assumption | (simp only [GSi, GLi]; (repeat' split) <;> omega)), (by have := li_m14; first | assumption | (simp only [GSi, GLi]; (repeat' split) <;> omega)), (by have := li_m14; first | assumption | (simp only [GSi, GLi]; (repeat' split) <;> omega)), hT⟩)
          · skip
            have c_29 := ni_nle c_29 rfl li_40
            refine lv_iconst (v := (-1)) hx hb dX10_sheet_45 (by decide) ?_
            exact tz_retI (B := B_cX10_sheet_28244 D k h0 h4 h18 h19 h20 h21 h46 h47 h48 h49 h1 h2 h3 h5 h6 h7 h8 h9 h10 h11 h12 h13 x1 x2 x3 h0f2 h0f6 h0f8 h0f11 h18f0 h18f1 h19f0 h19f1 h20f0 h20f1 h21f0 h21f1) (v := (-1)) hQ hx hb hr hlocks hS (Nat.le_of_ble_eq_true rfl) (Nat.le_of_ble_eq_true rfl) dX10_sheet_46 (⟨h18f0, h18f1, h19f0, h19f1, h20f0, h20f1, h21f0, h21f1, (by have := li_m1; omega), (by have := li_m1; omega), (by have := li_m1; omega), (by have := li_m1; omega), (by have := li_m1; omega), (by have := li_m1; omega), (by have := li_m1; omega), (by have := li_m1; omega), (by have := li_m1; omega), (by have := li_m1; first | assumption | (simp only [GSi, GLi]; (repeat' split) <;> omega)), (by have := li_m1; first | assumption | (simp only [GSi, GLi]; (repeat' split) <;> omega)), (by have := li_m1; first | assumption | (simp only [GSi, GLi]; (repeat' split) <;> omega)), (by have := li_m1; first | assumption | (simp only [GSi, GLi]; (repeat' split) <;> omega)), (by have := li_m1; first | assumption | (simp only [GSi, GLi]; (repeat' split) <;> omega)), (by have := li_m1; first | assumption | (simp only [GSi, GLi]; (repeat' split) <;> omega)), (by have := li_m1; first | assumption | (simp only [GSi, GLi]; (repeat' split) <;> omega)), (by have := li_m1; first | assumption | (simp only [GSi, GLi]; (repeat' split) <;> omega)), hT⟩)
        · skip
          have c_28 := ni_eq c_28 rfl li_m1
          exfalso; omega
abbrev Rm_cX11_in_182ae : Room := { frames := 0, cells := 0, slots := 0, locals := 0 }
abbrev B_cX11_in_182ae (D : va_G) (k : Nat → ClassId) (x0 : Int64) (x1 : Int64) (x2 : Int64) (A : Nat → Prop) (r : Int32) (H : Heap) : Prop := (x0.toInt < x1.toInt ∧ 0 = r ∧ TP D A [] H) ∨ (x1.toInt ≤ x0.toInt ∧ x2.toInt < x0.toInt ∧ 0 = r ∧ TP D A [] H) ∨ (x1.toInt ≤ x0.toInt ∧ x0.toInt ≤ x2.toInt ∧ 1 = r ∧ TP D A [] H)
set_option maxHeartbeats 4000000 in
set_option maxRecDepth 100000 in
theorem cX11_in_182ae (l : Launch) (D : va_G) (k : Nat → ClassId) (sz : Nat) (x0 : Int64) (x1 : Int64) (x2 : Int64) (b_x1 : (-1) ≤ x1.toInt ∧ x1.toInt ≤ 0) (b_x2 : (-1) ≤ x2.toInt ∧ x2.toInt ≤ 39) : Met l yX11_in (Cond.code yX11_in cX11_in 6 (some .boolean) :: uw) Rm_cX11_in_182ae (pT D k sz [.long x0, .long x1, .long x2] []) (qI (B_cX11_in_182ae D k x0 x1 x2 (zA [] sz)) (zA [] sz)) 0 0 (zA [] sz) := by
  refine tz_begin (as := []) (Qc := fun A => qI (B_cX11_in_182ae D k x0 x1 x2 A) A) (by decide +kernel) rfl (Nat.le_of_ble_eq_true rfl) ?_
  intro p e s m args below meth c ls A Q hx hb hr hml hown hlocks hin hU hK hT hS hA hl hQ
  have hl : lv_has ls 6 [(0, .long x0), (2, .long x1), (4, .long x2)] := hl
  have hT : TP D A [] s.heap := hT
  refine lv_lload_n hx hb dX11_in_0 rfl (lv_at hl 0 rfl) ?_
  refine lv_lload_n hx hb dX11_in_1 rfl (lv_at hl 1 rfl) ?_
  refine W.lcmp hx hb dX11_in_2 ?_
  refine lv_if_lt (tgt := 17) hx hb dX11_in_3 (by decide) (fun c_1 => ?_) (fun c_1 => ?_)
  · skip
    have c_1 := nl_lt c_1 rfl rfl
    refine lv_iconst (v := 0) hx hb dX11_in_17 (by decide) ?_
    exact tz_retZ (B := B_cX11_in_182ae D k x0 x1 x2) (v := 0) hQ hx hb hr hlocks hS (Nat.le_of_ble_eq_true rfl) (Nat.le_of_ble_eq_true rfl) dX11_in_18 (by have := li_0; omega) (Or.inl ⟨(by have := li_0; omega), rfl, hT⟩)
  · skip
    have c_1 := nl_nlt c_1 rfl rfl
    refine lv_lload_n hx hb dX11_in_6 rfl (lv_at hl 0 rfl) ?_
    refine lv_lload hx hb dX11_in_7 (lv_at hl 2 rfl) ?_
    refine W.lcmp hx hb dX11_in_9 ?_
    refine lv_if_gt (tgt := 17) hx hb dX11_in_10 (by decide) (fun c_2 => ?_) (fun c_2 => ?_)
    · skip
      have c_2 := nl_gt c_2 rfl rfl
      refine lv_iconst (v := 0) hx hb dX11_in_17 (by decide) ?_
      exact tz_retZ (B := B_cX11_in_182ae D k x0 x1 x2) (v := 0) hQ hx hb hr hlocks hS (Nat.le_of_ble_eq_true rfl) (Nat.le_of_ble_eq_true rfl) dX11_in_18 (by have := li_0; omega) (Or.inr (Or.inl ⟨(by have := li_0; omega), (by have := li_0; omega), rfl, hT⟩))
    · skip
      have c_2 := nl_ngt c_2 rfl rfl
      refine lv_iconst (v := 1) hx hb dX11_in_13 (by decide) ?_
      refine lv_goto (tgt := 18) hx hb dX11_in_14 (by decide) ?_
      exact tz_retZ (B := B_cX11_in_182ae D k x0 x1 x2) (v := 1) hQ hx hb hr hlocks hS (Nat.le_of_ble_eq_true rfl) (Nat.le_of_ble_eq_true rfl) dX11_in_18 (by have := li_1; omega) (Or.inr (Or.inr (⟨(by have := li_1; omega), (by have := li_1; omega), rfl, hT⟩)))
abbrev Rm_cX11_isSheet_ea237 : Room := { frames := 1, cells := 0, slots := 0, locals := 25 }
abbrev B_cX11_isSheet_ea237 (D : va_G) (k : Nat → ClassId) (x0 : Int32) (A : Nat → Prop) (r : Int32) (H : Heap) : Prop := (x0.toInt < 0 ∧ 0 = r ∧ TP D A [] H) ∨ (0 ≤ x0.toInt ∧ 3 < x0.toInt ∧ 0 = r ∧ TP D A [] H) ∨ (0 ≤ x0.toInt ∧ x0.toInt ≤ 3 ∧ 1 = r ∧ TP D A [] H)
set_option maxHeartbeats 4000000 in
set_option maxRecDepth 100000 in
theorem cX11_isSheet_ea237 (l : Launch) (D : va_G) (k : Nat → ClassId) (sz : Nat) (x0 : Int32) : Met l yX11_isSheet (Cond.code yX11_isSheet cX11_isSheet 1 (some .boolean) :: uw) Rm_cX11_isSheet_ea237 (pT D k sz [.int x0] []) (qI (B_cX11_isSheet_ea237 D k x0 (zA [] sz)) (zA [] sz)) 0 0 (zA [] sz) := by
  refine tz_begin (as := []) (Qc := fun A => qI (B_cX11_isSheet_ea237 D k x0 A) A) (by decide +kernel) rfl (Nat.le_of_ble_eq_true rfl) ?_
  intro p e s m args below meth c ls A Q hx hb hr hml hown hlocks hin hU hK hT hS hA hl hQ
  have hl : lv_has ls 1 [(0, .int x0)] := hl
  have hT : TP D A [] s.heap := hT
  refine lv_iload_n hx hb dX11_isSheet_0 rfl (lv_at hl 0 rfl) ?_
  have tb_x0 := i32b x0
  obtain ⟨v1, e_v1⟩ : ∃ x : Int64, x0.toInt64 = x := ⟨_, rfl⟩
  refine lv_i2l (v := v1) hx hb dX11_isSheet_1 e_v1 ?_
  have e_v1 := ai_i2l e_v1 rfl
  refine lv_lconst (v := 0) hx hb dX11_isSheet_2 (by decide) ?_
  refine lv_ldc2 hx hb hown (hU _ w898) dX11_isSheet_3 ?_
  have q_q3 := ll_0
  have q_q4 := ll_3
  refine tcI (Tc := []) (Tr := []) (as := []) (zcS (As := [.long v1, .long 0, .long 3]) (rest := []) (Tc := []) hx hb hml hown hU hK hT [] rfl (by decide) (cX11_in_182ae l D k _ v1 (0) (3) (by have := ll_0; omega) (by have := ll_3; omega)) w901 w899 w900 w72 hdX11_in ⟨rfl, rfl⟩ ⟨Nat.le_of_ble_eq_true rfl, Nat.le_of_ble_eq_true rfl⟩ rfl hl.1 (Nat.le_of_ble_eq_true rfl) dX11_isSheet_6 ⟨Nat.le_of_ble_eq_true rfl, Nat.le_of_ble_eq_true rfl⟩) hT hS hA [] [] rfl rfl rfl (by decide) (by decide) (fun r2 H locs hB J hS => ?_)
  rcases hB with ⟨c_5, rfl, hT1⟩ | ⟨c_6, c_7, rfl, hT1⟩ | ⟨c_8, c_9, rfl, hT1⟩
  · skip
    have hT := J _ hT1
    have hT : TP D A [] _ := hT
    exact tz_retZ (B := B_cX11_isSheet_ea237 D k x0) (v := 0) hQ hx hb hr hlocks hS (Nat.le_of_ble_eq_true rfl) (Nat.le_of_ble_eq_true rfl) dX11_isSheet_9 (by have := li_0; omega) (Or.inl ⟨(by have := li_0; omega), rfl, hT⟩)
  · skip
    have hT := J _ hT1
    have hT : TP D A [] _ := hT
    exact tz_retZ (B := B_cX11_isSheet_ea237 D k x0) (v := 0) hQ hx hb hr hlocks hS (Nat.le_of_ble_eq_true rfl) (Nat.le_of_ble_eq_true rfl) dX11_isSheet_9 (by have := li_0; omega) (Or.inr (Or.inl ⟨(by have := li_0; omega), (by have := li_0; omega), rfl, hT⟩))
  · skip
    have hT := J _ hT1
    have hT : TP D A [] _ := hT
    exact tz_retZ (B := B_cX11_isSheet_ea237 D k x0) (v := 1) hQ hx hb hr hlocks hS (Nat.le_of_ble_eq_true rfl) (Nat.le_of_ble_eq_true rfl) dX11_isSheet_9 (by have := li_1; omega) (Or.inr (Or.inr (⟨(by have := li_1; omega), (by have := li_1; omega), rfl, hT⟩)))
abbrev Rm_cX11_sheet_7faaa : Room := { frames := 2, cells := 0, slots := 0, locals := 45 }
abbrev B_cX11_sheet_7faaa (D : va_G) (k : Nat → ClassId) (h0 h18 h19 h20 h1 h2 h3 h4 h5 h6 h7 h8 h9 h10 h11 h12 h13 h14 h15 h16 h17 h21 : Nat) (x1 : Int32) (x2 : Int32) (x3 : Int32) (h0f0 : Int32) (h0f1 : Int32) (h0f2 : Int32) (h0f3 : Int32) (h0f4 : Int32) (h0f5 : Int32) (h0f8 : Int32) (h0f9 : Int32) (h0f17 : Int32) (h0f18 : Int32) (h0f19 : Int32) (h0f24 : Int32) (h0f25 : Int32) (h0f30 : Int32) (h0f31 : Int32) (h18f0 : Int32) (h18f1 : Int32) (h18f2 : Int32) (h18f3 : Int32) (h19f0 : Int32) (h19f1 : Int32) (h19f2 : Int32) (h19f3 : Int32) (A : Nat → Prop) (r : Int32) (H : Heap) : Prop := ∃ o0 : Int32, ∃ o1 : Int32, ∃ o2 : Int32, ∃ o3 : Int32, ∃ o4 : Int32, ∃ o5 : Int32, ∃ o6 : Int32, ∃ o7 : Int32, ((-1) ≤ o0.toInt ∧ o0.toInt ≤ 2) ∧ ((-1) ≤ o1.toInt ∧ o1.toInt ≤ 2) ∧ ((-1) ≤ o2.toInt ∧ o2.toInt ≤ 2) ∧ ((-1) ≤ o3.toInt ∧ o3.toInt ≤ 2) ∧ (0 ≤ o4.toInt ∧ o4.toInt ≤ 40) ∧ (0 ≤ o5.toInt ∧ o5.toInt ≤ 40) ∧ (0 ≤ o6.toInt ∧ o6.toInt ≤ 40) ∧ (0 ≤ o7.toInt ∧ o7.toInt ≤ 40) ∧ ((-14) ≤ r.toInt ∧ r.toInt ≤ 1) ∧ (o0.toInt = GSi 0 x1.toInt x2.toInt x3.toInt (h18f0.toInt)) ∧ (o1.toInt = GSi 1 x1.toInt x2.toInt x3.toInt (h18f1.toInt)) ∧ (o2.toInt = GSi 2 x1.toInt x2.toInt x3.toInt (h18f2.toInt)) ∧ (o3.toInt = GSi 3 x1.toInt x2.toInt x3.toInt (h18f3.toInt)) ∧ (o4.toInt = GLi 0 x1.toInt x2.toInt x3.toInt (h19f0.toInt)) ∧ (o5.toInt = GLi 1 x1.toInt x2.toInt x3.toInt (h19f1.toInt)) ∧ (o6.toInt = GLi 2 x1.toInt x2.toInt x3.toInt (h19f2.toInt)) ∧ (o7.toInt = GLi 3 x1.toInt x2.toInt x3.toInt (h19f3.toInt)) ∧ TP D A [(h0, ob 8 [.int h0f0, .int h0f1, .int h0f2, .int h0f3, .int h0f4, .int h0f5, .ref h1, .ref h2, .int h0f8, .int h0f9, .ref h3, .ref h4, .ref h5, .ref h6, .ref h7, .ref h8, .ref h9, .int h0f17, .int h0f18, .int h0f19, .ref h10, .ref h11, .ref h12, .ref h13, .int h0f24, .int h0f25, .ref h14, .ref h15, .ref h16, .ref h17, .int h0f30, .int h0f31, .ref h18, .ref h19, .ref h20, .ref h21]), (h18, aI (k 0) 4 (vec4 o0 o1 o2 o3)), (h19, aI (k 0) 4 (vec4 o4 o5 o6 o7)), (h20, aJ (k 1) 160 anJ)] H
set_option maxHeartbeats 4000000 in
set_option maxRecDepth 100000 in
theorem cX11_sheet_7faaa (l : Launch) (D : va_G) (k : Nat → ClassId) (sz : Nat) (h0 h18 h19 h20 h1 h2 h3 h4 h5 h6 h7 h8 h9 h10 h11 h12 h13 h14 h15 h16 h17 h21 : Nat) (x1 : Int32) (x2 : Int32) (x3 : Int32) (h0f0 : Int32) (h0f1 : Int32) (h0f2 : Int32) (h0f3 : Int32) (h0f4 : Int32) (h0f5 : Int32) (h0f8 : Int32) (h0f9 : Int32) (h0f17 : Int32) (h0f18 : Int32) (h0f19 : Int32) (h0f24 : Int32) (h0f25 : Int32) (h0f30 : Int32) (h0f31 : Int32) (h18f0 : Int32) (h18f1 : Int32) (h18f2 : Int32) (h18f3 : Int32) (h19f0 : Int32) (h19f1 : Int32) (h19f2 : Int32) (h19f3 : Int32) (b_h0f0 : 1 ≤ h0f0.toInt ∧ h0f0.toInt ≤ 3) (b_h0f1 : 0 ≤ h0f1.toInt ∧ h0f1.toInt ≤ 4) (b_h0f3 : 0 ≤ h0f3.toInt ∧ h0f3.toInt ≤ 3) (b_h0f4 : 0 ≤ h0f4.toInt ∧ h0f4.toInt ≤ 4) (b_h0f8 : 0 ≤ h0f8.toInt ∧ h0f8.toInt ≤ 1) (b_h0f9 : 0 ≤ h0f9.toInt ∧ h0f9.toInt ≤ 1) (b_h0f17 : 0 ≤ h0f17.toInt ∧ h0f17.toInt ≤ 120) (b_h0f18 : 0 ≤ h0f18.toInt ∧ h0f18.toInt ≤ 120) (b_h0f19 : 0 ≤ h0f19.toInt ∧ h0f19.toInt ≤ 4) (b_h0f24 : 0 ≤ h0f24.toInt ∧ h0f24.toInt ≤ 100) (b_h0f25 : 0 ≤ h0f25.toInt ∧ h0f25.toInt ≤ 1) (b_h0f30 : 0 ≤ h0f30.toInt ∧ h0f30.toInt ≤ 60) (b_h0f31 : 0 ≤ h0f31.toInt ∧ h0f31.toInt ≤ 1) (b_h18f0 : (-1) ≤ h18f0.toInt ∧ h18f0.toInt ≤ 2) (b_h18f1 : (-1) ≤ h18f1.toInt ∧ h18f1.toInt ≤ 2) (b_h18f2 : (-1) ≤ h18f2.toInt ∧ h18f2.toInt ≤ 2) (b_h18f3 : (-1) ≤ h18f3.toInt ∧ h18f3.toInt ≤ 2) (b_h19f0 : 0 ≤ h19f0.toInt ∧ h19f0.toInt ≤ 40) (b_h19f1 : 0 ≤ h19f1.toInt ∧ h19f1.toInt ≤ 40) (b_h19f2 : 0 ≤ h19f2.toInt ∧ h19f2.toInt ≤ 40) (b_h19f3 : 0 ≤ h19f3.toInt ∧ h19f3.toInt ≤ 40) (i_0 : h0f8.toInt ≤ h0f3.toInt) (i_1 : h0f9.toInt ≤ h0f24.toInt) : Met l yX11_sheet (Cond.code yX11_sheet cX11_sheet 5 (some .int) :: uw) Rm_cX11_sheet_7faaa (pT D k sz [.ref h0, .int x1, .int x2, .int x3] [(h0, ob 8 [.int h0f0, .int h0f1, .int h0f2, .int h0f3, .int h0f4, .int h0f5, .ref h1, .ref h2, .int h0f8, .int h0f9, .ref h3, .ref h4, .ref h5, .ref h6, .ref h7, .ref h8, .ref h9, .int h0f17, .int h0f18, .int h0f19, .ref h10, .ref h11, .ref h12, .ref h13, .int h0f24, .int h0f25, .ref h14, .ref h15, .ref h16, .ref h17, .int h0f30, .int h0f31, .ref h18, .ref h19, .ref h20, .ref h21]), (h18, aI (k 0) 4 (vec4 h18f0 h18f1 h18f2 h18f3)), (h19, aI (k 0) 4 (vec4 h19f0 h19f1 h19f2 h19f3)), (h20, aJ (k 1) 160 anJ)]) (qI (B_cX11_sheet_7faaa D k h0 h18 h19 h20 h1 h2 h3 h4 h5 h6 h7 h8 h9 h10 h11 h12 h13 h14 h15 h16 h17 h21 x1 x2 x3 h0f0 h0f1 h0f2 h0f3 h0f4 h0f5 h0f8 h0f9 h0f17 h0f18 h0f19 h0f24 h0f25 h0f30 h0f31 h18f0 h18f1 h18f2 h18f3 h19f0 h19f1 h19f2 h19f3 (zA [h0, h18, h19, h20] sz)) (zA [h0, h18, h19, h20] sz)) 0 0 (zA [h0, h18, h19, h20] sz) := by
  refine tz_begin (as := [h0, h18, h19, h20]) (Qc := fun A => qI (B_cX11_sheet_7faaa D k h0 h18 h19 h20 h1 h2 h3 h4 h5 h6 h7 h8 h9 h10 h11 h12 h13 h14 h15 h16 h17 h21 x1 x2 x3 h0f0 h0f1 h0f2 h0f3 h0f4 h0f5 h0f8 h0f9 h0f17 h0f18 h0f19 h0f24 h0f25 h0f30 h0f31 h18f0 h18f1 h18f2 h18f3 h19f0 h19f1 h19f2 h19f3 A) A) (by decide +kernel) rfl (Nat.le_of_ble_eq_true rfl) ?_
  intro p e s m args below meth c ls A Q hx hb hr hml hown hlocks hin hU hK hT hS hA hl hQ
  have hl : lv_has ls 5 [(0, .ref h0), (1, .int x1), (2, .int x2), (3, .int x3)] := hl
  have hT : TP D A [(h0, ob 8 [.int h0f0, .int h0f1, .int h0f2, .int h0f3, .int h0f4, .int h0f5, .ref h1, .ref h2, .int h0f8, .int h0f9, .ref h3, .ref h4, .ref h5, .ref h6, .ref h7, .ref h8, .ref h9, .int h0f17, .int h0f18, .int h0f19, .ref h10, .ref h11, .ref h12, .ref h13, .int h0f24, .int h0f25, .ref h14, .ref h15, .ref h16, .ref h17, .int h0f30, .int h0f31, .ref h18, .ref h19, .ref h20, .ref h21]), (h18, aI (k 0) 4 (vec4 h18f0 h18f1 h18f2 h18f3)), (h19, aI (k 0) 4 (vec4 h19f0 h19f1 h19f2 h19f3)), (h20, aJ (k 1) 160 anJ)] s.heap := hT
  have lp69_108 : ∀ (n : Nat) (y99 : Int32) (y100 : Int32) (y101 : Int32) (y102 : Int32) (y103 : Int32) (y104 : Int32) (y105 : Int32) (y106 : Int32) (y107 : Int32) (H : Heap) (locs : List Loc) (ls : Array Slot), (0 ≤ y99.toInt ∧ y99.toInt ≤ 40) → ((-1) ≤ y100.toInt ∧ y100.toInt ≤ 2) → ((-1) ≤ y101.toInt ∧ y101.toInt ≤ 2) → ((-1) ≤ y102.toInt ∧ y102.toInt ≤ 2) → ((-1) ≤ y103.toInt ∧ y103.toInt ≤ 2) → (0 ≤ y104.toInt ∧ y104.toInt ≤ 40) → (0 ≤ y105.toInt ∧ y105.toInt ≤ 40) → (0 ≤ y106.toInt ∧ y106.toInt ≤ 40) → (0 ≤ y107.toInt ∧ y107.toInt ≤ 40) → (0 ≤ x1.toInt ∧ x1.toInt ≤ 3) → (y100.toInt = GSi 0 x1.toInt x2.toInt x3.toInt (h18f0.toInt)) → (y101.toInt = GSi 1 x1.toInt x2.toInt x3.toInt (h18f1.toInt)) → (y102.toInt = GSi 2 x1.toInt x2.toInt x3.toInt (h18f2.toInt)) → (y103.toInt = GSi 3 x1.toInt x2.toInt x3.toInt (h18f3.toInt)) → (y104.toInt = GLi 0 x1.toInt x2.toInt x3.toInt (h19f0.toInt)) → (y105.toInt = GLi 1 x1.toInt x2.toInt x3.toInt (h19f1.toInt)) → (y106.toInt = GLi 2 x1.toInt x2.toInt x3.toInt (h19f2.toInt)) → (y107.toInt = GLi 3 x1.toInt x2.toInt x3.toInt (h19f3.toInt)) → ((-1) * y99.toInt + 40 + 1).toNat < n → TP D A [(h0, ob 8 [.int h0f0, .int h0f1, .int h0f2, .int h0f3, .int h0f4, .int h0f5, .ref h1, .ref h2, .int h0f8, .int h0f9, .ref h3, .ref h4, .ref h5, .ref h6, .ref h7, .ref h8, .ref h9, .int h0f17, .int h0f18, .int h0f19, .ref h10, .ref h11, .ref h12, .ref h13, .int h0f24, .int h0f25, .ref h14, .ref h15, .ref h16, .ref h17, .int h0f30, .int h0f31, .ref h18, .ref h19, .ref h20, .ref h21]), (h18, aI (k 0) 4 (vec4 y100 y101 y102 y103)), (h19, aI (k 0) 4 (vec4 y104 y105 y106 y107)), (h20, aJ (k 1) 160 anJ)] H → va_S A s.heap H locs → lv_has ls 5 [(0, .ref h0), (1, .int x1), (4, .int y99)] → W p l e Rm_cX11_sheet_7faaa s m args below meth c H locs 0 0 Q (F0 m 69 ls []) := by
    intro n
    induction n with
    | zero => intro y99 y100 y101 y102 y103 y104 y105 y106 y107 H locs ls b_y99 b_y100 b_y101 b_y102 b_y103 b_y104 b_y105 b_y106 b_y107 b_x1 w_0 w_1 w_2 w_3 w_4 w_5 w_6 w_7 hm hT hS hl; exact absurd hm (Nat.not_lt_zero _)
    | succ n ih =>
      intro y99 y100 y101 y102 y103 y104 y105 y106 y107 H locs ls b_y99 b_y100 b_y101 b_y102 b_y103 b_y104 b_y105 b_y106 b_y107 b_x1 w_0 w_1 w_2 w_3 w_4 w_5 w_6 w_7 hm hT hS hl
      have ih69_108 := ih
      clear ih
      refine lv_iload hx hb dX11_sheet_69 (lv_at hl 2 rfl) ?_
      refine lv_bipush (v := 40) hx hb dX11_sheet_71 (by decide) ?_
      refine lv_icmp_ge (tgt := 95) hx hb dX11_sheet_73 (by decide) (fun c_109 => ?_) (fun c_109 => ?_)
      · skip
        have c_109 := ni_le c_109 li_40 rfl
        refine lv_iconst (v := 1) hx hb dX11_sheet_95 (by decide) ?_
        exact tz_retI (B := B_cX11_sheet_7faaa D k h0 h18 h19 h20 h1 h2 h3 h4 h5 h6 h7 h8 h9 h10 h11 h12 h13 h14 h15 h16 h17 h21 x1 x2 x3 h0f0 h0f1 h0f2 h0f3 h0f4 h0f5 h0f8 h0f9 h0f17 h0f18 h0f19 h0f24 h0f25 h0f30 h0f31 h18f0 h18f1 h18f2 h18f3 h19f0 h19f1 h19f2 h19f3) (v := 1) hQ hx hb hr hlocks hS (Nat.le_of_ble_eq_true rfl) (Nat.le_of_ble_eq_true rfl) dX11_sheet_96 (⟨y100, y101, y102, y103, y104, y105, y106, y107, (by have := li_1; omega), (by have := li_1; omega), (by have := li_1; omega), (by have := li_1; omega), (by have := li_1; omega), (by have := li_1; omega), (by have := li_1; omega), (by have := li_1; omega), (by have := li_1; omega), (by have := li_1; first | assumption | (simp only [GSi, GLi]; (repeat' split) <;> omega)), (by have := li_1; first | assumption | (simp only [GSi, GLi]; (repeat' split) <;> omega)), (by have := li_1; first | assumption | (simp only [GSi, GLi]; (repeat' split) <;> omega)), (by have := li_1; first | assumption | (simp only [GSi, GLi]; (repeat' split) <;> omega)), (by have := li_1; first | assumption | (simp only [GSi, GLi]; (repeat' split) <;> omega)), (by have := li_1; first | assumption | (simp only [GSi, GLi]; (repeat' split) <;> omega)), (by have := li_1; first | assumption | (simp only [GSi, GLi]; (repeat' split) <;> omega)), (by have := li_1; first | assumption | (simp only [GSi, GLi]; (repeat' split) <;> omega)), hT⟩)
      · skip
        have c_109 := ni_nle c_109 li_40 rfl
        refine lv_aload_n hx hb dX11_sheet_76 rfl (lv_at hl 0 rfl) ?_
        refine tz_get (ci := 8) (v := .ref h20) (C := RX11) (F := TX11) (N := 36) hx hb hU iX11 hown hK hT 0 rfl rfl 34 (by decide) w819 (fun _ h9 => h9) rfl dX11_sheet_77 ?_
        refine lv_bipush (v := 40) hx hb dX11_sheet_80 (by decide) ?_
        refine lv_iload_n hx hb dX11_sheet_82 rfl (lv_at hl 1 rfl) ?_
        refine lv_imul hx hb dX11_sheet_83 (lv_topi (fun v110 e_v110 => ?_))
        have e_v110 := ai_mul e_v110 li_40 rfl (by omega)
        refine lv_iload hx hb dX11_sheet_84 (lv_at hl 2 rfl) ?_
        refine lv_iadd hx hb dX11_sheet_86 (lv_topi (fun v111 e_v111 => ?_))
        have e_v111 := ai_add e_v111 rfl rfl (by omega)
        refine lv_lconst (v := 0) hx hb dX11_sheet_87 (by decide) ?_
        refine tz_last hx hb hK hT hS 3 rfl (by omega) (fun _ _ => trivial) dX11_sheet_88 (fun H locs hT hS => ?_)
        obtain ⟨v112, e_v112⟩ : ∃ x : Int32, x = y99 + Int32.ofInt 1 := ⟨_, rfl⟩
        have f_v112 := e_v112.symm
        have e_v112 : v112.toInt = y99.toInt + 1 := ai_add e_v112 rfl (show (Int32.ofInt 1).toInt = 1 from (by decide +kernel)) (by omega)
        refine lv_iinc (v := v112) (lv' := [(4, .int v112), (0, .ref h0), (1, .int x1)]) hx hb dX11_sheet_89 hl (k := 2) rfl f_v112 (by decide) rfl (fun ls hl => ?_)
        refine lv_goto (tgt := 69) hx hb dX11_sheet_92 (by decide) ?_
        exact ih69_108 v112 y100 y101 y102 y103 y104 y105 y106 y107 _ _ _ (by omega) (by omega) (by omega) (by omega) (by omega) (by omega) (by omega) (by omega) (by omega) (by omega) (by first | assumption | (simp only [GSi, GLi]; (repeat' split) <;> omega)) (by first | assumption | (simp only [GSi, GLi]; (repeat' split) <;> omega)) (by first | assumption | (simp only [GSi, GLi]; (repeat' split) <;> omega)) (by first | assumption | (simp only [GSi, GLi]; (repeat' split) <;> omega)) (by first | assumption | (simp only [GSi, GLi]; (repeat' split) <;> omega)) (by first | assumption | (simp only [GSi, GLi]; (repeat' split) <;> omega)) (by first | assumption | (simp only [GSi, GLi]; (repeat' split) <;> omega)) (by first | assumption | (simp only [GSi, GLi]; (repeat' split) <;> omega)) (by omega) hT hS (lv_sub hl [1, 2, 0] rfl)
  refine lv_iload_n hx hb dX11_sheet_0 rfl (lv_at hl 1 rfl) ?_
  refine tcI (Tc := []) (Tr := [(h0, ob 8 [.int h0f0, .int h0f1, .int h0f2, .int h0f3, .int h0f4, .int h0f5, .ref h1, .ref h2, .int h0f8, .int h0f9, .ref h3, .ref h4, .ref h5, .ref h6, .ref h7, .ref h8, .ref h9, .int h0f17, .int h0f18, .int h0f19, .ref h10, .ref h11, .ref h12, .ref h13, .int h0f24, .int h0f25, .ref h14, .ref h15, .ref h16, .ref h17, .int h0f30, .int h0f31, .ref h18, .ref h19, .ref h20, .ref h21]), (h18, aI (k 0) 4 (vec4 h18f0 h18f1 h18f2 h18f3)), (h19, aI (k 0) 4 (vec4 h19f0 h19f1 h19f2 h19f3)), (h20, aJ (k 1) 160 anJ)]) (as := []) (zcS (As := [.int x1]) (rest := []) (Tc := []) hx hb hml hown hU hK hT [] rfl (by decide) (cX11_isSheet_ea237 l D k _ x1) w1101 w1099 w1100 w72 hdX11_isSheet ⟨rfl, rfl⟩ ⟨Nat.le_of_ble_eq_true rfl, Nat.le_of_ble_eq_true rfl⟩ rfl hl.1 (Nat.le_of_ble_eq_true rfl) dX11_sheet_1 ⟨Nat.le_of_ble_eq_true rfl, Nat.le_of_ble_eq_true rfl⟩) hT hS hA [] [0, 1, 2, 3] rfl rfl rfl (by decide) (by decide) (fun r113 H locs hB J hS => ?_)
  rcases hB with ⟨c_114, rfl, hT1⟩ | ⟨c_115, c_116, rfl, hT1⟩ | ⟨c_117, c_118, rfl, hT1⟩
  · skip
    have hT := J _ hT1
    have hT : TP D A [(h0, ob 8 [.int h0f0, .int h0f1, .int h0f2, .int h0f3, .int h0f4, .int h0f5, .ref h1, .ref h2, .int h0f8, .int h0f9, .ref h3, .ref h4, .ref h5, .ref h6, .ref h7, .ref h8, .ref h9, .int h0f17, .int h0f18, .int h0f19, .ref h10, .ref h11, .ref h12, .ref h13, .int h0f24, .int h0f25, .ref h14, .ref h15, .ref h16, .ref h17, .int h0f30, .int h0f31, .ref h18, .ref h19, .ref h20, .ref h21]), (h18, aI (k 0) 4 (vec4 h18f0 h18f1 h18f2 h18f3)), (h19, aI (k 0) 4 (vec4 h19f0 h19f1 h19f2 h19f3)), (h20, aJ (k 1) 160 anJ)] _ := hT
    refine lv_if_eq (tgt := 31) hx hb dX11_sheet_4 (by decide) (fun _ => ?_) (fun cc => absurd (by decide +kernel) cc)
    refine lv_iconst (v := (-1)) hx hb dX11_sheet_31 (by decide) ?_
    exact tz_retI (B := B_cX11_sheet_7faaa D k h0 h18 h19 h20 h1 h2 h3 h4 h5 h6 h7 h8 h9 h10 h11 h12 h13 h14 h15 h16 h17 h21 x1 x2 x3 h0f0 h0f1 h0f2 h0f3 h0f4 h0f5 h0f8 h0f9 h0f17 h0f18 h0f19 h0f24 h0f25 h0f30 h0f31 h18f0 h18f1 h18f2 h18f3 h19f0 h19f1 h19f2 h19f3) (v := (-1)) hQ hx hb hr hlocks hS (Nat.le_of_ble_eq_true rfl) (Nat.le_of_ble_eq_true rfl) dX11_sheet_32 (⟨h18f0, h18f1, h18f2, h18f3, h19f0, h19f1, h19f2, h19f3, (by have := li_m1; omega), (by have := li_m1; omega), (by have := li_m1; omega), (by have := li_m1; omega), (by have := li_m1; omega), (by have := li_m1; omega), (by have := li_m1; omega), (by have := li_m1; omega), (by have := li_m1; omega), (by have := li_m1; first | assumption | (simp only [GSi, GLi]; (repeat' split) <;> omega)), (by have := li_m1; first | assumption | (simp only [GSi, GLi]; (repeat' split) <;> omega)), (by have := li_m1; first | assumption | (simp only [GSi, GLi]; (repeat' split) <;> omega)), (by have := li_m1; first | assumption | (simp only [GSi, GLi]; (repeat' split) <;> omega)), (by have := li_m1; first | assumption | (simp only [GSi, GLi]; (repeat' split) <;> omega)), (by have := li_m1; first | assumption | (simp only [GSi, GLi]; (repeat' split) <;> omega)), (by have := li_m1; first | assumption | (simp only [GSi, GLi]; (repeat' split) <;> omega)), (by have := li_m1; first | assumption | (simp only [GSi, GLi]; (repeat' split) <;> omega)), hT⟩)
  · skip
    have hT := J _ hT1
    have hT : TP D A [(h0, ob 8 [.int h0f0, .int h0f1, .int h0f2, .int h0f3, .int h0f4, .int h0f5, .ref h1, .ref h2, .int h0f8, .int h0f9, .ref h3, .ref h4, .ref h5, .ref h6, .ref h7, .ref h8, .ref h9, .int h0f17, .int h0f18, .int h0f19, .ref h10, .ref h11, .ref h12, .ref h13, .int h0f24, .int h0f25, .ref h14, .ref h15, .ref h16, .ref h17, .int h0f30, .int h0f31, .ref h18, .ref h19, .ref h20, .ref h21]), (h18, aI (k 0) 4 (vec4 h18f0 h18f1 h18f2 h18f3)), (h19, aI (k 0) 4 (vec4 h19f0 h19f1 h19f2 h19f3)), (h20, aJ (k 1) 160 anJ)] _ := hT
    refine lv_if_eq (tgt := 31) hx hb dX11_sheet_4 (by decide) (fun _ => ?_) (fun cc => absurd (by decide +kernel) cc)
    refine lv_iconst (v := (-1)) hx hb dX11_sheet_31 (by decide) ?_
    exact tz_retI (B := B_cX11_sheet_7faaa D k h0 h18 h19 h20 h1 h2 h3 h4 h5 h6 h7 h8 h9 h10 h11 h12 h13 h14 h15 h16 h17 h21 x1 x2 x3 h0f0 h0f1 h0f2 h0f3 h0f4 h0f5 h0f8 h0f9 h0f17 h0f18 h0f19 h0f24 h0f25 h0f30 h0f31 h18f0 h18f1 h18f2 h18f3 h19f0 h19f1 h19f2 h19f3) (v := (-1)) hQ hx hb hr hlocks hS (Nat.le_of_ble_eq_true rfl) (Nat.le_of_ble_eq_true rfl) dX11_sheet_32 (⟨h18f0, h18f1, h18f2, h18f3, h19f0, h19f1, h19f2, h19f3, (by have := li_m1; omega), (by have := li_m1; omega), (by have := li_m1; omega), (by have := li_m1; omega), (by have := li_m1; omega), (by have := li_m1; omega), (by have := li_m1; omega), (by have := li_m1; omega), (by have := li_m1; omega), (by have := li_m1; first | assumption | (simp only [GSi, GLi]; (repeat' split) <;> omega)), (by have := li_m1; first | assumption | (simp only [GSi, GLi]; (repeat' split) <;> omega)), (by have := li_m1; first | assumption | (simp only [GSi, GLi]; (repeat' split) <;> omega)), (by have := li_m1; first | assumption | (simp only [GSi, GLi]; (repeat' split) <;> omega)), (by have := li_m1; first | assumption | (simp only [GSi, GLi]; (repeat' split) <;> omega)), (by have := li_m1; first | assumption | (simp only [GSi, GLi]; (repeat' split) <;> omega)), (by have := li_m1; first | assumption | (simp only [GSi, GLi]; (repeat' split) <;> omega)), (by have := li_m1; first | assumption | (simp only [GSi, GLi]; (repeat' split) <;> omega)), hT⟩)
  · skip
    have hT := J _ hT1
    have hT : TP D A [(h0, ob 8 [.int h0f0, .int h0f1, .int h0f2, .int h0f3, .int h0f4, .int h0f5, .ref h1, .ref h2, .int h0f8, .int h0f9, .ref h3, .ref h4, .ref h5, .ref h6, .ref h7, .ref h8, .ref h9, .int h0f17, .int h0f18, .int h0f19, .ref h10, .ref h11, .ref h12, .ref h13, .int h0f24, .int h0f25, .ref h14, .ref h15, .ref h16, .ref h17, .int h0f30, .int h0f31, .ref h18, .ref h19, .ref h20, .ref h21]), (h18, aI (k 0) 4 (vec4 h18f0 h18f1 h18f2 h18f3)), (h19, aI (k 0) 4 (vec4 h19f0 h19f1 h19f2 h19f3)), (h20, aJ (k 1) 160 anJ)] _ := hT
    refine lv_if_eq (tgt := 31) hx hb dX11_sheet_4 (by decide) (fun cc => absurd cc (by decide +kernel)) (fun _ => ?_)
    refine lv_iload_n hx hb dX11_sheet_7 rfl (lv_at hl 2 rfl) ?_
    have tb_x2 := i32b x2
    obtain ⟨v119, e_v119⟩ : ∃ x : Int64, x2.toInt64 = x := ⟨_, rfl⟩
    refine lv_i2l (v := v119) hx hb dX11_sheet_8 e_v119 ?_
    have e_v119 := ai_i2l e_v119 rfl
    refine lv_ldc2 hx hb hown (hU _ w944) dX11_sheet_9 ?_
    refine lv_ldc2 hx hb hown (hU _ w1156) dX11_sheet_12 ?_
    have q_q121 := ll_m1
    have q_q122 := ll_2
    refine tcI (Tc := []) (Tr := [(h0, ob 8 [.int h0f0, .int h0f1, .int h0f2, .int h0f3, .int h0f4, .int h0f5, .ref h1, .ref h2, .int h0f8, .int h0f9, .ref h3, .ref h4, .ref h5, .ref h6, .ref h7, .ref h8, .ref h9, .int h0f17, .int h0f18, .int h0f19, .ref h10, .ref h11, .ref h12, .ref h13, .int h0f24, .int h0f25, .ref h14, .ref h15, .ref h16, .ref h17, .int h0f30, .int h0f31, .ref h18, .ref h19, .ref h20, .ref h21]), (h18, aI (k 0) 4 (vec4 h18f0 h18f1 h18f2 h18f3)), (h19, aI (k 0) 4 (vec4 h19f0 h19f1 h19f2 h19f3)), (h20, aJ (k 1) 160 anJ)]) (as := []) (zcS (As := [.long v119, .long (-1), .long 2]) (rest := []) (Tc := []) hx hb hml hown hU hK hT [] rfl (by decide) (cX11_in_182ae l D k _ v119 ((-1)) (2) (by have := ll_m1; omega) (by have := ll_2; omega)) w901 w899 w900 w72 hdX11_in ⟨rfl, rfl⟩ ⟨Nat.le_of_ble_eq_true rfl, Nat.le_of_ble_eq_true rfl⟩ rfl hl.1 (Nat.le_of_ble_eq_true rfl) dX11_sheet_15 ⟨Nat.le_of_ble_eq_true rfl, Nat.le_of_ble_eq_true rfl⟩) hT hS hA [] [0, 1, 2, 3] rfl rfl rfl (by decide) (by decide) (fun r120 H locs hB J hS => ?_)
    rcases hB with ⟨c_123, rfl, hT1⟩ | ⟨c_124, c_125, rfl, hT1⟩ | ⟨c_126, c_127, rfl, hT1⟩
    · skip
      have hT := J _ hT1
      have hT : TP D A [(h0, ob 8 [.int h0f0, .int h0f1, .int h0f2, .int h0f3, .int h0f4, .int h0f5, .ref h1, .ref h2, .int h0f8, .int h0f9, .ref h3, .ref h4, .ref h5, .ref h6, .ref h7, .ref h8, .ref h9, .int h0f17, .int h0f18, .int h0f19, .ref h10, .ref h11, .ref h12, .ref h13, .int h0f24, .int h0f25, .ref h14, .ref h15, .ref h16, .ref h17, .int h0f30, .int h0f31, .ref h18, .ref h19, .ref h20, .ref h21]), (h18, aI (k 0) 4 (vec4 h18f0 h18f1 h18f2 h18f3)), (h19, aI (k 0) 4 (vec4 h19f0 h19f1 h19f2 h19f3)), (h20, aJ (k 1) 160 anJ)] _ := hT
      refine lv_if_eq (tgt := 31) hx hb dX11_sheet_18 (by decide) (fun _ => ?_) (fun cc => absurd (by decide +kernel) cc)
      refine lv_iconst (v := (-1)) hx hb dX11_sheet_31 (by decide) ?_
      exact tz_retI (B := B_cX11_sheet_7faaa D k h0 h18 h19 h20 h1 h2 h3 h4 h5 h6 h7 h8 h9 h10 h11 h12 h13 h14 h15 h16 h17 h21 x1 x2 x3 h0f0 h0f1 h0f2 h0f3 h0f4 h0f5 h0f8 h0f9 h0f17 h0f18 h0f19 h0f24 h0f25 h0f30 h0f31 h18f0 h18f1 h18f2 h18f3 h19f0 h19f1 h19f2 h19f3) (v := (-1)) hQ hx hb hr hlocks hS (Nat.le_of_ble_eq_true rfl) (Nat.le_of_ble_eq_true rfl) dX11_sheet_32 (⟨h18f0, h18f1, h18f2, h18f3, h19f0, h19f1, h19f2, h19f3, (by have := li_m1; omega), (by have := li_m1; omega), (by have := li_m1; omega), (by have := li_m1; omega), (by have := li_m1; omega), (by have := li_m1; omega), (by have := li_m1; omega), (by have := li_m1; omega), (by have := li_m1; omega), (by have := li_m1; first | assumption | (simp only [GSi, GLi]; (repeat' split) <;> omega)), (by have := li_m1; first | assumption | (simp only [GSi, GLi]; (repeat' split) <;> omega)), (by have := li_m1; first | assumption | (simp only [GSi, GLi]; (repeat' split) <;> omega)), (by have := li_m1; first | assumption | (simp only [GSi, GLi]; (repeat' split) <;> omega)), (by have := li_m1; first | assumption | (simp only [GSi, GLi]; (repeat' split) <;> omega)), (by have := li_m1; first | assumption | (simp only [GSi, GLi]; (repeat' split) <;> omega)), (by have := li_m1; first | assumption | (simp only [GSi, GLi]; (repeat' split) <;> omega)), (by have := li_m1; first | assumption | (simp only [GSi, GLi]; (repeat' split) <;> omega)), hT⟩)
    · skip
      have hT := J _ hT1
      have hT : TP D A [(h0, ob 8 [.int h0f0, .int h0f1, .int h0f2, .int h0f3, .int h0f4, .int h0f5, .ref h1, .ref h2, .int h0f8, .int h0f9, .ref h3, .ref h4, .ref h5, .ref h6, .ref h7, .ref h8, .ref h9, .int h0f17, .int h0f18, .int h0f19, .ref h10, .ref h11, .ref h12, .ref h13, .int h0f24, .int h0f25, .ref h14, .ref h15, .ref h16, .ref h17, .int h0f30, .int h0f31, .ref h18, .ref h19, .ref h20, .ref h21]), (h18, aI (k 0) 4 (vec4 h18f0 h18f1 h18f2 h18f3)), (h19, aI (k 0) 4 (vec4 h19f0 h19f1 h19f2 h19f3)), (h20, aJ (k 1) 160 anJ)] _ := hT
      refine lv_if_eq (tgt := 31) hx hb dX11_sheet_18 (by decide) (fun _ => ?_) (fun cc => absurd (by decide +kernel) cc)
      refine lv_iconst (v := (-1)) hx hb dX11_sheet_31 (by decide) ?_
      exact tz_retI (B := B_cX11_sheet_7faaa D k h0 h18 h19 h20 h1 h2 h3 h4 h5 h6 h7 h8 h9 h10 h11 h12 h13 h14 h15 h16 h17 h21 x1 x2 x3 h0f0 h0f1 h0f2 h0f3 h0f4 h0f5 h0f8 h0f9 h0f17 h0f18 h0f19 h0f24 h0f25 h0f30 h0f31 h18f0 h18f1 h18f2 h18f3 h19f0 h19f1 h19f2 h19f3) (v := (-1)) hQ hx hb hr hlocks hS (Nat.le_of_ble_eq_true rfl) (Nat.le_of_ble_eq_true rfl) dX11_sheet_32 (⟨h18f0, h18f1, h18f2, h18f3, h19f0, h19f1, h19f2, h19f3, (by have := li_m1; omega), (by have := li_m1; omega), (by have := li_m1; omega), (by have := li_m1; omega), (by have := li_m1; omega), (by have := li_m1; omega), (by have := li_m1; omega), (by have := li_m1; omega), (by have := li_m1; omega), (by have := li_m1; first | assumption | (simp only [GSi, GLi]; (repeat' split) <;> omega)), (by have := li_m1; first | assumption | (simp only [GSi, GLi]; (repeat' split) <;> omega)), (by have := li_m1; first | assumption | (simp only [GSi, GLi]; (repeat' split) <;> omega)), (by have := li_m1; first | assumption | (simp only [GSi, GLi]; (repeat' split) <;> omega)), (by have := li_m1; first | assumption | (simp only [GSi, GLi]; (repeat' split) <;> omega)), (by have := li_m1; first | assumption | (simp only [GSi, GLi]; (repeat' split) <;> omega)), (by have := li_m1; first | assumption | (simp only [GSi, GLi]; (repeat' split) <;> omega)), (by have := li_m1; first | assumption | (simp only [GSi, GLi]; (repeat' split) <;> omega)), hT⟩)
    · skip
      have hT := J _ hT1
      have hT : TP D A [(h0, ob 8 [.int h0f0, .int h0f1, .int h0f2, .int h0f3, .int h0f4, .int h0f5, .ref h1, .ref h2, .int h0f8, .int h0f9, .ref h3, .ref h4, .ref h5, .ref h6, .ref h7, .ref h8, .ref h9, .int h0f17, .int h0f18, .int h0f19, .ref h10, .ref h11, .ref h12, .ref h13, .int h0f24, .int h0f25, .ref h14, .ref h15, .ref h16, .ref h17, .int h0f30, .int h0f31, .ref h18, .ref h19, .ref h20, .ref h21]), (h18, aI (k 0) 4 (vec4 h18f0 h18f1 h18f2 h18f3)), (h19, aI (k 0) 4 (vec4 h19f0 h19f1 h19f2 h19f3)), (h20, aJ (k 1) 160 anJ)] _ := hT
      refine lv_if_eq (tgt := 31) hx hb dX11_sheet_18 (by decide) (fun cc => absurd cc (by decide +kernel)) (fun _ => ?_)
      refine lv_iload_n hx hb dX11_sheet_21 rfl (lv_at hl 2 rfl) ?_
      refine lv_if_lt (tgt := 33) hx hb dX11_sheet_22 (by decide) (fun c_128 => ?_) (fun c_128 => ?_)
      · skip
        have c_128 := ni_lt c_128 rfl li_0
        refine lv_iload_n hx hb dX11_sheet_33 rfl (lv_at hl 2 rfl) ?_
        refine lv_if_lt (tgt := 44) hx hb dX11_sheet_34 (by decide) (fun c_129 => ?_) (fun c_129 => ?_)
        · skip
          have c_129 := ni_lt c_129 rfl li_0
          refine lv_aload_n hx hb dX11_sheet_44 rfl (lv_at hl 0 rfl) ?_
          refine tz_get (ci := 8) (v := .ref h18) (C := RX11) (F := TX11) (N := 36) hx hb hU iX11 hown hK hT 0 rfl rfl 32 (by decide) w817 (fun _ h9 => h9) rfl dX11_sheet_45 ?_
          refine lv_iload_n hx hb dX11_sheet_48 rfl (lv_at hl 1 rfl) ?_
          refine lv_iload_n hx hb dX11_sheet_49 rfl (lv_at hl 2 rfl) ?_
          rcases (show x1.toInt = 0 ∨ x1.toInt = 1 ∨ x1.toInt = 2 ∨ x1.toInt = 3 by omega) with hq130 | hq130 | hq130 | hq130
          · skip
            refine tz_iastP hx hb hK hT hS 1 (vec4 x2 h18f1 h18f2 h18f3) rfl (by omega) (x4_p0 hq130) dX11_sheet_50 (fun H locs hT hS => ?_)
            have hT : TP D A [(h0, ob 8 [.int h0f0, .int h0f1, .int h0f2, .int h0f3, .int h0f4, .int h0f5, .ref h1, .ref h2, .int h0f8, .int h0f9, .ref h3, .ref h4, .ref h5, .ref h6, .ref h7, .ref h8, .ref h9, .int h0f17, .int h0f18, .int h0f19, .ref h10, .ref h11, .ref h12, .ref h13, .int h0f24, .int h0f25, .ref h14, .ref h15, .ref h16, .ref h17, .int h0f30, .int h0f31, .ref h18, .ref h19, .ref h20, .ref h21]), (h18, aI (k 0) 4 (vec4 x2 h18f1 h18f2 h18f3)), (h19, aI (k 0) 4 (vec4 h19f0 h19f1 h19f2 h19f3)), (h20, aJ (k 1) 160 anJ)] _ := hT
            refine lv_aload_n hx hb dX11_sheet_51 rfl (lv_at hl 0 rfl) ?_
            refine tz_get (ci := 8) (v := .ref h19) (C := RX11) (F := TX11) (N := 36) hx hb hU iX11 hown hK hT 0 rfl rfl 33 (by decide) w818 (fun _ h9 => h9) rfl dX11_sheet_52 ?_
            refine lv_iload_n hx hb dX11_sheet_55 rfl (lv_at hl 1 rfl) ?_
            refine lv_iload_n hx hb dX11_sheet_56 rfl (lv_at hl 2 rfl) ?_
            refine lv_if_ge (tgt := 64) hx hb dX11_sheet_57 (by decide) (fun c_131 => ?_) (fun c_131 => ?_)
            · skip
              have c_131 := ni_le c_131 li_0 rfl
              exfalso; omega
            · skip
              have c_131 := ni_nle c_131 li_0 rfl
              refine lv_iconst (v := 0) hx hb dX11_sheet_60 (by decide) ?_
              refine lv_goto (tgt := 65) hx hb dX11_sheet_61 (by decide) ?_
              refine tz_iastP hx hb hK hT hS 2 (vec4 0 h19f1 h19f2 h19f3) rfl (by omega) (x4_p0 hq130) dX11_sheet_65 (fun H locs hT hS => ?_)
              have hT : TP D A [(h0, ob 8 [.int h0f0, .int h0f1, .int h0f2, .int h0f3, .int h0f4, .int h0f5, .ref h1, .ref h2, .int h0f8, .int h0f9, .ref h3, .ref h4, .ref h5, .ref h6, .ref h7, .ref h8, .ref h9, .int h0f17, .int h0f18, .int h0f19, .ref h10, .ref h11, .ref h12, .ref h13, .int h0f24, .int h0f25, .ref h14, .ref h15, .ref h16, .ref h17, .int h0f30, .int h0f31, .ref h18, .ref h19, .ref h20, .ref h21]), (h18, aI (k 0) 4 (vec4 x2 h18f1 h18f2 h18f3)), (h19, aI (k 0) 4 (vec4 0 h19f1 h19f2 h19f3)), (h20, aJ (k 1) 160 anJ)] _ := hT
              refine lv_iconst (v := 0) hx hb dX11_sheet_66 (by decide) ?_
              refine lv_istore (lv' := [(4, .int 0), (0, .ref h0), (1, .int x1), (2, .int x2), (3, .int x3)]) hx hb dX11_sheet_67 hl (by decide) rfl (fun ls hl => ?_)
              exact lp69_108 (((-1) * (0 : Int32).toInt + 40 + 1).toNat + 1) (0) x2 h18f1 h18f2 h18f3 (0) h19f1 h19f2 h19f3 _ _ _ (by have := li_0; omega) (by have := li_0; omega) (by have := li_0; omega) (by have := li_0; omega) (by have := li_0; omega) (by have := li_0; omega) (by have := li_0; omega) (by have := li_0; omega) (by have := li_0; omega) (by have := li_0; omega) (by have := li_0; first | assumption | (simp only [GSi, GLi]; (repeat' split) <;> omega)) (by have := li_0; first | assumption | (simp only [GSi, GLi]; (repeat' split) <;> omega)) (by have := li_0; first | assumption | (simp only [GSi, GLi]; (repeat' split) <;> omega)) (by have := li_0; first | assumption | (simp only [GSi, GLi]; (repeat' split) <;> omega)) (by have := li_0; first | assumption | (simp only [GSi, GLi]; (repeat' split) <;> omega)) (by have := li_0; first | assumption | (simp only [GSi, GLi]; (repeat' split) <;> omega)) (by have := li_0; first | assumption | (simp only [GSi, GLi]; (repeat' split) <;> omega)) (by have := li_0; first | assumption | (simp only [GSi, GLi]; (repeat' split) <;> omega)) (Nat.lt_succ_self _) hT hS (lv_sub hl [1, 2, 0] rfl)
          · skip
            refine tz_iastP hx hb hK hT hS 1 (vec4 h18f0 x2 h18f2 h18f3) rfl (by omega) (x4_p1 hq130) dX11_sheet_50 (fun H locs hT hS => ?_)
            have hT : TP D A [(h0, ob 8 [.int h0f0, .int h0f1, .int h0f2, .int h0f3, .int h0f4, .int h0f5, .ref h1, .ref h2, .int h0f8, .int h0f9, .ref h3, .ref h4, .ref h5, .ref h6, .ref h7, .ref h8, .ref h9, .int h0f17, .int h0f18, .int h0f19, .ref h10, .ref h11, .ref h12, .ref h13, .int h0f24, .int h0f25, .ref h14, .ref h15, .ref h16, .ref h17, .int h0f30, .int h0f31, .ref h18, .ref h19, .ref h20, .ref h21]), (h18, aI (k 0) 4 (vec4 h18f0 x2 h18f2 h18f3)), (h19, aI (k 0) 4 (vec4 h19f0 h19f1 h19f2 h19f3)), (h20, aJ (k 1) 160 anJ)] _ := hT
            refine lv_aload_n hx hb dX11_sheet_51 rfl (lv_at hl 0 rfl) ?_
            refine tz_get (ci := 8) (v := .ref h19) (C := RX11) (F := TX11) (N := 36) hx hb hU iX11 hown hK hT 0 rfl rfl 33 (by decide) w818 (fun _ h9 => h9) rfl dX11_sheet_52 ?_
            refine lv_iload_n hx hb dX11_sheet_55 rfl (lv_at hl 1 rfl) ?_
            refine lv_iload_n hx hb dX11_sheet_56 rfl (lv_at hl 2 rfl) ?_
            refine lv_if_ge (tgt := 64) hx hb dX11_sheet_57 (by decide) (fun c_132 => ?_) (fun c_132 => ?_)
            · skip
              have c_132 := ni_le c_132 li_0 rfl
              exfalso; omega
            · skip
              have c_132 := ni_nle c_132 li_0 rfl
              refine lv_iconst (v := 0) hx hb dX11_sheet_60 (by decide) ?_
              refine lv_goto (tgt := 65) hx hb dX11_sheet_61 (by decide) ?_
              refine tz_iastP hx hb hK hT hS 2 (vec4 h19f0 0 h19f2 h19f3) rfl (by omega) (x4_p1 hq130) dX11_sheet_65 (fun H locs hT hS => ?_)
              have hT : TP D A [(h0, ob 8 [.int h0f0, .int h0f1, .int h0f2, .int h0f3, .int h0f4, .int h0f5, .ref h1, .ref h2, .int h0f8, .int h0f9, .ref h3, .ref h4, .ref h5, .ref h6, .ref h7, .ref h8, .ref h9, .int h0f17, .int h0f18, .int h0f19, .ref h10, .ref h11, .ref h12, .ref h13, .int h0f24, .int h0f25, .ref h14, .ref h15, .ref h16, .ref h17, .int h0f30, .int h0f31, .ref h18, .ref h19, .ref h20, .ref h21]), (h18, aI (k 0) 4 (vec4 h18f0 x2 h18f2 h18f3)), (h19, aI (k 0) 4 (vec4 h19f0 0 h19f2 h19f3)), (h20, aJ (k 1) 160 anJ)] _ := hT
              refine lv_iconst (v := 0) hx hb dX11_sheet_66 (by decide) ?_
              refine lv_istore (lv' := [(4, .int 0), (0, .ref h0), (1, .int x1), (2, .int x2), (3, .int x3)]) hx hb dX11_sheet_67 hl (by decide) rfl (fun ls hl => ?_)
              exact lp69_108 (((-1) * (0 : Int32).toInt + 40 + 1).toNat + 1) (0) h18f0 x2 h18f2 h18f3 h19f0 (0) h19f2 h19f3 _ _ _ (by have := li_0; omega) (by have := li_0; omega) (by have := li_0; omega) (by have := li_0; omega) (by have := li_0; omega) (by have := li_0; omega) (by have := li_0; omega) (by have := li_0; omega) (by have := li_0; omega) (by have := li_0; omega) (by have := li_0; first | assumption | (simp only [GSi, GLi]; (repeat' split) <;> omega)) (by have := li_0; first | assumption | (simp only [GSi, GLi]; (repeat' split) <;> omega)) (by have := li_0; first | assumption | (simp only [GSi, GLi]; (repeat' split) <;> omega)) (by have := li_0; first | assumption | (simp only [GSi, GLi]; (repeat' split) <;> omega)) (by have := li_0; first | assumption | (simp only [GSi, GLi]; (repeat' split) <;> omega)) (by have := li_0; first | assumption | (simp only [GSi, GLi]; (repeat' split) <;> omega)) (by have := li_0; first | assumption | (simp only [GSi, GLi]; (repeat' split) <;> omega)) (by have := li_0; first | assumption | (simp only [GSi, GLi]; (repeat' split) <;> omega)) (Nat.lt_succ_self _) hT hS (lv_sub hl [1, 2, 0] rfl)
          · skip
            refine tz_iastP hx hb hK hT hS 1 (vec4 h18f0 h18f1 x2 h18f3) rfl (by omega) (x4_p2 hq130) dX11_sheet_50 (fun H locs hT hS => ?_)
            have hT : TP D A [(h0, ob 8 [.int h0f0, .int h0f1, .int h0f2, .int h0f3, .int h0f4, .int h0f5, .ref h1, .ref h2, .int h0f8, .int h0f9, .ref h3, .ref h4, .ref h5, .ref h6, .ref h7, .ref h8, .ref h9, .int h0f17, .int h0f18, .int h0f19, .ref h10, .ref h11, .ref h12, .ref h13, .int h0f24, .int h0f25, .ref h14, .ref h15, .ref h16, .ref h17, .int h0f30, .int h0f31, .ref h18, .ref h19, .ref h20, .ref h21]), (h18, aI (k 0) 4 (vec4 h18f0 h18f1 x2 h18f3)), (h19, aI (k 0) 4 (vec4 h19f0 h19f1 h19f2 h19f3)), (h20, aJ (k 1) 160 anJ)] _ := hT
            refine lv_aload_n hx hb dX11_sheet_51 rfl (lv_at hl 0 rfl) ?_
            refine tz_get (ci := 8) (v := .ref h19) (C := RX11) (F := TX11) (N := 36) hx hb hU iX11 hown hK hT 0 rfl rfl 33 (by decide) w818 (fun _ h9 => h9) rfl dX11_sheet_52 ?_
            refine lv_iload_n hx hb dX11_sheet_55 rfl (lv_at hl 1 rfl) ?_
            refine lv_iload_n hx hb dX11_sheet_56 rfl (lv_at hl 2 rfl) ?_
            refine lv_if_ge (tgt := 64) hx hb dX11_sheet_57 (by decide) (fun c_133 => ?_) (fun c_133 => ?_)
            · skip
              have c_133 := ni_le c_133 li_0 rfl
              exfalso; omega
            · skip
              have c_133 := ni_nle c_133 li_0 rfl
              refine lv_iconst (v := 0) hx hb dX11_sheet_60 (by decide) ?_
              refine lv_goto (tgt := 65) hx hb dX11_sheet_61 (by decide) ?_
              refine tz_iastP hx hb hK hT hS 2 (vec4 h19f0 h19f1 0 h19f3) rfl (by omega) (x4_p2 hq130) dX11_sheet_65 (fun H locs hT hS => ?_)
              have hT : TP D A [(h0, ob 8 [.int h0f0, .int h0f1, .int h0f2, .int h0f3, .int h0f4, .int h0f5, .ref h1, .ref h2, .int h0f8, .int h0f9, .ref h3, .ref h4, .ref h5, .ref h6, .ref h7, .ref h8, .ref h9, .int h0f17, .int h0f18, .int h0f19, .ref h10, .ref h11, .ref h12, .ref h13, .int h0f24, .int h0f25, .ref h14, .ref h15, .ref h16, .ref h17, .int h0f30, .int h0f31, .ref h18, .ref h19, .ref h20, .ref h21]), (h18, aI (k 0) 4 (vec4 h18f0 h18f1 x2 h18f3)), (h19, aI (k 0) 4 (vec4 h19f0 h19f1 0 h19f3)), (h20, aJ (k 1) 160 anJ)] _ := hT
              refine lv_iconst (v := 0) hx hb dX11_sheet_66 (by decide) ?_
              refine lv_istore (lv' := [(4, .int 0), (0, .ref h0), (1, .int x1), (2, .int x2), (3, .int x3)]) hx hb dX11_sheet_67 hl (by decide) rfl (fun ls hl => ?_)
              exact lp69_108 (((-1) * (0 : Int32).toInt + 40 + 1).toNat + 1) (0) h18f0 h18f1 x2 h18f3 h19f0 h19f1 (0) h19f3 _ _ _ (by have := li_0; omega) (by have := li_0; omega) (by have := li_0; omega) (by have := li_0; omega) (by have := li_0; omega) (by have := li_0; omega) (by have := li_0; omega) (by have := li_0; omega) (by have := li_0; omega) (by have := li_0; omega) (by have := li_0; first | assumption | (simp only [GSi, GLi]; (repeat' split) <;> omega)) (by have := li_0; first | assumption | (simp only [GSi, GLi]; (repeat' split) <;> omega)) (by have := li_0; first | assumption | (simp only [GSi, GLi]; (repeat' split) <;> omega)) (by have := li_0; first | assumption | (simp only [GSi, GLi]; (repeat' split) <;> omega)) (by have := li_0; first | assumption | (simp only [GSi, GLi]; (repeat' split) <;> omega)) (by have := li_0; first | assumption | (simp only [GSi, GLi]; (repeat' split) <;> omega)) (by have := li_0; first | assumption | (simp only [GSi, GLi]; (repeat' split) <;> omega)) (by have := li_0; first | assumption | (simp only [GSi, GLi]; (repeat' split) <;> omega)) (Nat.lt_succ_self _) hT hS (lv_sub hl [1, 2, 0] rfl)
          · skip
            refine tz_iastP hx hb hK hT hS 1 (vec4 h18f0 h18f1 h18f2 x2) rfl (by omega) (x4_p3 hq130) dX11_sheet_50 (fun H locs hT hS => ?_)
            have hT : TP D A [(h0, ob 8 [.int h0f0, .int h0f1, .int h0f2, .int h0f3, .int h0f4, .int h0f5, .ref h1, .ref h2, .int h0f8, .int h0f9, .ref h3, .ref h4, .ref h5, .ref h6, .ref h7, .ref h8, .ref h9, .int h0f17, .int h0f18, .int h0f19, .ref h10, .ref h11, .ref h12, .ref h13, .int h0f24, .int h0f25, .ref h14, .ref h15, .ref h16, .ref h17, .int h0f30, .int h0f31, .ref h18, .ref h19, .ref h20, .ref h21]), (h18, aI (k 0) 4 (vec4 h18f0 h18f1 h18f2 x2)), (h19, aI (k 0) 4 (vec4 h19f0 h19f1 h19f2 h19f3)), (h20, aJ (k 1) 160 anJ)] _ := hT
            refine lv_aload_n hx hb dX11_sheet_51 rfl (lv_at hl 0 rfl) ?_
            refine tz_get (ci := 8) (v := .ref h19) (C := RX11) (F := TX11) (N := 36) hx hb hU iX11 hown hK hT 0 rfl rfl 33 (by decide) w818 (fun _ h9 => h9) rfl dX11_sheet_52 ?_
            refine lv_iload_n hx hb dX11_sheet_55 rfl (lv_at hl 1 rfl) ?_
            refine lv_iload_n hx hb dX11_sheet_56 rfl (lv_at hl 2 rfl) ?_
            refine lv_if_ge (tgt := 64) hx hb dX11_sheet_57 (by decide) (fun c_134 => ?_) (fun c_134 => ?_)
            · skip
              have c_134 := ni_le c_134 li_0 rfl
              exfalso; omega
            · skip
              have c_134 := ni_nle c_134 li_0 rfl
              refine lv_iconst (v := 0) hx hb dX11_sheet_60 (by decide) ?_
              refine lv_goto (tgt := 65) hx hb dX11_sheet_61 (by decide) ?_
              refine tz_iastP hx hb hK hT hS 2 (vec4 h19f0 h19f1 h19f2 0) rfl (by omega) (x4_p3 hq130) dX11_sheet_65 (fun H locs hT hS => ?_)
              have hT : TP D A [(h0, ob 8 [.int h0f0, .int h0f1, .int h0f2, .int h0f3, .int h0f4, .int h0f5, .ref h1, .ref h2, .int h0f8, .int h0f9, .ref h3, .ref h4, .ref h5, .ref h6, .ref h7, .ref h8, .ref h9, .int h0f17, .int h0f18, .int h0f19, .ref h10, .ref h11, .ref h12, .ref h13, .int h0f24, .int h0f25, .ref h14, .ref h15, .ref h16, .ref h17, .int h0f30, .int h0f31, .ref h18, .ref h19, .ref h20, .ref h21]), (h18, aI (k 0) 4 (vec4 h18f0 h18f1 h18f2 x2)), (h19, aI (k 0) 4 (vec4 h19f0 h19f1 h19f2 0)), (h20, aJ (k 1) 160 anJ)] _ := hT
              refine lv_iconst (v := 0) hx hb dX11_sheet_66 (by decide) ?_
              refine lv_istore (lv' := [(4, .int 0), (0, .ref h0), (1, .int x1), (2, .int x2), (3, .int x3)]) hx hb dX11_sheet_67 hl (by decide) rfl (fun ls hl => ?_)
              exact lp69_108 (((-1) * (0 : Int32).toInt + 40 + 1).toNat + 1) (0) h18f0 h18f1 h18f2 x2 h19f0 h19f1 h19f2 (0) _ _ _ (by have := li_0; omega) (by have := li_0; omega) (by have := li_0; omega) (by have := li_0; omega) (by have := li_0; omega) (by have := li_0; omega) (by have := li_0; omega) (by have := li_0; omega) (by have := li_0; omega) (by have := li_0; omega) (by have := li_0; first | assumption | (simp only [GSi, GLi]; (repeat' split) <;> omega)) (by have := li_0; first | assumption | (simp only [GSi, GLi]; (repeat' split) <;> omega)) (by have := li_0; first | assumption | (simp only [GSi, GLi]; (repeat' split) <;> omega)) (by have := li_0; first | assumption | (simp only [GSi, GLi]; (repeat' split) <;> omega)) (by have := li_0; first | assumption | (simp only [GSi, GLi]; (repeat' split) <;> omega)) (by have := li_0; first | assumption | (simp only [GSi, GLi]; (repeat' split) <;> omega)) (by have := li_0; first | assumption | (simp only [GSi, GLi]; (repeat' split) <;> omega)) (by have := li_0; first | assumption | (simp only [GSi, GLi]; (repeat' split) <;> omega)) (Nat.lt_succ_self _) hT hS (lv_sub hl [1, 2, 0] rfl)
        · skip
          have c_129 := ni_nlt c_129 rfl li_0
          exfalso; omega
      · skip
        have c_128 := ni_nlt c_128 rfl li_0
        refine lv_iload_n hx hb dX11_sheet_25 rfl (lv_at hl 3 rfl) ?_
        refine lv_bipush (v := 40) hx hb dX11_sheet_26 (by decide) ?_
        refine lv_icmp_le (tgt := 33) hx hb dX11_sheet_28 (by decide) (fun c_135 => ?_) (fun c_135 => ?_)
        · skip
          have c_135 := ni_le c_135 rfl li_40
          refine lv_iload_n hx hb dX11_sheet_33 rfl (lv_at hl 2 rfl) ?_
          refine lv_if_lt (tgt := 44) hx hb dX11_sheet_34 (by decide) (fun c_136 => ?_) (fun c_136 => ?_)
          · skip
            have c_136 := ni_lt c_136 rfl li_0
            exfalso; omega
          · skip
            have c_136 := ni_nlt c_136 rfl li_0
            refine lv_iload_n hx hb dX11_sheet_37 rfl (lv_at hl 3 rfl) ?_
            refine lv_if_ge (tgt := 44) hx hb dX11_sheet_38 (by decide) (fun c_137 => ?_) (fun c_137 => ?_)
            · skip
              have c_137 := ni_le c_137 li_0 rfl
              refine lv_aload_n hx hb dX11_sheet_44 rfl (lv_at hl 0 rfl) ?_
              refine tz_get (ci := 8) (v := .ref h18) (C := RX11) (F := TX11) (N := 36) hx hb hU iX11 hown hK hT 0 rfl rfl 32 (by decide) w817 (fun _ h9 => h9) rfl dX11_sheet_45 ?_
              refine lv_iload_n hx hb dX11_sheet_48 rfl (lv_at hl 1 rfl) ?_
              refine lv_iload_n hx hb dX11_sheet_49 rfl (lv_at hl 2 rfl) ?_
              rcases (show x1.toInt = 0 ∨ x1.toInt = 1 ∨ x1.toInt = 2 ∨ x1.toInt = 3 by omega) with hq138 | hq138 | hq138 | hq138
              · skip
                refine tz_iastP hx hb hK hT hS 1 (vec4 x2 h18f1 h18f2 h18f3) rfl (by omega) (x4_p0 hq138) dX11_sheet_50 (fun H locs hT hS => ?_)
                have hT : TP D A [(h0, ob 8 [.int h0f0, .int h0f1, .int h0f2, .int h0f3, .int h0f4, .int h0f5, .ref h1, .ref h2, .int h0f8, .int h0f9, .ref h3, .ref h4, .ref h5, .ref h6, .ref h7, .ref h8, .ref h9, .int h0f17, .int h0f18, .int h0f19, .ref h10, .ref h11, .ref h12, .ref h13, .int h0f24, .int h0f25, .ref h14, .ref h15, .ref h16, .ref h17, .int h0f30, .int h0f31, .ref h18, .ref h19, .ref h20, .ref h21]), (h18, aI (k 0) 4 (vec4 x2 h18f1 h18f2 h18f3)), (h19, aI (k 0) 4 (vec4 h19f0 h19f1 h19f2 h19f3)), (h20, aJ (k 1) 160 anJ)] _ := hT
                refine lv_aload_n hx hb dX11_sheet_51 rfl (lv_at hl 0 rfl) ?_
                refine tz_get (ci := 8) (v := .ref h19) (C := RX11) (F := TX11) (N := 36) hx hb hU iX11 hown hK hT 0 rfl rfl 33 (by decide) w818 (fun _ h9 => h9) rfl dX11_sheet_52 ?_
                refine lv_iload_n hx hb dX11_sheet_55 rfl (lv_at hl 1 rfl) ?_
                refine lv_iload_n hx hb dX11_sheet_56 rfl (lv_at hl 2 rfl) ?_
                refine lv_if_ge (tgt := 64) hx hb dX11_sheet_57 (by decide) (fun c_139 => ?_) (fun c_139 => ?_)
                · skip
                  have c_139 := ni_le c_139 li_0 rfl
                  refine lv_iload_n hx hb dX11_sheet_64 rfl (lv_at hl 3 rfl) ?_
                  refine tz_iastP hx hb hK hT hS 2 (vec4 x3 h19f1 h19f2 h19f3) rfl (by omega) (x4_p0 hq138) dX11_sheet_65 (fun H locs hT hS => ?_)
                  have hT : TP D A [(h0, ob 8 [.int h0f0, .int h0f1, .int h0f2, .int h0f3, .int h0f4, .int h0f5, .ref h1, .ref h2, .int h0f8, .int h0f9, .ref h3, .ref h4, .ref h5, .ref h6, .ref h7, .ref h8, .ref h9, .int h0f17, .int h0f18, .int h0f19, .ref h10, .ref h11, .ref h12, .ref h13, .int h0f24, .int h0f25, .ref h14, .ref h15, .ref h16, .ref h17, .int h0f30, .int h0f31, .ref h18, .ref h19, .ref h20, .ref h21]), (h18, aI (k 0) 4 (vec4 x2 h18f1 h18f2 h18f3)), (h19, aI (k 0) 4 (vec4 x3 h19f1 h19f2 h19f3)), (h20, aJ (k 1) 160 anJ)] _ := hT
                  refine lv_iconst (v := 0) hx hb dX11_sheet_66 (by decide) ?_
                  refine lv_istore (lv' := [(4, .int 0), (0, .ref h0), (1, .int x1), (2, .int x2), (3, .int x3)]) hx hb dX11_sheet_67 hl (by decide) rfl (fun ls hl => ?_)
                  exact lp69_108 (((-1) * (0 : Int32).toInt + 40 + 1).toNat + 1) (0) x2 h18f1 h18f2 h18f3 x3 h19f1 h19f2 h19f3 _ _ _ (by have := li_0; omega) (by have := li_0; omega) (by have := li_0; omega) (by have := li_0; omega) (by have := li_0; omega) (by have := li_0; omega) (by have := li_0; omega) (by have := li_0; omega) (by have := li_0; omega) (by have := li_0; omega) (by have := li_0; first | assumption | (simp only [GSi, GLi]; (repeat' split) <;> omega)) (by have := li_0; first | assumption | (simp only [GSi, GLi]; (repeat' split) <;> omega)) (by have := li_0; first | assumption | (simp only [GSi, GLi]; (repeat' split) <;> omega)) (by have := li_0; first | assumption | (simp only [GSi, GLi]; (repeat' split) <;> omega)) (by have := li_0; first | assumption | (simp only [GSi, GLi]; (repeat' split) <;> omega)) (by have := li_0; first | assumption | (simp only [GSi, GLi]; (repeat' split) <;> omega)) (by have := li_0; first | assumption | (simp only [GSi, GLi]; (repeat' split) <;> omega)) (by have := li_0; first | assumption | (simp only [GSi, GLi]; (repeat' split) <;> omega)) (Nat.lt_succ_self _) hT hS (lv_sub hl [1, 2, 0] rfl)
                · skip
                  have c_139 := ni_nle c_139 li_0 rfl
                  exfalso; omega
              · skip
                refine tz_iastP hx hb hK hT hS 1 (vec4 h18f0 x2 h18f2 h18f3) rfl (by omega) (x4_p1 hq138) dX11_sheet_50 (fun H locs hT hS => ?_)
                have hT : TP D A [(h0, ob 8 [.int h0f0, .int h0f1, .int h0f2, .int h0f3, .int h0f4, .int h0f5, .ref h1, .ref h2, .int h0f8, .int h0f9, .ref h3, .ref h4, .ref h5, .ref h6, .ref h7, .ref h8, .ref h9, .int h0f17, .int h0f18, .int h0f19, .ref h10, .ref h11, .ref h12, .ref h13, .int h0f24, .int h0f25, .ref h14, .ref h15, .ref h16, .ref h17, .int h0f30, .int h0f31, .ref h18, .ref h19, .ref h20, .ref h21]), (h18, aI (k 0) 4 (vec4 h18f0 x2 h18f2 h18f3)), (h19, aI (k 0) 4 (vec4 h19f0 h19f1 h19f2 h19f3)), (h20, aJ (k 1) 160 anJ)] _ := hT
                refine lv_aload_n hx hb dX11_sheet_51 rfl (lv_at hl 0 rfl) ?_
                refine tz_get (ci := 8) (v := .ref h19) (C := RX11) (F := TX11) (N := 36) hx hb hU iX11 hown hK hT 0 rfl rfl 33 (by decide) w818 (fun _ h9 => h9) rfl dX11_sheet_52 ?_
                refine lv_iload_n hx hb dX11_sheet_55 rfl (lv_at hl 1 rfl) ?_
                refine lv_iload_n hx hb dX11_sheet_56 rfl (lv_at hl 2 rfl) ?_
                refine lv_if_ge (tgt := 64) hx hb dX11_sheet_57 (by decide) (fun c_140 => ?_) (fun c_140 => ?_)
                · skip
                  have c_140 := ni_le c_140 li_0 rfl
                  refine lv_iload_n hx hb dX11_sheet_64 rfl (lv_at hl 3 rfl) ?_
                  refine tz_iastP hx hb hK hT hS 2 (vec4 h19f0 x3 h19f2 h19f3) rfl (by omega) (x4_p1 hq138) dX11_sheet_65 (fun H locs hT hS => ?_)
                  have hT : TP D A [(h0, ob 8 [.int h0f0, .int h0f1, .int h0f2, .int h0f3, .int h0f4, .int h0f5, .ref h1, .ref h2, .int h0f8, .int h0f9, .ref h3, .ref h4, .ref h5, .ref h6, .ref h7, .ref h8, .ref h9, .int h0f17, .int h0f18, .int h0f19, .ref h10, .ref h11, .ref h12, .ref h13, .int h0f24, .int h0f25, .ref h14, .ref h15, .ref h16, .ref h17, .int h0f30, .int h0f31, .ref h18, .ref h19, .ref h20, .ref h21]), (h18, aI (k 0) 4 (vec4 h18f0 x2 h18f2 h18f3)), (h19, aI (k 0) 4 (vec4 h19f0 x3 h19f2 h19f3)), (h20, aJ (k 1) 160 anJ)] _ := hT
                  refine lv_iconst (v := 0) hx hb dX11_sheet_66 (by decide) ?_
                  refine lv_istore (lv' := [(4, .int 0), (0, .ref h0), (1, .int x1), (2, .int x2), (3, .int x3)]) hx hb dX11_sheet_67 hl (by decide) rfl (fun ls hl => ?_)
                  exact lp69_108 (((-1) * (0 : Int32).toInt + 40 + 1).toNat + 1) (0) h18f0 x2 h18f2 h18f3 h19f0 x3 h19f2 h19f3 _ _ _ (by have := li_0; omega) (by have := li_0; omega) (by have := li_0; omega) (by have := li_0; omega) (by have := li_0; omega) (by have := li_0; omega) (by have := li_0; omega) (by have := li_0; omega) (by have := li_0; omega) (by have := li_0; omega) (by have := li_0; first | assumption | (simp only [GSi, GLi]; (repeat' split) <;> omega)) (by have := li_0; first | assumption | (simp only [GSi, GLi]; (repeat' split) <;> omega)) (by have := li_0; first | assumption | (simp only [GSi, GLi]; (repeat' split) <;> omega)) (by have := li_0; first | assumption | (simp only [GSi, GLi]; (repeat' split) <;> omega)) (by have := li_0; first | assumption | (simp only [GSi, GLi]; (repeat' split) <;> omega)) (by have := li_0; first | assumption | (simp only [GSi, GLi]; (repeat' split) <;> omega)) (by have := li_0; first | assumption | (simp only [GSi, GLi]; (repeat' split) <;> omega)) (by have := li_0; first | assumption | (simp only [GSi, GLi]; (repeat' split) <;> omega)) (Nat.lt_succ_self _) hT hS (lv_sub hl [1, 2, 0] rfl)
                · skip
                  have c_140 := ni_nle c_140 li_0 rfl
                  exfalso; omega
              · skip
                refine tz_iastP hx hb hK hT hS 1 (vec4 h18f0 h18f1 x2 h18f3) rfl (by omega) (x4_p2 hq138) dX11_sheet_50 (fun H locs hT hS => ?_)
                have hT : TP D A [(h0, ob 8 [.int h0f0, .int h0f1, .int h0f2, .int h0f3, .int h0f4, .int h0f5, .ref h1, .ref h2, .int h0f8, .int h0f9, .ref h3, .ref h4, .ref h5, .ref h6, .ref h7, .ref h8, .ref h9, .int h0f17, .int h0f18, .int h0f19, .ref h10, .ref h11, .ref h12, .ref h13, .int h0f24, .int h0f25, .ref h14, .ref h15, .ref h16, .ref h17, .int h0f30, .int h0f31, .ref h18, .ref h19, .ref h20, .ref h21]), (h18, aI (k 0) 4 (vec4 h18f0 h18f1 x2 h18f3)), (h19, aI (k 0) 4 (vec4 h19f0 h19f1 h19f2 h19f3)), (h20, aJ (k 1) 160 anJ)] _ := hT
                refine lv_aload_n hx hb dX11_sheet_51 rfl (lv_at hl 0 rfl) ?_
                refine tz_get (ci := 8) (v := .ref h19) (C := RX11) (F := TX11) (N := 36) hx hb hU iX11 hown hK hT 0 rfl rfl 33 (by decide) w818 (fun _ h9 => h9) rfl dX11_sheet_52 ?_
                refine lv_iload_n hx hb dX11_sheet_55 rfl (lv_at hl 1 rfl) ?_
                refine lv_iload_n hx hb dX11_sheet_56 rfl (lv_at hl 2 rfl) ?_
                refine lv_if_ge (tgt := 64) hx hb dX11_sheet_57 (by decide) (fun c_141 => ?_) (fun c_141 => ?_)
                · skip
                  have c_141 := ni_le c_141 li_0 rfl
                  refine lv_iload_n hx hb dX11_sheet_64 rfl (lv_at hl 3 rfl) ?_
                  refine tz_iastP hx hb hK hT hS 2 (vec4 h19f0 h19f1 x3 h19f3) rfl (by omega) (x4_p2 hq138) dX11_sheet_65 (fun H locs hT hS => ?_)
                  have hT : TP D A [(h0, ob 8 [.int h0f0, .int h0f1, .int h0f2, .int h0f3, .int h0f4, .int h0f5, .ref h1, .ref h2, .int h0f8, .int h0f9, .ref h3, .ref h4, .ref h5, .ref h6, .ref h7, .ref h8, .ref h9, .int h0f17, .int h0f18, .int h0f19, .ref h10, .ref h11, .ref h12, .ref h13, .int h0f24, .int h0f25, .ref h14, .ref h15, .ref h16, .ref h17, .int h0f30, .int h0f31, .ref h18, .ref h19, .ref h20, .ref h21]), (h18, aI (k 0) 4 (vec4 h18f0 h18f1 x2 h18f3)), (h19, aI (k 0) 4 (vec4 h19f0 h19f1 x3 h19f3)), (h20, aJ (k 1) 160 anJ)] _ := hT
                  refine lv_iconst (v := 0) hx hb dX11_sheet_66 (by decide) ?_
                  refine lv_istore (lv' := [(4, .int 0), (0, .ref h0), (1, .int x1), (2, .int x2), (3, .int x3)]) hx hb dX11_sheet_67 hl (by decide) rfl (fun ls hl => ?_)
                  exact lp69_108 (((-1) * (0 : Int32).toInt + 40 + 1).toNat + 1) (0) h18f0 h18f1 x2 h18f3 h19f0 h19f1 x3 h19f3 _ _ _ (by have := li_0; omega) (by have := li_0; omega) (by have := li_0; omega) (by have := li_0; omega) (by have := li_0; omega) (by have := li_0; omega) (by have := li_0; omega) (by have := li_0; omega) (by have := li_0; omega) (by have := li_0; omega) (by have := li_0; first | assumption | (simp only [GSi, GLi]; (repeat' split) <;> omega)) (by have := li_0; first | assumption | (simp only [GSi, GLi]; (repeat' split) <;> omega)) (by have := li_0; first | assumption | (simp only [GSi, GLi]; (repeat' split) <;> omega)) (by have := li_0; first | assumption | (simp only [GSi, GLi]; (repeat' split) <;> omega)) (by have := li_0; first | assumption | (simp only [GSi, GLi]; (repeat' split) <;> omega)) (by have := li_0; first | assumption | (simp only [GSi, GLi]; (repeat' split) <;> omega)) (by have := li_0; first | assumption | (simp only [GSi, GLi]; (repeat' split) <;> omega)) (by have := li_0; first | assumption | (simp only [GSi, GLi]; (repeat' split) <;> omega)) (Nat.lt_succ_self _) hT hS (lv_sub hl [1, 2, 0] rfl)
                · skip
                  have c_141 := ni_nle c_141 li_0 rfl
                  exfalso; omega
              · skip
                refine tz_iastP hx hb hK hT hS 1 (vec4 h18f0 h18f1 h18f2 x2) rfl (by omega) (x4_p3 hq138) dX11_sheet_50 (fun H locs hT hS => ?_)
                have hT : TP D A [(h0, ob 8 [.int h0f0, .int h0f1, .int h0f2, .int h0f3, .int h0f4, .int h0f5, .ref h1, .ref h2, .int h0f8, .int h0f9, .ref h3, .ref h4, .ref h5, .ref h6, .ref h7, .ref h8, .ref h9, .int h0f17, .int h0f18, .int h0f19, .ref h10, .ref h11, .ref h12, .ref h13, .int h0f24, .int h0f25, .ref h14, .ref h15, .ref h16, .ref h17, .int h0f30, .int h0f31, .ref h18, .ref h19, .ref h20, .ref h21]), (h18, aI (k 0) 4 (vec4 h18f0 h18f1 h18f2 x2)), (h19, aI (k 0) 4 (vec4 h19f0 h19f1 h19f2 h19f3)), (h20, aJ (k 1) 160 anJ)] _ := hT
                refine lv_aload_n hx hb dX11_sheet_51 rfl (lv_at hl 0 rfl) ?_
                refine tz_get (ci := 8) (v := .ref h19) (C := RX11) (F := TX11) (N := 36) hx hb hU iX11 hown hK hT 0 rfl rfl 33 (by decide) w818 (fun _ h9 => h9) rfl dX11_sheet_52 ?_
                refine lv_iload_n hx hb dX11_sheet_55 rfl (lv_at hl 1 rfl) ?_
                refine lv_iload_n hx hb dX11_sheet_56 rfl (lv_at hl 2 rfl) ?_
                refine lv_if_ge (tgt := 64) hx hb dX11_sheet_57 (by decide) (fun c_142 => ?_) (fun c_142 => ?_)
                · skip
                  have c_142 := ni_le c_142 li_0 rfl
                  refine lv_iload_n hx hb dX11_sheet_64 rfl (lv_at hl 3 rfl) ?_
                  refine tz_iastP hx hb hK hT hS 2 (vec4 h19f0 h19f1 h19f2 x3) rfl (by omega) (x4_p3 hq138) dX11_sheet_65 (fun H locs hT hS => ?_)
                  have hT : TP D A [(h0, ob 8 [.int h0f0, .int h0f1, .int h0f2, .int h0f3, .int h0f4, .int h0f5, .ref h1, .ref h2, .int h0f8, .int h0f9, .ref h3, .ref h4, .ref h5, .ref h6, .ref h7, .ref h8, .ref h9, .int h0f17, .int h0f18, .int h0f19, .ref h10, .ref h11, .ref h12, .ref h13, .int h0f24, .int h0f25, .ref h14, .ref h15, .ref h16, .ref h17, .int h0f30, .int h0f31, .ref h18, .ref h19, .ref h20, .ref h21]), (h18, aI (k 0) 4 (vec4 h18f0 h18f1 h18f2 x2)), (h19, aI (k 0) 4 (vec4 h19f0 h19f1 h19f2 x3)), (h20, aJ (k 1) 160 anJ)] _ := hT
                  refine lv_iconst (v := 0) hx hb dX11_sheet_66 (by decide) ?_
                  refine lv_istore (lv' := [(4, .int 0), (0, .ref h0), (1, .int x1), (2, .int x2), (3, .int x3)]) hx hb dX11_sheet_67 hl (by decide) rfl (fun ls hl => ?_)
                  exact lp69_108 (((-1) * (0 : Int32).toInt + 40 + 1).toNat + 1) (0) h18f0 h18f1 h18f2 x2 h19f0 h19f1 h19f2 x3 _ _ _ (by have := li_0; omega) (by have := li_0; omega) (by have := li_0; omega) (by have := li_0; omega) (by have := li_0; omega) (by have := li_0; omega) (by have := li_0; omega) (by have := li_0; omega) (by have := li_0; omega) (by have := li_0; omega) (by have := li_0; first | assumption | (simp only [GSi, GLi]; (repeat' split) <;> omega)) (by have := li_0; first | assumption | (simp only [GSi, GLi]; (repeat' split) <;> omega)) (by have := li_0; first | assumption | (simp only [GSi, GLi]; (repeat' split) <;> omega)) (by have := li_0; first | assumption | (simp only [GSi, GLi]; (repeat' split) <;> omega)) (by have := li_0; first | assumption | (simp only [GSi, GLi]; (repeat' split) <;> omega)) (by have := li_0; first | assumption | (simp only [GSi, GLi]; (repeat' split) <;> omega)) (by have := li_0; first | assumption | (simp only [GSi, GLi]; (repeat' split) <;> omega)) (by have := li_0; first | assumption | (simp only [GSi, GLi]; (repeat' split) <;> omega)) (Nat.lt_succ_self _) hT hS (lv_sub hl [1, 2, 0] rfl)
                · skip
                  have c_142 := ni_nle c_142 li_0 rfl
                  exfalso; omega
            · skip
              have c_137 := ni_nle c_137 li_0 rfl
              refine lv_bipush (v := (-14)) hx hb dX11_sheet_41 (by decide) ?_
              exact tz_retI (B := B_cX11_sheet_7faaa D k h0 h18 h19 h20 h1 h2 h3 h4 h5 h6 h7 h8 h9 h10 h11 h12 h13 h14 h15 h16 h17 h21 x1 x2 x3 h0f0 h0f1 h0f2 h0f3 h0f4 h0f5 h0f8 h0f9 h0f17 h0f18 h0f19 h0f24 h0f25 h0f30 h0f31 h18f0 h18f1 h18f2 h18f3 h19f0 h19f1 h19f2 h19f3) (v := (-14)) hQ hx hb hr hlocks hS (Nat.le_of_ble_eq_true rfl) (Nat.le_of_ble_eq_true rfl) dX11_sheet_43 (⟨h18f0, h18f1, h18f2, h18f3, h19f0, h19f1, h19f2, h19f3, (by have := li_m14; omega), (by have := li_m14; omega), (by have := li_m14; omega), (by have := li_m14; omega), (by have := li_m14; omega), (by have := li_m14; omega), (by have := li_m14; omega), (by have := li_m14; omega), (by have := li_m14; omega), (by have := li_m14; first | assumption | (simp only [GSi, GLi]; (repeat' split) <;> omega)), (by have := li_m14; first | assumption | (simp only [GSi, GLi]; (repeat' split) <;> omega)), (by have := li_m14; first | assumption | (simp only [GSi, GLi]; (repeat' split) <;> omega)), (by have := li_m14; first | assumption | (simp only [GSi, GLi]; (repeat' split) <;> omega)), (by have := li_m14; first | assumption | (simp only [GSi, GLi]; (repeat' split) <;> omega)), (by have := li_m14; first | assumption | (simp only [GSi, GLi]; (repeat' split) <;> omega)), (by have := li_m14; first | assumption | (simp only [GSi, GLi]; (repeat' split) <;> omega)), (by have := li_m14; first | assumption | (simp only [GSi, GLi]; (repeat' split) <;> omega)), hT⟩)
        · skip
          have c_135 := ni_nle c_135 rfl li_40
          refine lv_iconst (v := (-1)) hx hb dX11_sheet_31 (by decide) ?_
          exact tz_retI (B := B_cX11_sheet_7faaa D k h0 h18 h19 h20 h1 h2 h3 h4 h5 h6 h7 h8 h9 h10 h11 h12 h13 h14 h15 h16 h17 h21 x1 x2 x3 h0f0 h0f1 h0f2 h0f3 h0f4 h0f5 h0f8 h0f9 h0f17 h0f18 h0f19 h0f24 h0f25 h0f30 h0f31 h18f0 h18f1 h18f2 h18f3 h19f0 h19f1 h19f2 h19f3) (v := (-1)) hQ hx hb hr hlocks hS (Nat.le_of_ble_eq_true rfl) (Nat.le_of_ble_eq_true rfl) dX11_sheet_32 (⟨h18f0, h18f1, h18f2, h18f3, h19f0, h19f1, h19f2, h19f3, (by have := li_m1; omega), (by have := li_m1; omega), (by have := li_m1; omega), (by have := li_m1; omega), (by have := li_m1; omega), (by have := li_m1; omega), (by have := li_m1; omega), (by have := li_m1; omega), (by have := li_m1; omega), (by have := li_m1; first | assumption | (simp only [GSi, GLi]; (repeat' split) <;> omega)), (by have := li_m1; first | assumption | (simp only [GSi, GLi]; (repeat' split) <;> omega)), (by have := li_m1; first | assumption | (simp only [GSi, GLi]; (repeat' split) <;> omega)), (by have := li_m1; first | assumption | (simp only [GSi, GLi]; (repeat' split) <;> omega)), (by have := li_m1; first | assumption | (simp only [GSi, GLi]; (repeat' split) <;> omega)), (by have := li_m1; first | assumption | (simp only [GSi, GLi]; (repeat' split) <;> omega)), (by have := li_m1; first | assumption | (simp only [GSi, GLi]; (repeat' split) <;> omega)), (by have := li_m1; first | assumption | (simp only [GSi, GLi]; (repeat' split) <;> omega)), hT⟩)
abbrev Rm_cX6_isMissing_00176 : Room := { frames := 0, cells := 0, slots := 0, locals := 0 }
abbrev B_cX6_isMissing_00176 (D : va_G) (k : Nat → ClassId) (h0 h1 : Nat) (h0f0 : Int32) (h0f1 : Int32) (A : Nat → Prop) (r : Int32) (H : Heap) : Prop := (h0f0.toInt ≠ (-1) ∧ 0 = r ∧ TP D A [(h0, ob 5 [.int h0f0, .int h0f1, .ref h1])] H) ∨ (h0f0.toInt = (-1) ∧ 1 = r ∧ TP D A [(h0, ob 5 [.int h0f0, .int h0f1, .ref h1])] H)
set_option maxHeartbeats 4000000 in
set_option maxRecDepth 100000 in
theorem cX6_isMissing_00176 (l : Launch) (D : va_G) (k : Nat → ClassId) (sz : Nat) (h0 h1 : Nat) (h0f0 : Int32) (h0f1 : Int32) (b_h0f0 : (-1) ≤ h0f0.toInt ∧ h0f0.toInt ≤ 2) (b_h0f1 : 0 ≤ h0f1.toInt ∧ h0f1.toInt ≤ 40) : Met l yX6_isMissing (Cond.code yX6_isMissing cX6_isMissing 1 (some .boolean) :: uw) Rm_cX6_isMissing_00176 (pT D k sz [.ref h0] [(h0, ob 5 [.int h0f0, .int h0f1, .ref h1])]) (qI (B_cX6_isMissing_00176 D k h0 h1 h0f0 h0f1 (zA [h0] sz)) (zA [h0] sz)) 0 0 (zA [h0] sz) := by
  refine tz_begin (as := [h0]) (Qc := fun A => qI (B_cX6_isMissing_00176 D k h0 h1 h0f0 h0f1 A) A) (by decide +kernel) rfl (Nat.le_of_ble_eq_true rfl) ?_
  intro p e s m args below meth c ls A Q hx hb hr hml hown hlocks hin hU hK hT hS hA hl hQ
  have hl : lv_has ls 1 [(0, .ref h0)] := hl
  have hT : TP D A [(h0, ob 5 [.int h0f0, .int h0f1, .ref h1])] s.heap := hT
  refine lv_aload_n hx hb dX6_isMissing_0 rfl (lv_at hl 0 rfl) ?_
  refine tz_get (ci := 5) (v := .int h0f0) (C := RX6) (F := TX6) (N := 3) hx hb hU iX6 hown hK hT 0 rfl rfl 0 (by decide) w237 (fun _ h9 => h9) rfl dX6_isMissing_1 ?_
  refine lv_iconst (v := (-1)) hx hb dX6_isMissing_4 (by decide) ?_
  refine lv_icmp_ne (tgt := 12) hx hb dX6_isMissing_5 (by decide) (fun c_1 => ?_) (fun c_1 => ?_)
  · skip
    have c_1 := ni_ne c_1 rfl li_m1
    refine lv_iconst (v := 0) hx hb dX6_isMissing_12 (by decide) ?_
    exact tz_retZ (B := B_cX6_isMissing_00176 D k h0 h1 h0f0 h0f1) (v := 0) hQ hx hb hr hlocks hS (Nat.le_of_ble_eq_true rfl) (Nat.le_of_ble_eq_true rfl) dX6_isMissing_13 (by have := li_0; omega) (Or.inl ⟨(by have := li_0; omega), rfl, hT⟩)
  · skip
    have c_1 := ni_eq c_1 rfl li_m1
    refine lv_iconst (v := 1) hx hb dX6_isMissing_8 (by decide) ?_
    refine lv_goto (tgt := 13) hx hb dX6_isMissing_9 (by decide) ?_
    exact tz_retZ (B := B_cX6_isMissing_00176 D k h0 h1 h0f0 h0f1) (v := 1) hQ hx hb hr hlocks hS (Nat.le_of_ble_eq_true rfl) (Nat.le_of_ble_eq_true rfl) dX6_isMissing_13 (by have := li_1; omega) (Or.inr (⟨(by have := li_1; omega), rfl, hT⟩))
abbrev Rm_cX6_isOutside_6ce95 : Room := { frames := 0, cells := 0, slots := 0, locals := 0 }
abbrev B_cX6_isOutside_6ce95 (D : va_G) (k : Nat → ClassId) (h0 h1 : Nat) (x1 : Int32) (x2 : Int32) (h0f0 : Int32) (h0f1 : Int32) (A : Nat → Prop) (r : Int32) (H : Heap) : Prop := (0 ≤ x2.toInt ∧ x1.toInt < 0 ∧ 1 = r ∧ TP D A [(h0, ob 5 [.int h0f0, .int h0f1, .ref h1])] H) ∨ (0 ≤ x2.toInt ∧ 0 ≤ x1.toInt ∧ x1.toInt + x2.toInt ≤ h0f1.toInt ∧ 0 = r ∧ TP D A [(h0, ob 5 [.int h0f0, .int h0f1, .ref h1])] H) ∨ (0 ≤ x2.toInt ∧ 0 ≤ x1.toInt ∧ h0f1.toInt < x1.toInt + x2.toInt ∧ 1 = r ∧ TP D A [(h0, ob 5 [.int h0f0, .int h0f1, .ref h1])] H)
set_option maxHeartbeats 4000000 in
set_option maxRecDepth 100000 in
theorem cX6_isOutside_6ce95 (l : Launch) (D : va_G) (k : Nat → ClassId) (sz : Nat) (h0 h1 : Nat) (x1 : Int32) (x2 : Int32) (h0f0 : Int32) (h0f1 : Int32) (b_x2 : 1 ≤ x2.toInt ∧ x2.toInt ≤ 1) (b_h0f0 : 0 ≤ h0f0.toInt ∧ h0f0.toInt ≤ 2) (b_h0f1 : 0 ≤ h0f1.toInt ∧ h0f1.toInt ≤ 40) : Met l yX6_isOutside (Cond.code yX6_isOutside cX6_isOutside 3 (some .boolean) :: uw) Rm_cX6_isOutside_6ce95 (pT D k sz [.ref h0, .int x1, .int x2] [(h0, ob 5 [.int h0f0, .int h0f1, .ref h1])]) (qI (B_cX6_isOutside_6ce95 D k h0 h1 x1 x2 h0f0 h0f1 (zA [h0] sz)) (zA [h0] sz)) 0 0 (zA [h0] sz) := by
  refine tz_begin (as := [h0]) (Qc := fun A => qI (B_cX6_isOutside_6ce95 D k h0 h1 x1 x2 h0f0 h0f1 A) A) (by decide +kernel) rfl (Nat.le_of_ble_eq_true rfl) ?_
  intro p e s m args below meth c ls A Q hx hb hr hml hown hlocks hin hU hK hT hS hA hl hQ
  have hl : lv_has ls 3 [(0, .ref h0), (1, .int x1), (2, .int x2)] := hl
  have hT : TP D A [(h0, ob 5 [.int h0f0, .int h0f1, .ref h1])] s.heap := hT
  refine lv_iload_n hx hb dX6_isOutside_0 rfl (lv_at hl 2 rfl) ?_
  refine lv_if_lt (tgt := 22) hx hb dX6_isOutside_1 (by decide) (fun c_1 => ?_) (fun c_1 => ?_)
  · skip
    have c_1 := ni_lt c_1 rfl li_0
    exfalso; omega
  · skip
    have c_1 := ni_nlt c_1 rfl li_0
    refine lv_iload_n hx hb dX6_isOutside_4 rfl (lv_at hl 1 rfl) ?_
    refine lv_if_lt (tgt := 22) hx hb dX6_isOutside_5 (by decide) (fun c_2 => ?_) (fun c_2 => ?_)
    · skip
      have c_2 := ni_lt c_2 rfl li_0
      refine lv_iconst (v := 1) hx hb dX6_isOutside_22 (by decide) ?_
      refine lv_goto (tgt := 27) hx hb dX6_isOutside_23 (by decide) ?_
      exact tz_retZ (B := B_cX6_isOutside_6ce95 D k h0 h1 x1 x2 h0f0 h0f1) (v := 1) hQ hx hb hr hlocks hS (Nat.le_of_ble_eq_true rfl) (Nat.le_of_ble_eq_true rfl) dX6_isOutside_27 (by have := li_1; omega) (Or.inl ⟨(by have := li_1; omega), (by have := li_1; omega), rfl, hT⟩)
    · skip
      have c_2 := ni_nlt c_2 rfl li_0
      refine lv_iload_n hx hb dX6_isOutside_8 rfl (lv_at hl 1 rfl) ?_
      have tb_x1 := i32b x1
      obtain ⟨v3, e_v3⟩ : ∃ x : Int64, x1.toInt64 = x := ⟨_, rfl⟩
      refine lv_i2l (v := v3) hx hb dX6_isOutside_9 e_v3 ?_
      have e_v3 := ai_i2l e_v3 rfl
      refine lv_iload_n hx hb dX6_isOutside_10 rfl (lv_at hl 2 rfl) ?_
      obtain ⟨v4, e_v4⟩ : ∃ x : Int64, x2.toInt64 = x := ⟨_, rfl⟩
      refine lv_i2l (v := v4) hx hb dX6_isOutside_11 e_v4 ?_
      have e_v4 := ai_i2l e_v4 rfl
      refine lv_ladd hx hb dX6_isOutside_12 (lv_topl (fun v5 e_v5 => ?_))
      have e_v5 := al_add e_v5 rfl rfl (by omega)
      refine lv_aload_n hx hb dX6_isOutside_13 rfl (lv_at hl 0 rfl) ?_
      refine tz_get (ci := 5) (v := .int h0f1) (C := RX6) (F := TX6) (N := 3) hx hb hU iX6 hown hK hT 0 rfl rfl 1 (by decide) w239 (fun _ h9 => h9) rfl dX6_isOutside_14 ?_
      obtain ⟨v6, e_v6⟩ : ∃ x : Int64, h0f1.toInt64 = x := ⟨_, rfl⟩
      refine lv_i2l (v := v6) hx hb dX6_isOutside_17 e_v6 ?_
      have e_v6 := ai_i2l e_v6 rfl
      refine W.lcmp hx hb dX6_isOutside_18 ?_
      refine lv_if_le (tgt := 26) hx hb dX6_isOutside_19 (by decide) (fun c_7 => ?_) (fun c_7 => ?_)
      · skip
        have c_7 := nl_le c_7 rfl rfl
        refine lv_iconst (v := 0) hx hb dX6_isOutside_26 (by decide) ?_
        exact tz_retZ (B := B_cX6_isOutside_6ce95 D k h0 h1 x1 x2 h0f0 h0f1) (v := 0) hQ hx hb hr hlocks hS (Nat.le_of_ble_eq_true rfl) (Nat.le_of_ble_eq_true rfl) dX6_isOutside_27 (by have := li_0; omega) (Or.inr (Or.inl ⟨(by have := li_0; omega), (by have := li_0; omega), (by have := li_0; omega), rfl, hT⟩))
      · skip
        have c_7 := nl_nle c_7 rfl rfl
        refine lv_iconst (v := 1) hx hb dX6_isOutside_22 (by decide) ?_
        refine lv_goto (tgt := 27) hx hb dX6_isOutside_23 (by decide) ?_
        exact tz_retZ (B := B_cX6_isOutside_6ce95 D k h0 h1 x1 x2 h0f0 h0f1) (v := 1) hQ hx hb hr hlocks hS (Nat.le_of_ble_eq_true rfl) (Nat.le_of_ble_eq_true rfl) dX6_isOutside_27 (by have := li_1; omega) (Or.inr (Or.inr (⟨(by have := li_1; omega), (by have := li_1; omega), (by have := li_1; omega), rfl, hT⟩)))
abbrev Rm_cX6_write_31564 : Room := { frames := 0, cells := 0, slots := 0, locals := 0 }
abbrev B_cX6_write_31564 (D : va_G) (k : Nat → ClassId) (h0 h1 : Nat) (x1 : Int32) (x2 : Int64) (h0f0 : Int32) (h0f1 : Int32) (A : Nat → Prop) (H : Heap) : Prop := TP D A [(h0, ob 5 [.int h0f0, .int h0f1, .ref h1]), (h1, aJ (k 1) 40 anJ)] H
set_option maxHeartbeats 4000000 in
set_option maxRecDepth 100000 in
theorem cX6_write_31564 (l : Launch) (D : va_G) (k : Nat → ClassId) (sz : Nat) (h0 h1 : Nat) (x1 : Int32) (x2 : Int64) (h0f0 : Int32) (h0f1 : Int32) (b_x1 : 0 ≤ x1.toInt ∧ x1.toInt ≤ 39) (b_h0f0 : 0 ≤ h0f0.toInt ∧ h0f0.toInt ≤ 2) (b_h0f1 : 1 ≤ h0f1.toInt ∧ h0f1.toInt ≤ 40) : Met l yX6_write (Cond.code yX6_write cX6_write 4 none :: uw) Rm_cX6_write_31564 (pT D k sz [.ref h0, .int x1, .long x2] [(h0, ob 5 [.int h0f0, .int h0f1, .ref h1]), (h1, aJ (k 1) 40 anJ)]) (qV (B_cX6_write_31564 D k h0 h1 x1 x2 h0f0 h0f1 (zA [h0, h1] sz)) (zA [h0, h1] sz)) 0 0 (zA [h0, h1] sz) := by
  refine tz_begin (as := [h0, h1]) (Qc := fun A => qV (B_cX6_write_31564 D k h0 h1 x1 x2 h0f0 h0f1 A) A) (by decide +kernel) rfl (Nat.le_of_ble_eq_true rfl) ?_
  intro p e s m args below meth c ls A Q hx hb hr hml hown hlocks hin hU hK hT hS hA hl hQ
  have hl : lv_has ls 4 [(0, .ref h0), (1, .int x1), (2, .long x2)] := hl
  have hT : TP D A [(h0, ob 5 [.int h0f0, .int h0f1, .ref h1]), (h1, aJ (k 1) 40 anJ)] s.heap := hT
  refine lv_aload_n hx hb dX6_write_0 rfl (lv_at hl 0 rfl) ?_
  refine tz_get (ci := 5) (v := .int h0f0) (C := RX6) (F := TX6) (N := 3) hx hb hU iX6 hown hK hT 0 rfl rfl 0 (by decide) w237 (fun _ h9 => h9) rfl dX6_write_1 ?_
  refine lv_if_ne (tgt := 19) hx hb dX6_write_4 (by decide) (fun c_1 => ?_) (fun c_1 => ?_)
  · skip
    have c_1 := ni_ne c_1 rfl li_0
    refine lv_aload_n hx hb dX6_write_19 rfl (lv_at hl 0 rfl) ?_
    refine tz_get (ci := 5) (v := .int h0f0) (C := RX6) (F := TX6) (N := 3) hx hb hU iX6 hown hK hT 0 rfl rfl 0 (by decide) w237 (fun _ h9 => h9) rfl dX6_write_20 ?_
    refine lv_iconst (v := 2) hx hb dX6_write_23 (by decide) ?_
    refine lv_icmp_ne (tgt := 40) hx hb dX6_write_24 (by decide) (fun c_2 => ?_) (fun c_2 => ?_)
    · skip
      have c_2 := ni_ne c_2 rfl li_2
      refine lv_aload_n hx hb dX6_write_40 rfl (lv_at hl 0 rfl) ?_
      refine tz_get (ci := 5) (v := .ref h1) (C := RX6) (F := TX6) (N := 3) hx hb hU iX6 hown hK hT 0 rfl rfl 2 (by decide) w240 (fun _ h9 => h9) rfl dX6_write_41 ?_
      refine lv_iload_n hx hb dX6_write_44 rfl (lv_at hl 1 rfl) ?_
      refine lv_lload_n hx hb dX6_write_45 rfl (lv_at hl 2 rfl) ?_
      refine tz_last hx hb hK hT hS 1 rfl (by omega) (fun _ _ => trivial) dX6_write_46 (fun H locs hT hS => ?_)
      exact tz_retV (B := B_cX6_write_31564 D k h0 h1 x1 x2 h0f0 h0f1) hQ hx hb hr hlocks hS (Nat.le_of_ble_eq_true rfl) (Nat.le_of_ble_eq_true rfl) dX6_write_47 (hT)
    · skip
      have c_2 := ni_eq c_2 rfl li_2
      refine lv_aload_n hx hb dX6_write_27 rfl (lv_at hl 0 rfl) ?_
      refine tz_get (ci := 5) (v := .ref h1) (C := RX6) (F := TX6) (N := 3) hx hb hU iX6 hown hK hT 0 rfl rfl 2 (by decide) w240 (fun _ h9 => h9) rfl dX6_write_28 ?_
      refine lv_iload_n hx hb dX6_write_31 rfl (lv_at hl 1 rfl) ?_
      refine lv_lload_n hx hb dX6_write_32 rfl (lv_at hl 2 rfl) ?_
      refine lv_l2i hx hb dX6_write_33 rfl (lv_topi (fun v3 _ => ?_))
      refine lv_i2s hx hb dX6_write_34 rfl (lv_topi (fun v4 _ => ?_))
      have tb_v4 := i32b v4
      obtain ⟨v5, e_v5⟩ : ∃ x : Int64, v4.toInt64 = x := ⟨_, rfl⟩
      refine lv_i2l (v := v5) hx hb dX6_write_35 e_v5 ?_
      have e_v5 := ai_i2l e_v5 rfl
      refine tz_last hx hb hK hT hS 1 rfl (by omega) (fun _ _ => trivial) dX6_write_36 (fun H locs hT hS => ?_)
      refine lv_goto (tgt := 47) hx hb dX6_write_37 (by decide) ?_
      exact tz_retV (B := B_cX6_write_31564 D k h0 h1 x1 x2 h0f0 h0f1) hQ hx hb hr hlocks hS (Nat.le_of_ble_eq_true rfl) (Nat.le_of_ble_eq_true rfl) dX6_write_47 (hT)
  · skip
    have c_1 := ni_eq c_1 rfl li_0
    refine lv_aload_n hx hb dX6_write_7 rfl (lv_at hl 0 rfl) ?_
    refine tz_get (ci := 5) (v := .ref h1) (C := RX6) (F := TX6) (N := 3) hx hb hU iX6 hown hK hT 0 rfl rfl 2 (by decide) w240 (fun _ h9 => h9) rfl dX6_write_8 ?_
    refine lv_iload_n hx hb dX6_write_11 rfl (lv_at hl 1 rfl) ?_
    refine lv_lload_n hx hb dX6_write_12 rfl (lv_at hl 2 rfl) ?_
    refine lv_l2i hx hb dX6_write_13 rfl (lv_topi (fun v6 _ => ?_))
    have tb_v6 := i32b v6
    obtain ⟨v7, e_v7⟩ : ∃ x : Int64, v6.toInt64 = x := ⟨_, rfl⟩
    refine lv_i2l (v := v7) hx hb dX6_write_14 e_v7 ?_
    have e_v7 := ai_i2l e_v7 rfl
    refine tz_last hx hb hK hT hS 1 rfl (by omega) (fun _ _ => trivial) dX6_write_15 (fun H locs hT hS => ?_)
    refine lv_goto (tgt := 47) hx hb dX6_write_16 (by decide) ?_
    exact tz_retV (B := B_cX6_write_31564 D k h0 h1 x1 x2 h0f0 h0f1) hQ hx hb hr hlocks hS (Nat.le_of_ble_eq_true rfl) (Nat.le_of_ble_eq_true rfl) dX6_write_47 (hT)
abbrev Rm_cX10_put_cbc11 : Room := { frames := 1, cells := 0, slots := 0, locals := 23 }
abbrev B_cX10_put_cbc11 (D : va_G) (k : Nat → ClassId) (h0 h4 h17 h18 h19 h20 h37 h38 h39 h40 h1 h2 h3 h5 h6 h7 h8 h9 h10 h11 h12 : Nat) (x1 : Int32) (x2 : Int32) (x3 : Int64) (h0f2 : Int32) (h0f6 : Int32) (h0f8 : Int32) (h0f11 : Int32) (h17f0 : Int32) (h17f1 : Int32) (h18f0 : Int32) (h18f1 : Int32) (h19f0 : Int32) (h19f1 : Int32) (h20f0 : Int32) (h20f1 : Int32) (A : Nat → Prop) (r : Int32) (H : Heap) : Prop := ((-12) ≤ r.toInt ∧ r.toInt ≤ 1) ∧ (r.toInt = FPi x1.toInt x2.toInt (h17f0.toInt) (h18f0.toInt) (h19f0.toInt) (h20f0.toInt) (h17f1.toInt) (h18f1.toInt) (h19f1.toInt) (h20f1.toInt)) ∧ TP D A [(h0, ob 7 [.ref h1, .ref h2, .int h0f2, .ref h3, .ref h4, .ref h5, .int h0f6, .ref h6, .int h0f8, .null, .ref h7, .int h0f11, .ref h8, .ref h9, .ref h10, .ref h11, .ref h12]), (h4, aQ (k 3) 4 (q4 h17 h18 h19 h20)), (h17, ob 5 [.int h17f0, .int h17f1, .ref h37]), (h18, ob 5 [.int h18f0, .int h18f1, .ref h38]), (h19, ob 5 [.int h19f0, .int h19f1, .ref h39]), (h20, ob 5 [.int h20f0, .int h20f1, .ref h40]), (h37, aJ (k 1) 40 anJ), (h38, aJ (k 1) 40 anJ), (h39, aJ (k 1) 40 anJ), (h40, aJ (k 1) 40 anJ)] H
set_option maxHeartbeats 4000000 in
set_option maxRecDepth 100000 in
theorem cX10_put_cbc11 (l : Launch) (D : va_G) (k : Nat → ClassId) (sz : Nat) (h0 h4 h17 h18 h19 h20 h37 h38 h39 h40 h1 h2 h3 h5 h6 h7 h8 h9 h10 h11 h12 : Nat) (x1 : Int32) (x2 : Int32) (x3 : Int64) (h0f2 : Int32) (h0f6 : Int32) (h0f8 : Int32) (h0f11 : Int32) (h17f0 : Int32) (h17f1 : Int32) (h18f0 : Int32) (h18f1 : Int32) (h19f0 : Int32) (h19f1 : Int32) (h20f0 : Int32) (h20f1 : Int32) (b_h0f2 : 0 ≤ h0f2.toInt ∧ h0f2.toInt ≤ 1) (b_h0f6 : 0 ≤ h0f6.toInt ∧ h0f6.toInt ≤ 1) (b_h0f8 : 0 ≤ h0f8.toInt ∧ h0f8.toInt ≤ 1) (b_h0f11 : 0 ≤ h0f11.toInt ∧ h0f11.toInt ≤ 200) (b_h17f0 : (-1) ≤ h17f0.toInt ∧ h17f0.toInt ≤ 2) (b_h17f1 : 0 ≤ h17f1.toInt ∧ h17f1.toInt ≤ 40) (b_h18f0 : (-1) ≤ h18f0.toInt ∧ h18f0.toInt ≤ 2) (b_h18f1 : 0 ≤ h18f1.toInt ∧ h18f1.toInt ≤ 40) (b_h19f0 : (-1) ≤ h19f0.toInt ∧ h19f0.toInt ≤ 2) (b_h19f1 : 0 ≤ h19f1.toInt ∧ h19f1.toInt ≤ 40) (b_h20f0 : (-1) ≤ h20f0.toInt ∧ h20f0.toInt ≤ 2) (b_h20f1 : 0 ≤ h20f1.toInt ∧ h20f1.toInt ≤ 40) : Met l yX10_put (Cond.code yX10_put cX10_put 6 (some .int) :: uw) Rm_cX10_put_cbc11 (pT D k sz [.ref h0, .int x1, .int x2, .long x3] [(h0, ob 7 [.ref h1, .ref h2, .int h0f2, .ref h3, .ref h4, .ref h5, .int h0f6, .ref h6, .int h0f8, .null, .ref h7, .int h0f11, .ref h8, .ref h9, .ref h10, .ref h11, .ref h12]), (h4, aQ (k 3) 4 (q4 h17 h18 h19 h20)), (h17, ob 5 [.int h17f0, .int h17f1, .ref h37]), (h18, ob 5 [.int h18f0, .int h18f1, .ref h38]), (h19, ob 5 [.int h19f0, .int h19f1, .ref h39]), (h20, ob 5 [.int h20f0, .int h20f1, .ref h40]), (h37, aJ (k 1) 40 anJ), (h38, aJ (k 1) 40 anJ), (h39, aJ (k 1) 40 anJ), (h40, aJ (k 1) 40 anJ)]) (qI (B_cX10_put_cbc11 D k h0 h4 h17 h18 h19 h20 h37 h38 h39 h40 h1 h2 h3 h5 h6 h7 h8 h9 h10 h11 h12 x1 x2 x3 h0f2 h0f6 h0f8 h0f11 h17f0 h17f1 h18f0 h18f1 h19f0 h19f1 h20f0 h20f1 (zA [h0, h4, h17, h18, h19, h20, h37, h38, h39, h40] sz)) (zA [h0, h4, h17, h18, h19, h20, h37, h38, h39, h40] sz)) 0 0 (zA [h0, h4, h17, h18, h19, h20, h37, h38, h39, h40] sz) := by
  refine tz_begin (as := [h0, h4, h17, h18, h19, h20, h37, h38, h39, h40]) (Qc := fun A => qI (B_cX10_put_cbc11 D k h0 h4 h17 h18 h19 h20 h37 h38 h39 h40 h1 h2 h3 h5 h6 h7 h8 h9 h10 h11 h12 x1 x2 x3 h0f2 h0f6 h0f8 h0f11 h17f0 h17f1 h18f0 h18f1 h19f0 h19f1 h20f0 h20f1 A) A) (by decide +kernel) rfl (Nat.le_of_ble_eq_true rfl) ?_
  intro p e s m args below meth c ls A Q hx hb hr hml hown hlocks hin hU hK hT hS hA hl hQ
  have hl : lv_has ls 6 [(0, .ref h0), (1, .int x1), (2, .int x2), (3, .long x3)] := hl
  have hT : TP D A [(h0, ob 7 [.ref h1, .ref h2, .int h0f2, .ref h3, .ref h4, .ref h5, .int h0f6, .ref h6, .int h0f8, .null, .ref h7, .int h0f11, .ref h8, .ref h9, .ref h10, .ref h11, .ref h12]), (h4, aQ (k 3) 4 (q4 h17 h18 h19 h20)), (h17, ob 5 [.int h17f0, .int h17f1, .ref h37]), (h18, ob 5 [.int h18f0, .int h18f1, .ref h38]), (h19, ob 5 [.int h19f0, .int h19f1, .ref h39]), (h20, ob 5 [.int h20f0, .int h20f1, .ref h40]), (h37, aJ (k 1) 40 anJ), (h38, aJ (k 1) 40 anJ), (h39, aJ (k 1) 40 anJ), (h40, aJ (k 1) 40 anJ)] s.heap := hT
  refine lv_iload_n hx hb dX10_put_0 rfl (lv_at hl 1 rfl) ?_
  refine tcI (Tc := []) (Tr := [(h0, ob 7 [.ref h1, .ref h2, .int h0f2, .ref h3, .ref h4, .ref h5, .int h0f6, .ref h6, .int h0f8, .null, .ref h7, .int h0f11, .ref h8, .ref h9, .ref h10, .ref h11, .ref h12]), (h4, aQ (k 3) 4 (q4 h17 h18 h19 h20)), (h17, ob 5 [.int h17f0, .int h17f1, .ref h37]), (h18, ob 5 [.int h18f0, .int h18f1, .ref h38]), (h19, ob 5 [.int h19f0, .int h19f1, .ref h39]), (h20, ob 5 [.int h20f0, .int h20f1, .ref h40]), (h37, aJ (k 1) 40 anJ), (h38, aJ (k 1) 40 anJ), (h39, aJ (k 1) 40 anJ), (h40, aJ (k 1) 40 anJ)]) (as := []) (zcS (As := [.int x1]) (rest := []) (Tc := []) hx hb hml hown hU hK hT [] rfl (by decide) (cX10_isSheet_b539c l D k _ x1) w640 w638 w639 w63 hdX10_isSheet ⟨rfl, rfl⟩ ⟨Nat.le_of_ble_eq_true rfl, Nat.le_of_ble_eq_true rfl⟩ rfl hl.1 (Nat.le_of_ble_eq_true rfl) dX10_put_1 ⟨Nat.le_of_ble_eq_true rfl, Nat.le_of_ble_eq_true rfl⟩) hT hS hA [] [0, 1, 2, 3, 4, 5, 6, 7, 8, 9] rfl rfl rfl (by decide) (by decide) (fun r1 H locs hB J hS => ?_)
  rcases hB with ⟨c_2, rfl, hT1⟩ | ⟨c_3, c_4, rfl, hT1⟩ | ⟨c_5, c_6, rfl, hT1⟩
  · skip
    have hT := J _ hT1
    have hT : TP D A [(h0, ob 7 [.ref h1, .ref h2, .int h0f2, .ref h3, .ref h4, .ref h5, .int h0f6, .ref h6, .int h0f8, .null, .ref h7, .int h0f11, .ref h8, .ref h9, .ref h10, .ref h11, .ref h12]), (h4, aQ (k 3) 4 (q4 h17 h18 h19 h20)), (h17, ob 5 [.int h17f0, .int h17f1, .ref h37]), (h18, ob 5 [.int h18f0, .int h18f1, .ref h38]), (h19, ob 5 [.int h19f0, .int h19f1, .ref h39]), (h20, ob 5 [.int h20f0, .int h20f1, .ref h40]), (h37, aJ (k 1) 40 anJ), (h38, aJ (k 1) 40 anJ), (h39, aJ (k 1) 40 anJ), (h40, aJ (k 1) 40 anJ)] _ := hT
    refine lv_if_ne (tgt := 9) hx hb dX10_put_4 (by decide) (fun cc => absurd (by decide +kernel) cc) (fun _ => ?_)
    refine lv_iconst (v := (-1)) hx hb dX10_put_7 (by decide) ?_
    exact tz_retI (B := B_cX10_put_cbc11 D k h0 h4 h17 h18 h19 h20 h37 h38 h39 h40 h1 h2 h3 h5 h6 h7 h8 h9 h10 h11 h12 x1 x2 x3 h0f2 h0f6 h0f8 h0f11 h17f0 h17f1 h18f0 h18f1 h19f0 h19f1 h20f0 h20f1) (v := (-1)) hQ hx hb hr hlocks hS (Nat.le_of_ble_eq_true rfl) (Nat.le_of_ble_eq_true rfl) dX10_put_8 (⟨(by have := li_m1; omega), (by have := li_m1; simp only [FPi, Frow]; (repeat' split) <;> omega), hT⟩)
  · skip
    have hT := J _ hT1
    have hT : TP D A [(h0, ob 7 [.ref h1, .ref h2, .int h0f2, .ref h3, .ref h4, .ref h5, .int h0f6, .ref h6, .int h0f8, .null, .ref h7, .int h0f11, .ref h8, .ref h9, .ref h10, .ref h11, .ref h12]), (h4, aQ (k 3) 4 (q4 h17 h18 h19 h20)), (h17, ob 5 [.int h17f0, .int h17f1, .ref h37]), (h18, ob 5 [.int h18f0, .int h18f1, .ref h38]), (h19, ob 5 [.int h19f0, .int h19f1, .ref h39]), (h20, ob 5 [.int h20f0, .int h20f1, .ref h40]), (h37, aJ (k 1) 40 anJ), (h38, aJ (k 1) 40 anJ), (h39, aJ (k 1) 40 anJ), (h40, aJ (k 1) 40 anJ)] _ := hT
    refine lv_if_ne (tgt := 9) hx hb dX10_put_4 (by decide) (fun cc => absurd (by decide +kernel) cc) (fun _ => ?_)
    refine lv_iconst (v := (-1)) hx hb dX10_put_7 (by decide) ?_
    exact tz_retI (B := B_cX10_put_cbc11 D k h0 h4 h17 h18 h19 h20 h37 h38 h39 h40 h1 h2 h3 h5 h6 h7 h8 h9 h10 h11 h12 x1 x2 x3 h0f2 h0f6 h0f8 h0f11 h17f0 h17f1 h18f0 h18f1 h19f0 h19f1 h20f0 h20f1) (v := (-1)) hQ hx hb hr hlocks hS (Nat.le_of_ble_eq_true rfl) (Nat.le_of_ble_eq_true rfl) dX10_put_8 (⟨(by have := li_m1; omega), (by have := li_m1; simp only [FPi, Frow]; (repeat' split) <;> omega), hT⟩)
  · skip
    have hT := J _ hT1
    have hT : TP D A [(h0, ob 7 [.ref h1, .ref h2, .int h0f2, .ref h3, .ref h4, .ref h5, .int h0f6, .ref h6, .int h0f8, .null, .ref h7, .int h0f11, .ref h8, .ref h9, .ref h10, .ref h11, .ref h12]), (h4, aQ (k 3) 4 (q4 h17 h18 h19 h20)), (h17, ob 5 [.int h17f0, .int h17f1, .ref h37]), (h18, ob 5 [.int h18f0, .int h18f1, .ref h38]), (h19, ob 5 [.int h19f0, .int h19f1, .ref h39]), (h20, ob 5 [.int h20f0, .int h20f1, .ref h40]), (h37, aJ (k 1) 40 anJ), (h38, aJ (k 1) 40 anJ), (h39, aJ (k 1) 40 anJ), (h40, aJ (k 1) 40 anJ)] _ := hT
    refine lv_if_ne (tgt := 9) hx hb dX10_put_4 (by decide) (fun _ => ?_) (fun cc => absurd cc (by decide +kernel))
    refine lv_aload_n hx hb dX10_put_9 rfl (lv_at hl 0 rfl) ?_
    refine tz_get (ci := 7) (v := .ref h4) (C := RX10) (F := TX10) (N := 17) hx hb hU iX10 hown hK hT 0 rfl rfl 4 (by decide) w253 (fun _ h9 => h9) rfl dX10_put_10 ?_
    refine lv_iload_n hx hb dX10_put_13 rfl (lv_at hl 1 rfl) ?_
    rcases (show x1.toInt = 0 ∨ x1.toInt = 1 ∨ x1.toInt = 2 ∨ x1.toInt = 3 by omega) with hq7 | hq7 | hq7 | hq7
    · skip
      refine tz_aldq (b := h17) hx hb hK hT 1 rfl (vp_in_iff.mpr (by have := hq7; omega)) (fun f hf => by rw [cl_of hq7]; exact hf.1) dX10_put_14 ?_
      refine lv_astore (lv' := [(5, .ref h17), (0, .ref h0), (1, .int x1), (2, .int x2), (3, .long x3)]) hx hb dX10_put_15 hl (by decide) rfl (fun ls hl => ?_)
      refine lv_aload hx hb dX10_put_17 (lv_at hl 0 rfl) ?_
      refine tcI (Tc := [(h17, ob 5 [.int h17f0, .int h17f1, .ref h37])]) (Tr := [(h0, ob 7 [.ref h1, .ref h2, .int h0f2, .ref h3, .ref h4, .ref h5, .int h0f6, .ref h6, .int h0f8, .null, .ref h7, .int h0f11, .ref h8, .ref h9, .ref h10, .ref h11, .ref h12]), (h4, aQ (k 3) 4 (q4 h17 h18 h19 h20)), (h18, ob 5 [.int h18f0, .int h18f1, .ref h38]), (h19, ob 5 [.int h19f0, .int h19f1, .ref h39]), (h20, ob 5 [.int h20f0, .int h20f1, .ref h40]), (h37, aJ (k 1) 40 anJ), (h38, aJ (k 1) 40 anJ), (h39, aJ (k 1) 40 anJ), (h40, aJ (k 1) 40 anJ)]) (as := [h17]) (zcV (q0 := 2) (ci := 5) (As := []) (rest := []) (Tc := [(h17, ob 5 [.int h17f0, .int h17f1, .ref h37])]) hx hb hml hown hU hK hT rfl rfl [2] rfl (by decide) (cX6_isMissing_00176 l D k _ h17 h37 h17f0 h17f1 (by omega) (by omega)) w644 w641 w642 w643 w71 hdX6_isMissing ⟨rfl, rfl⟩ ⟨Nat.le_of_ble_eq_true rfl, Nat.le_of_ble_eq_true rfl⟩ rfl hl.1 (Nat.le_of_ble_eq_true rfl) dX10_put_19 ⟨Nat.le_of_ble_eq_true rfl, Nat.le_of_ble_eq_true rfl⟩) hT hS hA [2] [0, 1, 3, 4, 5, 6, 7, 8, 9] rfl rfl rfl (by decide) (by decide) (fun r8 H locs hB J hS => ?_)
      rcases hB with ⟨c_9, rfl, hT1⟩ | ⟨c_10, rfl, hT1⟩
      · skip
        have hT := J _ hT1
        have hT : TP D A [(h0, ob 7 [.ref h1, .ref h2, .int h0f2, .ref h3, .ref h4, .ref h5, .int h0f6, .ref h6, .int h0f8, .null, .ref h7, .int h0f11, .ref h8, .ref h9, .ref h10, .ref h11, .ref h12]), (h4, aQ (k 3) 4 (q4 h17 h18 h19 h20)), (h18, ob 5 [.int h18f0, .int h18f1, .ref h38]), (h19, ob 5 [.int h19f0, .int h19f1, .ref h39]), (h20, ob 5 [.int h20f0, .int h20f1, .ref h40]), (h37, aJ (k 1) 40 anJ), (h38, aJ (k 1) 40 anJ), (h39, aJ (k 1) 40 anJ), (h40, aJ (k 1) 40 anJ), (h17, ob 5 [.int h17f0, .int h17f1, .ref h37])] _ := hT
        refine lv_if_eq (tgt := 28) hx hb dX10_put_22 (by decide) (fun _ => ?_) (fun cc => absurd (by decide +kernel) cc)
        refine lv_aload hx hb dX10_put_28 (lv_at hl 0 rfl) ?_
        refine lv_iload_n hx hb dX10_put_30 rfl (lv_at hl 3 rfl) ?_
        refine lv_iconst (v := 1) hx hb dX10_put_31 (by decide) ?_
        have q_q12 := li_1
        refine tcI (Tc := [(h17, ob 5 [.int h17f0, .int h17f1, .ref h37])]) (Tr := [(h0, ob 7 [.ref h1, .ref h2, .int h0f2, .ref h3, .ref h4, .ref h5, .int h0f6, .ref h6, .int h0f8, .null, .ref h7, .int h0f11, .ref h8, .ref h9, .ref h10, .ref h11, .ref h12]), (h4, aQ (k 3) 4 (q4 h17 h18 h19 h20)), (h18, ob 5 [.int h18f0, .int h18f1, .ref h38]), (h19, ob 5 [.int h19f0, .int h19f1, .ref h39]), (h20, ob 5 [.int h20f0, .int h20f1, .ref h40]), (h37, aJ (k 1) 40 anJ), (h38, aJ (k 1) 40 anJ), (h39, aJ (k 1) 40 anJ), (h40, aJ (k 1) 40 anJ)]) (as := [h17]) (zcV (q0 := 9) (ci := 5) (As := [.int x2, .int 1]) (rest := []) (Tc := [(h17, ob 5 [.int h17f0, .int h17f1, .ref h37])]) hx hb hml hown hU hK hT rfl rfl [9] rfl (by decide) (cX6_isOutside_6ce95 l D k _ h17 h37 x2 (1) h17f0 h17f1 (by have := li_1; omega) (by omega) (by omega)) w648 w645 w646 w647 w71 hdX6_isOutside ⟨rfl, rfl⟩ ⟨Nat.le_of_ble_eq_true rfl, Nat.le_of_ble_eq_true rfl⟩ rfl hl.1 (Nat.le_of_ble_eq_true rfl) dX10_put_32 ⟨Nat.le_of_ble_eq_true rfl, Nat.le_of_ble_eq_true rfl⟩) hT hS hA [9] [0, 1, 2, 3, 4, 5, 6, 7, 8] rfl rfl rfl (by decide) (by decide) (fun r11 H locs hB J hS => ?_)
        rcases hB with ⟨c_13, c_14, rfl, hT1⟩ | ⟨c_15, c_16, c_17, rfl, hT1⟩ | ⟨c_18, c_19, c_20, rfl, hT1⟩
        · skip
          have hT := J _ hT1
          have hT : TP D A [(h0, ob 7 [.ref h1, .ref h2, .int h0f2, .ref h3, .ref h4, .ref h5, .int h0f6, .ref h6, .int h0f8, .null, .ref h7, .int h0f11, .ref h8, .ref h9, .ref h10, .ref h11, .ref h12]), (h4, aQ (k 3) 4 (q4 h17 h18 h19 h20)), (h18, ob 5 [.int h18f0, .int h18f1, .ref h38]), (h19, ob 5 [.int h19f0, .int h19f1, .ref h39]), (h20, ob 5 [.int h20f0, .int h20f1, .ref h40]), (h37, aJ (k 1) 40 anJ), (h38, aJ (k 1) 40 anJ), (h39, aJ (k 1) 40 anJ), (h40, aJ (k 1) 40 anJ), (h17, ob 5 [.int h17f0, .int h17f1, .ref h37])] _ := hT
          refine lv_if_eq (tgt := 41) hx hb dX10_put_35 (by decide) (fun cc => absurd cc (by decide +kernel)) (fun _ => ?_)
          refine lv_bipush (v := (-12)) hx hb dX10_put_38 (by decide) ?_
          exact tz_retI (B := B_cX10_put_cbc11 D k h0 h4 h17 h18 h19 h20 h37 h38 h39 h40 h1 h2 h3 h5 h6 h7 h8 h9 h10 h11 h12 x1 x2 x3 h0f2 h0f6 h0f8 h0f11 h17f0 h17f1 h18f0 h18f1 h19f0 h19f1 h20f0 h20f1) (v := (-12)) hQ hx hb hr hlocks hS (Nat.le_of_ble_eq_true rfl) (Nat.le_of_ble_eq_true rfl) dX10_put_40 (⟨(by have := li_m12; omega), (by have := li_m12; simp only [FPi, Frow]; (repeat' split) <;> omega), (hT.sub [0, 1, 9, 2, 3, 4, 5, 6, 7, 8] (by decide) rfl)⟩)
        · skip
          have hT := J _ hT1
          have hT : TP D A [(h0, ob 7 [.ref h1, .ref h2, .int h0f2, .ref h3, .ref h4, .ref h5, .int h0f6, .ref h6, .int h0f8, .null, .ref h7, .int h0f11, .ref h8, .ref h9, .ref h10, .ref h11, .ref h12]), (h4, aQ (k 3) 4 (q4 h17 h18 h19 h20)), (h18, ob 5 [.int h18f0, .int h18f1, .ref h38]), (h19, ob 5 [.int h19f0, .int h19f1, .ref h39]), (h20, ob 5 [.int h20f0, .int h20f1, .ref h40]), (h37, aJ (k 1) 40 anJ), (h38, aJ (k 1) 40 anJ), (h39, aJ (k 1) 40 anJ), (h40, aJ (k 1) 40 anJ), (h17, ob 5 [.int h17f0, .int h17f1, .ref h37])] _ := hT
          refine lv_if_eq (tgt := 41) hx hb dX10_put_35 (by decide) (fun _ => ?_) (fun cc => absurd (by decide +kernel) cc)
          refine lv_aload hx hb dX10_put_41 (lv_at hl 0 rfl) ?_
          refine lv_iload_n hx hb dX10_put_43 rfl (lv_at hl 3 rfl) ?_
          refine lv_lload_n hx hb dX10_put_44 rfl (lv_at hl 4 rfl) ?_
          refine tcV (Tc := [(h17, ob 5 [.int h17f0, .int h17f1, .ref h37]), (h37, aJ (k 1) 40 anJ)]) (Tr := [(h0, ob 7 [.ref h1, .ref h2, .int h0f2, .ref h3, .ref h4, .ref h5, .int h0f6, .ref h6, .int h0f8, .null, .ref h7, .int h0f11, .ref h8, .ref h9, .ref h10, .ref h11, .ref h12]), (h4, aQ (k 3) 4 (q4 h17 h18 h19 h20)), (h18, ob 5 [.int h18f0, .int h18f1, .ref h38]), (h19, ob 5 [.int h19f0, .int h19f1, .ref h39]), (h20, ob 5 [.int h20f0, .int h20f1, .ref h40]), (h38, aJ (k 1) 40 anJ), (h39, aJ (k 1) 40 anJ), (h40, aJ (k 1) 40 anJ)]) (as := [h17, h37]) (zcV (q0 := 9) (ci := 5) (As := [.int x2, .long x3]) (rest := []) (Tc := [(h17, ob 5 [.int h17f0, .int h17f1, .ref h37]), (h37, aJ (k 1) 40 anJ)]) hx hb hml hown hU hK hT rfl rfl [9, 5] rfl (by decide) (cX6_write_31564 l D k _ h17 h37 x2 x3 h17f0 h17f1 (by omega) (by omega) (by omega)) w745 w742 w743 w744 w71 hdX6_write ⟨rfl, rfl⟩ ⟨Nat.le_of_ble_eq_true rfl, Nat.le_of_ble_eq_true rfl⟩ rfl hl.1 (Nat.le_of_ble_eq_true rfl) dX10_put_45 ⟨Nat.le_of_ble_eq_true rfl, Nat.le_of_ble_eq_true rfl⟩) hT hS hA [9, 5] [0, 1, 2, 3, 4, 6, 7, 8] rfl rfl rfl (by decide) (by decide) (fun H locs hB J hS => ?_)
          have hT1 := hB
          have hT := J _ hT1
          have hT : TP D A [(h0, ob 7 [.ref h1, .ref h2, .int h0f2, .ref h3, .ref h4, .ref h5, .int h0f6, .ref h6, .int h0f8, .null, .ref h7, .int h0f11, .ref h8, .ref h9, .ref h10, .ref h11, .ref h12]), (h4, aQ (k 3) 4 (q4 h17 h18 h19 h20)), (h18, ob 5 [.int h18f0, .int h18f1, .ref h38]), (h19, ob 5 [.int h19f0, .int h19f1, .ref h39]), (h20, ob 5 [.int h20f0, .int h20f1, .ref h40]), (h38, aJ (k 1) 40 anJ), (h39, aJ (k 1) 40 anJ), (h40, aJ (k 1) 40 anJ), (h17, ob 5 [.int h17f0, .int h17f1, .ref h37]), (h37, aJ (k 1) 40 anJ)] _ := hT
          refine lv_iconst (v := 1) hx hb dX10_put_48 (by decide) ?_
          exact tz_retI (B := B_cX10_put_cbc11 D k h0 h4 h17 h18 h19 h20 h37 h38 h39 h40 h1 h2 h3 h5 h6 h7 h8 h9 h10 h11 h12 x1 x2 x3 h0f2 h0f6 h0f8 h0f11 h17f0 h17f1 h18f0 h18f1 h19f0 h19f1 h20f0 h20f1) (v := 1) hQ hx hb hr hlocks hS (Nat.le_of_ble_eq_true rfl) (Nat.le_of_ble_eq_true rfl) dX10_put_49 (⟨(by have := li_1; omega), (by have := li_1; simp only [FPi, Frow]; (repeat' split) <;> omega), (hT.sub [0, 1, 8, 2, 3, 4, 9, 5, 6, 7] (by decide) rfl)⟩)
        · skip
          have hT := J _ hT1
          have hT : TP D A [(h0, ob 7 [.ref h1, .ref h2, .int h0f2, .ref h3, .ref h4, .ref h5, .int h0f6, .ref h6, .int h0f8, .null, .ref h7, .int h0f11, .ref h8, .ref h9, .ref h10, .ref h11, .ref h12]), (h4, aQ (k 3) 4 (q4 h17 h18 h19 h20)), (h18, ob 5 [.int h18f0, .int h18f1, .ref h38]), (h19, ob 5 [.int h19f0, .int h19f1, .ref h39]), (h20, ob 5 [.int h20f0, .int h20f1, .ref h40]), (h37, aJ (k 1) 40 anJ), (h38, aJ (k 1) 40 anJ), (h39, aJ (k 1) 40 anJ), (h40, aJ (k 1) 40 anJ), (h17, ob 5 [.int h17f0, .int h17f1, .ref h37])] _ := hT
          refine lv_if_eq (tgt := 41) hx hb dX10_put_35 (by decide) (fun cc => absurd cc (by decide +kernel)) (fun _ => ?_)
          refine lv_bipush (v := (-12)) hx hb dX10_put_38 (by decide) ?_
          exact tz_retI (B := B_cX10_put_cbc11 D k h0 h4 h17 h18 h19 h20 h37 h38 h39 h40 h1 h2 h3 h5 h6 h7 h8 h9 h10 h11 h12 x1 x2 x3 h0f2 h0f6 h0f8 h0f11 h17f0 h17f1 h18f0 h18f1 h19f0 h19f1 h20f0 h20f1) (v := (-12)) hQ hx hb hr hlocks hS (Nat.le_of_ble_eq_true rfl) (Nat.le_of_ble_eq_true rfl) dX10_put_40 (⟨(by have := li_m12; omega), (by have := li_m12; simp only [FPi, Frow]; (repeat' split) <;> omega), (hT.sub [0, 1, 9, 2, 3, 4, 5, 6, 7, 8] (by decide) rfl)⟩)
      · skip
        have hT := J _ hT1
        have hT : TP D A [(h0, ob 7 [.ref h1, .ref h2, .int h0f2, .ref h3, .ref h4, .ref h5, .int h0f6, .ref h6, .int h0f8, .null, .ref h7, .int h0f11, .ref h8, .ref h9, .ref h10, .ref h11, .ref h12]), (h4, aQ (k 3) 4 (q4 h17 h18 h19 h20)), (h18, ob 5 [.int h18f0, .int h18f1, .ref h38]), (h19, ob 5 [.int h19f0, .int h19f1, .ref h39]), (h20, ob 5 [.int h20f0, .int h20f1, .ref h40]), (h37, aJ (k 1) 40 anJ), (h38, aJ (k 1) 40 anJ), (h39, aJ (k 1) 40 anJ), (h40, aJ (k 1) 40 anJ), (h17, ob 5 [.int h17f0, .int h17f1, .ref h37])] _ := hT
        refine lv_if_eq (tgt := 28) hx hb dX10_put_22 (by decide) (fun cc => absurd cc (by decide +kernel)) (fun _ => ?_)
        refine lv_bipush (v := (-11)) hx hb dX10_put_25 (by decide) ?_
        exact tz_retI (B := B_cX10_put_cbc11 D k h0 h4 h17 h18 h19 h20 h37 h38 h39 h40 h1 h2 h3 h5 h6 h7 h8 h9 h10 h11 h12 x1 x2 x3 h0f2 h0f6 h0f8 h0f11 h17f0 h17f1 h18f0 h18f1 h19f0 h19f1 h20f0 h20f1) (v := (-11)) hQ hx hb hr hlocks hS (Nat.le_of_ble_eq_true rfl) (Nat.le_of_ble_eq_true rfl) dX10_put_27 (⟨(by have := li_m11; omega), (by have := li_m11; simp only [FPi, Frow]; (repeat' split) <;> omega), (hT.sub [0, 1, 9, 2, 3, 4, 5, 6, 7, 8] (by decide) rfl)⟩)
    · skip
      refine tz_aldq (b := h18) hx hb hK hT 1 rfl (vp_in_iff.mpr (by have := hq7; omega)) (fun f hf => by rw [cl_of hq7]; exact hf.2.1) dX10_put_14 ?_
      refine lv_astore (lv' := [(5, .ref h18), (0, .ref h0), (1, .int x1), (2, .int x2), (3, .long x3)]) hx hb dX10_put_15 hl (by decide) rfl (fun ls hl => ?_)
      refine lv_aload hx hb dX10_put_17 (lv_at hl 0 rfl) ?_
      refine tcI (Tc := [(h18, ob 5 [.int h18f0, .int h18f1, .ref h38])]) (Tr := [(h0, ob 7 [.ref h1, .ref h2, .int h0f2, .ref h3, .ref h4, .ref h5, .int h0f6, .ref h6, .int h0f8, .null, .ref h7, .int h0f11, .ref h8, .ref h9, .ref h10, .ref h11, .ref h12]), (h4, aQ (k 3) 4 (q4 h17 h18 h19 h20)), (h17, ob 5 [.int h17f0, .int h17f1, .ref h37]), (h19, ob 5 [.int h19f0, .int h19f1, .ref h39]), (h20, ob 5 [.int h20f0, .int h20f1, .ref h40]), (h37, aJ (k 1) 40 anJ), (h38, aJ (k 1) 40 anJ), (h39, aJ (k 1) 40 anJ), (h40, aJ (k 1) 40 anJ)]) (as := [h18]) (zcV (q0 := 3) (ci := 5) (As := []) (rest := []) (Tc := [(h18, ob 5 [.int h18f0, .int h18f1, .ref h38])]) hx hb hml hown hU hK hT rfl rfl [3] rfl (by decide) (cX6_isMissing_00176 l D k _ h18 h38 h18f0 h18f1 (by omega) (by omega)) w644 w641 w642 w643 w71 hdX6_isMissing ⟨rfl, rfl⟩ ⟨Nat.le_of_ble_eq_true rfl, Nat.le_of_ble_eq_true rfl⟩ rfl hl.1 (Nat.le_of_ble_eq_true rfl) dX10_put_19 ⟨Nat.le_of_ble_eq_true rfl, Nat.le_of_ble_eq_true rfl⟩) hT hS hA [3] [0, 1, 2, 4, 5, 6, 7, 8, 9] rfl rfl rfl (by decide) (by decide) (fun r22 H locs hB J hS => ?_)
      rcases hB with ⟨c_23, rfl, hT1⟩ | ⟨c_24, rfl, hT1⟩
      · skip
        have hT := J _ hT1
        have hT : TP D A [(h0, ob 7 [.ref h1, .ref h2, .int h0f2, .ref h3, .ref h4, .ref h5, .int h0f6, .ref h6, .int h0f8, .null, .ref h7, .int h0f11, .ref h8, .ref h9, .ref h10, .ref h11, .ref h12]), (h4, aQ (k 3) 4 (q4 h17 h18 h19 h20)), (h17, ob 5 [.int h17f0, .int h17f1, .ref h37]), (h19, ob 5 [.int h19f0, .int h19f1, .ref h39]), (h20, ob 5 [.int h20f0, .int h20f1, .ref h40]), (h37, aJ (k 1) 40 anJ), (h38, aJ (k 1) 40 anJ), (h39, aJ (k 1) 40 anJ), (h40, aJ (k 1) 40 anJ), (h18, ob 5 [.int h18f0, .int h18f1, .ref h38])] _ := hT
        refine lv_if_eq (tgt := 28) hx hb dX10_put_22 (by decide) (fun _ => ?_) (fun cc => absurd (by decide +kernel) cc)
        refine lv_aload hx hb dX10_put_28 (lv_at hl 0 rfl) ?_
        refine lv_iload_n hx hb dX10_put_30 rfl (lv_at hl 3 rfl) ?_
        refine lv_iconst (v := 1) hx hb dX10_put_31 (by decide) ?_
        have q_q26 := li_1
        refine tcI (Tc := [(h18, ob 5 [.int h18f0, .int h18f1, .ref h38])]) (Tr := [(h0, ob 7 [.ref h1, .ref h2, .int h0f2, .ref h3, .ref h4, .ref h5, .int h0f6, .ref h6, .int h0f8, .null, .ref h7, .int h0f11, .ref h8, .ref h9, .ref h10, .ref h11, .ref h12]), (h4, aQ (k 3) 4 (q4 h17 h18 h19 h20)), (h17, ob 5 [.int h17f0, .int h17f1, .ref h37]), (h19, ob 5 [.int h19f0, .int h19f1, .ref h39]), (h20, ob 5 [.int h20f0, .int h20f1, .ref h40]), (h37, aJ (k 1) 40 anJ), (h38, aJ (k 1) 40 anJ), (h39, aJ (k 1) 40 anJ), (h40, aJ (k 1) 40 anJ)]) (as := [h18]) (zcV (q0 := 9) (ci := 5) (As := [.int x2, .int 1]) (rest := []) (Tc := [(h18, ob 5 [.int h18f0, .int h18f1, .ref h38])]) hx hb hml hown hU hK hT rfl rfl [9] rfl (by decide) (cX6_isOutside_6ce95 l D k _ h18 h38 x2 (1) h18f0 h18f1 (by have := li_1; omega) (by omega) (by omega)) w648 w645 w646 w647 w71 hdX6_isOutside ⟨rfl, rfl⟩ ⟨Nat.le_of_ble_eq_true rfl, Nat.le_of_ble_eq_true rfl⟩ rfl hl.1 (Nat.le_of_ble_eq_true rfl) dX10_put_32 ⟨Nat.le_of_ble_eq_true rfl, Nat.le_of_ble_eq_true rfl⟩) hT hS hA [9] [0, 1, 2, 3, 4, 5, 6, 7, 8] rfl rfl rfl (by decide) (by decide) (fun r25 H locs hB J hS => ?_)
        rcases hB with ⟨c_27, c_28, rfl, hT1⟩ | ⟨c_29, c_30, c_31, rfl, hT1⟩ | ⟨c_32, c_33, c_34, rfl, hT1⟩
        · skip
          have hT := J _ hT1
          have hT : TP D A [(h0, ob 7 [.ref h1, .ref h2, .int h0f2, .ref h3, .ref h4, .ref h5, .int h0f6, .ref h6, .int h0f8, .null, .ref h7, .int h0f11, .ref h8, .ref h9, .ref h10, .ref h11, .ref h12]), (h4, aQ (k 3) 4 (q4 h17 h18 h19 h20)), (h17, ob 5 [.int h17f0, .int h17f1, .ref h37]), (h19, ob 5 [.int h19f0, .int h19f1, .ref h39]), (h20, ob 5 [.int h20f0, .int h20f1, .ref h40]), (h37, aJ (k 1) 40 anJ), (h38, aJ (k 1) 40 anJ), (h39, aJ (k 1) 40 anJ), (h40, aJ (k 1) 40 anJ), (h18, ob 5 [.int h18f0, .int h18f1, .ref h38])] _ := hT
          refine lv_if_eq (tgt := 41) hx hb dX10_put_35 (by decide) (fun cc => absurd cc (by decide +kernel)) (fun _ => ?_)
          refine lv_bipush (v := (-12)) hx hb dX10_put_38 (by decide) ?_
          exact tz_retI (B := B_cX10_put_cbc11 D k h0 h4 h17 h18 h19 h20 h37 h38 h39 h40 h1 h2 h3 h5 h6 h7 h8 h9 h10 h11 h12 x1 x2 x3 h0f2 h0f6 h0f8 h0f11 h17f0 h17f1 h18f0 h18f1 h19f0 h19f1 h20f0 h20f1) (v := (-12)) hQ hx hb hr hlocks hS (Nat.le_of_ble_eq_true rfl) (Nat.le_of_ble_eq_true rfl) dX10_put_40 (⟨(by have := li_m12; omega), (by have := li_m12; simp only [FPi, Frow]; (repeat' split) <;> omega), (hT.sub [0, 1, 2, 9, 3, 4, 5, 6, 7, 8] (by decide) rfl)⟩)
        · skip
          have hT := J _ hT1
          have hT : TP D A [(h0, ob 7 [.ref h1, .ref h2, .int h0f2, .ref h3, .ref h4, .ref h5, .int h0f6, .ref h6, .int h0f8, .null, .ref h7, .int h0f11, .ref h8, .ref h9, .ref h10, .ref h11, .ref h12]), (h4, aQ (k 3) 4 (q4 h17 h18 h19 h20)), (h17, ob 5 [.int h17f0, .int h17f1, .ref h37]), (h19, ob 5 [.int h19f0, .int h19f1, .ref h39]), (h20, ob 5 [.int h20f0, .int h20f1, .ref h40]), (h37, aJ (k 1) 40 anJ), (h38, aJ (k 1) 40 anJ), (h39, aJ (k 1) 40 anJ), (h40, aJ (k 1) 40 anJ), (h18, ob 5 [.int h18f0, .int h18f1, .ref h38])] _ := hT
          refine lv_if_eq (tgt := 41) hx hb dX10_put_35 (by decide) (fun _ => ?_) (fun cc => absurd (by decide +kernel) cc)
          refine lv_aload hx hb dX10_put_41 (lv_at hl 0 rfl) ?_
          refine lv_iload_n hx hb dX10_put_43 rfl (lv_at hl 3 rfl) ?_
          refine lv_lload_n hx hb dX10_put_44 rfl (lv_at hl 4 rfl) ?_
          refine tcV (Tc := [(h18, ob 5 [.int h18f0, .int h18f1, .ref h38]), (h38, aJ (k 1) 40 anJ)]) (Tr := [(h0, ob 7 [.ref h1, .ref h2, .int h0f2, .ref h3, .ref h4, .ref h5, .int h0f6, .ref h6, .int h0f8, .null, .ref h7, .int h0f11, .ref h8, .ref h9, .ref h10, .ref h11, .ref h12]), (h4, aQ (k 3) 4 (q4 h17 h18 h19 h20)), (h17, ob 5 [.int h17f0, .int h17f1, .ref h37]), (h19, ob 5 [.int h19f0, .int h19f1, .ref h39]), (h20, ob 5 [.int h20f0, .int h20f1, .ref h40]), (h37, aJ (k 1) 40 anJ), (h39, aJ (k 1) 40 anJ), (h40, aJ (k 1) 40 anJ)]) (as := [h18, h38]) (zcV (q0 := 9) (ci := 5) (As := [.int x2, .long x3]) (rest := []) (Tc := [(h18, ob 5 [.int h18f0, .int h18f1, .ref h38]), (h38, aJ (k 1) 40 anJ)]) hx hb hml hown hU hK hT rfl rfl [9, 6] rfl (by decide) (cX6_write_31564 l D k _ h18 h38 x2 x3 h18f0 h18f1 (by omega) (by omega) (by omega)) w745 w742 w743 w744 w71 hdX6_write ⟨rfl, rfl⟩ ⟨Nat.le_of_ble_eq_true rfl, Nat.le_of_ble_eq_true rfl⟩ rfl hl.1 (Nat.le_of_ble_eq_true rfl) dX10_put_45 ⟨Nat.le_of_ble_eq_true rfl, Nat.le_of_ble_eq_true rfl⟩) hT hS hA [9, 6] [0, 1, 2, 3, 4, 5, 7, 8] rfl rfl rfl (by decide) (by decide) (fun H locs hB J hS => ?_)
          have hT1 := hB
          have hT := J _ hT1
          have hT : TP D A [(h0, ob 7 [.ref h1, .ref h2, .int h0f2, .ref h3, .ref h4, .ref h5, .int h0f6, .ref h6, .int h0f8, .null, .ref h7, .int h0f11, .ref h8, .ref h9, .ref h10, .ref h11, .ref h12]), (h4, aQ (k 3) 4 (q4 h17 h18 h19 h20)), (h17, ob 5 [.int h17f0, .int h17f1, .ref h37]), (h19, ob 5 [.int h19f0, .int h19f1, .ref h39]), (h20, ob 5 [.int h20f0, .int h20f1, .ref h40]), (h37, aJ (k 1) 40 anJ), (h39, aJ (k 1) 40 anJ), (h40, aJ (k 1) 40 anJ), (h18, ob 5 [.int h18f0, .int h18f1, .ref h38]), (h38, aJ (k 1) 40 anJ)] _ := hT
          refine lv_iconst (v := 1) hx hb dX10_put_48 (by decide) ?_
          exact tz_retI (B := B_cX10_put_cbc11 D k h0 h4 h17 h18 h19 h20 h37 h38 h39 h40 h1 h2 h3 h5 h6 h7 h8 h9 h10 h11 h12 x1 x2 x3 h0f2 h0f6 h0f8 h0f11 h17f0 h17f1 h18f0 h18f1 h19f0 h19f1 h20f0 h20f1) (v := 1) hQ hx hb hr hlocks hS (Nat.le_of_ble_eq_true rfl) (Nat.le_of_ble_eq_true rfl) dX10_put_49 (⟨(by have := li_1; omega), (by have := li_1; simp only [FPi, Frow]; (repeat' split) <;> omega), (hT.sub [0, 1, 2, 8, 3, 4, 5, 9, 6, 7] (by decide) rfl)⟩)
        · skip
          have hT := J _ hT1
          have hT : TP D A [(h0, ob 7 [.ref h1, .ref h2, .int h0f2, .ref h3, .ref h4, .ref h5, .int h0f6, .ref h6, .int h0f8, .null, .ref h7, .int h0f11, .ref h8, .ref h9, .ref h10, .ref h11, .ref h12]), (h4, aQ (k 3) 4 (q4 h17 h18 h19 h20)), (h17, ob 5 [.int h17f0, .int h17f1, .ref h37]), (h19, ob 5 [.int h19f0, .int h19f1, .ref h39]), (h20, ob 5 [.int h20f0, .int h20f1, .ref h40]), (h37, aJ (k 1) 40 anJ), (h38, aJ (k 1) 40 anJ), (h39, aJ (k 1) 40 anJ), (h40, aJ (k 1) 40 anJ), (h18, ob 5 [.int h18f0, .int h18f1, .ref h38])] _ := hT
          refine lv_if_eq (tgt := 41) hx hb dX10_put_35 (by decide) (fun cc => absurd cc (by decide +kernel)) (fun _ => ?_)
          refine lv_bipush (v := (-12)) hx hb dX10_put_38 (by decide) ?_
          exact tz_retI (B := B_cX10_put_cbc11 D k h0 h4 h17 h18 h19 h20 h37 h38 h39 h40 h1 h2 h3 h5 h6 h7 h8 h9 h10 h11 h12 x1 x2 x3 h0f2 h0f6 h0f8 h0f11 h17f0 h17f1 h18f0 h18f1 h19f0 h19f1 h20f0 h20f1) (v := (-12)) hQ hx hb hr hlocks hS (Nat.le_of_ble_eq_true rfl) (Nat.le_of_ble_eq_true rfl) dX10_put_40 (⟨(by have := li_m12; omega), (by have := li_m12; simp only [FPi, Frow]; (repeat' split) <;> omega), (hT.sub [0, 1, 2, 9, 3, 4, 5, 6, 7, 8] (by decide) rfl)⟩)
      · skip
        have hT := J _ hT1
        have hT : TP D A [(h0, ob 7 [.ref h1, .ref h2, .int h0f2, .ref h3, .ref h4, .ref h5, .int h0f6, .ref h6, .int h0f8, .null, .ref h7, .int h0f11, .ref h8, .ref h9, .ref h10, .ref h11, .ref h12]), (h4, aQ (k 3) 4 (q4 h17 h18 h19 h20)), (h17, ob 5 [.int h17f0, .int h17f1, .ref h37]), (h19, ob 5 [.int h19f0, .int h19f1, .ref h39]), (h20, ob 5 [.int h20f0, .int h20f1, .ref h40]), (h37, aJ (k 1) 40 anJ), (h38, aJ (k 1) 40 anJ), (h39, aJ (k 1) 40 anJ), (h40, aJ (k 1) 40 anJ), (h18, ob 5 [.int h18f0, .int h18f1, .ref h38])] _ := hT
        refine lv_if_eq (tgt := 28) hx hb dX10_put_22 (by decide) (fun cc => absurd cc (by decide +kernel)) (fun _ => ?_)
        refine lv_bipush (v := (-11)) hx hb dX10_put_25 (by decide) ?_
        exact tz_retI (B := B_cX10_put_cbc11 D k h0 h4 h17 h18 h19 h20 h37 h38 h39 h40 h1 h2 h3 h5 h6 h7 h8 h9 h10 h11 h12 x1 x2 x3 h0f2 h0f6 h0f8 h0f11 h17f0 h17f1 h18f0 h18f1 h19f0 h19f1 h20f0 h20f1) (v := (-11)) hQ hx hb hr hlocks hS (Nat.le_of_ble_eq_true rfl) (Nat.le_of_ble_eq_true rfl) dX10_put_27 (⟨(by have := li_m11; omega), (by have := li_m11; simp only [FPi, Frow]; (repeat' split) <;> omega), (hT.sub [0, 1, 2, 9, 3, 4, 5, 6, 7, 8] (by decide) rfl)⟩)
    · skip
      refine tz_aldq (b := h19) hx hb hK hT 1 rfl (vp_in_iff.mpr (by have := hq7; omega)) (fun f hf => by rw [cl_of hq7]; exact hf.2.2.1) dX10_put_14 ?_
      refine lv_astore (lv' := [(5, .ref h19), (0, .ref h0), (1, .int x1), (2, .int x2), (3, .long x3)]) hx hb dX10_put_15 hl (by decide) rfl (fun ls hl => ?_)
      refine lv_aload hx hb dX10_put_17 (lv_at hl 0 rfl) ?_
      refine tcI (Tc := [(h19, ob 5 [.int h19f0, .int h19f1, .ref h39])]) (Tr := [(h0, ob 7 [.ref h1, .ref h2, .int h0f2, .ref h3, .ref h4, .ref h5, .int h0f6, .ref h6, .int h0f8, .null, .ref h7, .int h0f11, .ref h8, .ref h9, .ref h10, .ref h11, .ref h12]), (h4, aQ (k 3) 4 (q4 h17 h18 h19 h20)), (h17, ob 5 [.int h17f0, .int h17f1, .ref h37]), (h18, ob 5 [.int h18f0, .int h18f1, .ref h38]), (h20, ob 5 [.int h20f0, .int h20f1, .ref h40]), (h37, aJ (k 1) 40 anJ), (h38, aJ (k 1) 40 anJ), (h39, aJ (k 1) 40 anJ), (h40, aJ (k 1) 40 anJ)]) (as := [h19]) (zcV (q0 := 4) (ci := 5) (As := []) (rest := []) (Tc := [(h19, ob 5 [.int h19f0, .int h19f1, .ref h39])]) hx hb hml hown hU hK hT rfl rfl [4] rfl (by decide) (cX6_isMissing_00176 l D k _ h19 h39 h19f0 h19f1 (by omega) (by omega)) w644 w641 w642 w643 w71 hdX6_isMissing ⟨rfl, rfl⟩ ⟨Nat.le_of_ble_eq_true rfl, Nat.le_of_ble_eq_true rfl⟩ rfl hl.1 (Nat.le_of_ble_eq_true rfl) dX10_put_19 ⟨Nat.le_of_ble_eq_true rfl, Nat.le_of_ble_eq_true rfl⟩) hT hS hA [4] [0, 1, 2, 3, 5, 6, 7, 8, 9] rfl rfl rfl (by decide) (by decide) (fun r36 H locs hB J hS => ?_)
      rcases hB with ⟨c_37, rfl, hT1⟩ | ⟨c_38, rfl, hT1⟩
      · skip
        have hT := J _ hT1
        have hT : TP D A [(h0, ob 7 [.ref h1, .ref h2, .int h0f2, .ref h3, .ref h4, .ref h5, .int h0f6, .ref h6, .int h0f8, .null, .ref h7, .int h0f11, .ref h8, .ref h9, .ref h10, .ref h11, .ref h12]), (h4, aQ (k 3) 4 (q4 h17 h18 h19 h20)), (h17, ob 5 [.int h17f0, .int h17f1, .ref h37]), (h18, ob 5 [.int h18f0, .int h18f1, .ref h38]), (h20, ob 5 [.int h20f0, .int h20f1, .ref h40]), (h37, aJ (k 1) 40 anJ), (h38, aJ (k 1) 40 anJ), (h39, aJ (k 1) 40 anJ), (h40, aJ (k 1) 40 anJ), (h19, ob 5 [.int h19f0, .int h19f1, .ref h39])] _ := hT
        refine lv_if_eq (tgt := 28) hx hb dX10_put_22 (by decide) (fun _ => ?_) (fun cc => absurd (by decide +kernel) cc)
        refine lv_aload hx hb dX10_put_28 (lv_at hl 0 rfl) ?_
        refine lv_iload_n hx hb dX10_put_30 rfl (lv_at hl 3 rfl) ?_
        refine lv_iconst (v := 1) hx hb dX10_put_31 (by decide) ?_
        have q_q40 := li_1
        refine tcI (Tc := [(h19, ob 5 [.int h19f0, .int h19f1, .ref h39])]) (Tr := [(h0, ob 7 [.ref h1, .ref h2, .int h0f2, .ref h3, .ref h4, .ref h5, .int h0f6, .ref h6, .int h0f8, .null, .ref h7, .int h0f11, .ref h8, .ref h9, .ref h10, .ref h11, .ref h12]), (h4, aQ (k 3) 4 (q4 h17 h18 h19 h20)), (h17, ob 5 [.int h17f0, .int h17f1, .ref h37]), (h18, ob 5 [.int h18f0, .int h18f1, .ref h38]), (h20, ob 5 [.int h20f0, .int h20f1, .ref h40]), (h37, aJ (k 1) 40 anJ), (h38, aJ (k 1) 40 anJ), (h39, aJ (k 1) 40 anJ), (h40, aJ (k 1) 40 anJ)]) (as := [h19]) (zcV (q0 := 9) (ci := 5) (As := [.int x2, .int 1]) (rest := []) (Tc := [(h19, ob 5 [.int h19f0, .int h19f1, .ref h39])]) hx hb hml hown hU hK hT rfl rfl [9] rfl (by decide) (cX6_isOutside_6ce95 l D k _ h19 h39 x2 (1) h19f0 h19f1 (by have := li_1; omega) (by omega) (by omega)) w648 w645 w646 w647 w71 hdX6_isOutside ⟨rfl, rfl⟩ ⟨Nat.le_of_ble_eq_true rfl, Nat.le_of_ble_eq_true rfl⟩ rfl hl.1 (Nat.le_of_ble_eq_true rfl) dX10_put_32 ⟨Nat.le_of_ble_eq_true rfl, Nat.le_of_ble_eq_true rfl⟩) hT hS hA [9] [0, 1, 2, 3, 4, 5, 6, 7, 8] rfl rfl rfl (by decide) (by decide) (fun r39 H locs hB J hS => ?_)
        rcases hB with ⟨c_41, c_42, rfl, hT1⟩ | ⟨c_43, c_44, c_45, rfl, hT1⟩ | ⟨c_46, c_47, c_48, rfl, hT1⟩
        · skip
          have hT := J _ hT1
          have hT : TP D A [(h0, ob 7 [.ref h1, .ref h2, .int h0f2, .ref h3, .ref h4, .ref h5, .int h0f6, .ref h6, .int h0f8, .null, .ref h7, .int h0f11, .ref h8, .ref h9, .ref h10, .ref h11, .ref h12]), (h4, aQ (k 3) 4 (q4 h17 h18 h19 h20)), (h17, ob 5 [.int h17f0, .int h17f1, .ref h37]), (h18, ob 5 [.int h18f0, .int h18f1, .ref h38]), (h20, ob 5 [.int h20f0, .int h20f1, .ref h40]), (h37, aJ (k 1) 40 anJ), (h38, aJ (k 1) 40 anJ), (h39, aJ (k 1) 40 anJ), (h40, aJ (k 1) 40 anJ), (h19, ob 5 [.int h19f0, .int h19f1, .ref h39])] _ := hT
          refine lv_if_eq (tgt := 41) hx hb dX10_put_35 (by decide) (fun cc => absurd cc (by decide +kernel)) (fun _ => ?_)
          refine lv_bipush (v := (-12)) hx hb dX10_put_38 (by decide) ?_
          exact tz_retI (B := B_cX10_put_cbc11 D k h0 h4 h17 h18 h19 h20 h37 h38 h39 h40 h1 h2 h3 h5 h6 h7 h8 h9 h10 h11 h12 x1 x2 x3 h0f2 h0f6 h0f8 h0f11 h17f0 h17f1 h18f0 h18f1 h19f0 h19f1 h20f0 h20f1) (v := (-12)) hQ hx hb hr hlocks hS (Nat.le_of_ble_eq_true rfl) (Nat.le_of_ble_eq_true rfl) dX10_put_40 (⟨(by have := li_m12; omega), (by have := li_m12; simp only [FPi, Frow]; (repeat' split) <;> omega), (hT.sub [0, 1, 2, 3, 9, 4, 5, 6, 7, 8] (by decide) rfl)⟩)
        · skip
          have hT := J _ hT1
          have hT : TP D A [(h0, ob 7 [.ref h1, .ref h2, .int h0f2, .ref h3, .ref h4, .ref h5, .int h0f6, .ref h6, .int h0f8, .null, .ref h7, .int h0f11, .ref h8, .ref h9, .ref h10, .ref h11, .ref h12]), (h4, aQ (k 3) 4 (q4 h17 h18 h19 h20)), (h17, ob 5 [.int h17f0, .int h17f1, .ref h37]), (h18, ob 5 [.int h18f0, .int h18f1, .ref h38]), (h20, ob 5 [.int h20f0, .int h20f1, .ref h40]), (h37, aJ (k 1) 40 anJ), (h38, aJ (k 1) 40 anJ), (h39, aJ (k 1) 40 anJ), (h40, aJ (k 1) 40 anJ), (h19, ob 5 [.int h19f0, .int h19f1, .ref h39])] _ := hT
          refine lv_if_eq (tgt := 41) hx hb dX10_put_35 (by decide) (fun _ => ?_) (fun cc => absurd (by decide +kernel) cc)
          refine lv_aload hx hb dX10_put_41 (lv_at hl 0 rfl) ?_
          refine lv_iload_n hx hb dX10_put_43 rfl (lv_at hl 3 rfl) ?_
          refine lv_lload_n hx hb dX10_put_44 rfl (lv_at hl 4 rfl) ?_
          refine tcV (Tc := [(h19, ob 5 [.int h19f0, .int h19f1, .ref h39]), (h39, aJ (k 1) 40 anJ)]) (Tr := [(h0, ob 7 [.ref h1, .ref h2, .int h0f2, .ref h3, .ref h4, .ref h5, .int h0f6, .ref h6, .int h0f8, .null, .ref h7, .int h0f11, .ref h8, .ref h9, .ref h10, .ref h11, .ref h12]), (h4, aQ (k 3) 4 (q4 h17 h18 h19 h20)), (h17, ob 5 [.int h17f0, .int h17f1, .ref h37]), (h18, ob 5 [.int h18f0, .int h18f1, .ref h38]), (h20, ob 5 [.int h20f0, .int h20f1, .ref h40]), (h37, aJ (k 1) 40 anJ), (h38, aJ (k 1) 40 anJ), (h40, aJ (k 1) 40 anJ)]) (as := [h19, h39]) (zcV (q0 := 9) (ci := 5) (As := [.int x2, .long x3]) (rest := []) (Tc := [(h19, ob 5 [.int h19f0, .int h19f1, .ref h39]), (h39, aJ (k 1) 40 anJ)]) hx hb hml hown hU hK hT rfl rfl [9, 7] rfl (by decide) (cX6_write_31564 l D k _ h19 h39 x2 x3 h19f0 h19f1 (by omega) (by omega) (by omega)) w745 w742 w743 w744 w71 hdX6_write ⟨rfl, rfl⟩ ⟨Nat.le_of_ble_eq_true rfl, Nat.le_of_ble_eq_true rfl⟩ rfl hl.1 (Nat.le_of_ble_eq_true rfl) dX10_put_45 ⟨Nat.le_of_ble_eq_true rfl, Nat.le_of_ble_eq_true rfl⟩) hT hS hA [9, 7] [0, 1, 2, 3, 4, 5, 6, 8] rfl rfl rfl (by decide) (by decide) (fun H locs hB J hS => ?_)
          have hT1 := hB
          have hT := J _ hT1
          have hT : TP D A [(h0, ob 7 [.ref h1, .ref h2, .int h0f2, .ref h3, .ref h4, .ref h5, .int h0f6, .ref h6, .int h0f8, .null, .ref h7, .int h0f11, .ref h8, .ref h9, .ref h10, .ref h11, .ref h12]), (h4, aQ (k 3) 4 (q4 h17 h18 h19 h20)), (h17, ob 5 [.int h17f0, .int h17f1, .ref h37]), (h18, ob 5 [.int h18f0, .int h18f1, .ref h38]), (h20, ob 5 [.int h20f0, .int h20f1, .ref h40]), (h37, aJ (k 1) 40 anJ), (h38, aJ (k 1) 40 anJ), (h40, aJ (k 1) 40 anJ), (h19, ob 5 [.int h19f0, .int h19f1, .ref h39]), (h39, aJ (k 1) 40 anJ)] _ := hT
          refine lv_iconst (v := 1) hx hb dX10_put_48 (by decide) ?_
          exact tz_retI (B := B_cX10_put_cbc11 D k h0 h4 h17 h18 h19 h20 h37 h38 h39 h40 h1 h2 h3 h5 h6 h7 h8 h9 h10 h11 h12 x1 x2 x3 h0f2 h0f6 h0f8 h0f11 h17f0 h17f1 h18f0 h18f1 h19f0 h19f1 h20f0 h20f1) (v := 1) hQ hx hb hr hlocks hS (Nat.le_of_ble_eq_true rfl) (Nat.le_of_ble_eq_true rfl) dX10_put_49 (⟨(by have := li_1; omega), (by have := li_1; simp only [FPi, Frow]; (repeat' split) <;> omega), (hT.sub [0, 1, 2, 3, 8, 4, 5, 6, 9, 7] (by decide) rfl)⟩)
        · skip
          have hT := J _ hT1
          have hT : TP D A [(h0, ob 7 [.ref h1, .ref h2, .int h0f2, .ref h3, .ref h4, .ref h5, .int h0f6, .ref h6, .int h0f8, .null, .ref h7, .int h0f11, .ref h8, .ref h9, .ref h10, .ref h11, .ref h12]), (h4, aQ (k 3) 4 (q4 h17 h18 h19 h20)), (h17, ob 5 [.int h17f0, .int h17f1, .ref h37]), (h18, ob 5 [.int h18f0, .int h18f1, .ref h38]), (h20, ob 5 [.int h20f0, .int h20f1, .ref h40]), (h37, aJ (k 1) 40 anJ), (h38, aJ (k 1) 40 anJ), (h39, aJ (k 1) 40 anJ), (h40, aJ (k 1) 40 anJ), (h19, ob 5 [.int h19f0, .int h19f1, .ref h39])] _ := hT
          refine lv_if_eq (tgt := 41) hx hb dX10_put_35 (by decide) (fun cc => absurd cc (by decide +kernel)) (fun _ => ?_)
          refine lv_bipush (v := (-12)) hx hb dX10_put_38 (by decide) ?_
          exact tz_retI (B := B_cX10_put_cbc11 D k h0 h4 h17 h18 h19 h20 h37 h38 h39 h40 h1 h2 h3 h5 h6 h7 h8 h9 h10 h11 h12 x1 x2 x3 h0f2 h0f6 h0f8 h0f11 h17f0 h17f1 h18f0 h18f1 h19f0 h19f1 h20f0 h20f1) (v := (-12)) hQ hx hb hr hlocks hS (Nat.le_of_ble_eq_true rfl) (Nat.le_of_ble_eq_true rfl) dX10_put_40 (⟨(by have := li_m12; omega), (by have := li_m12; simp only [FPi, Frow]; (repeat' split) <;> omega), (hT.sub [0, 1, 2, 3, 9, 4, 5, 6, 7, 8] (by decide) rfl)⟩)
      · skip
        have hT := J _ hT1
        have hT : TP D A [(h0, ob 7 [.ref h1, .ref h2, .int h0f2, .ref h3, .ref h4, .ref h5, .int h0f6, .ref h6, .int h0f8, .null, .ref h7, .int h0f11, .ref h8, .ref h9, .ref h10, .ref h11, .ref h12]), (h4, aQ (k 3) 4 (q4 h17 h18 h19 h20)), (h17, ob 5 [.int h17f0, .int h17f1, .ref h37]), (h18, ob 5 [.int h18f0, .int h18f1, .ref h38]), (h20, ob 5 [.int h20f0, .int h20f1, .ref h40]), (h37, aJ (k 1) 40 anJ), (h38, aJ (k 1) 40 anJ), (h39, aJ (k 1) 40 anJ), (h40, aJ (k 1) 40 anJ), (h19, ob 5 [.int h19f0, .int h19f1, .ref h39])] _ := hT
        refine lv_if_eq (tgt := 28) hx hb dX10_put_22 (by decide) (fun cc => absurd cc (by decide +kernel)) (fun _ => ?_)
        refine lv_bipush (v := (-11)) hx hb dX10_put_25 (by decide) ?_
        exact tz_retI (B := B_cX10_put_cbc11 D k h0 h4 h17 h18 h19 h20 h37 h38 h39 h40 h1 h2 h3 h5 h6 h7 h8 h9 h10 h11 h12 x1 x2 x3 h0f2 h0f6 h0f8 h0f11 h17f0 h17f1 h18f0 h18f1 h19f0 h19f1 h20f0 h20f1) (v := (-11)) hQ hx hb hr hlocks hS (Nat.le_of_ble_eq_true rfl) (Nat.le_of_ble_eq_true rfl) dX10_put_27 (⟨(by have := li_m11; omega), (by have := li_m11; simp only [FPi, Frow]; (repeat' split) <;> omega), (hT.sub [0, 1, 2, 3, 9, 4, 5, 6, 7, 8] (by decide) rfl)⟩)
    · skip
      refine tz_aldq (b := h20) hx hb hK hT 1 rfl (vp_in_iff.mpr (by have := hq7; omega)) (fun f hf => by rw [cl_of hq7]; exact hf.2.2.2) dX10_put_14 ?_
      refine lv_astore (lv' := [(5, .ref h20), (0, .ref h0), (1, .int x1), (2, .int x2), (3, .long x3)]) hx hb dX10_put_15 hl (by decide) rfl (fun ls hl => ?_)
      refine lv_aload hx hb dX10_put_17 (lv_at hl 0 rfl) ?_
      refine tcI (Tc := [(h20, ob 5 [.int h20f0, .int h20f1, .ref h40])]) (Tr := [(h0, ob 7 [.ref h1, .ref h2, .int h0f2, .ref h3, .ref h4, .ref h5, .int h0f6, .ref h6, .int h0f8, .null, .ref h7, .int h0f11, .ref h8, .ref h9, .ref h10, .ref h11, .ref h12]), (h4, aQ (k 3) 4 (q4 h17 h18 h19 h20)), (h17, ob 5 [.int h17f0, .int h17f1, .ref h37]), (h18, ob 5 [.int h18f0, .int h18f1, .ref h38]), (h19, ob 5 [.int h19f0, .int h19f1, .ref h39]), (h37, aJ (k 1) 40 anJ), (h38, aJ (k 1) 40 anJ), (h39, aJ (k 1) 40 anJ), (h40, aJ (k 1) 40 anJ)]) (as := [h20]) (zcV (q0 := 5) (ci := 5) (As := []) (rest := []) (Tc := [(h20, ob 5 [.int h20f0, .int h20f1, .ref h40])]) hx hb hml hown hU hK hT rfl rfl [5] rfl (by decide) (cX6_isMissing_00176 l D k _ h20 h40 h20f0 h20f1 (by omega) (by omega)) w644 w641 w642 w643 w71 hdX6_isMissing ⟨rfl, rfl⟩ ⟨Nat.le_of_ble_eq_true rfl, Nat.le_of_ble_eq_true rfl⟩ rfl hl.1 (Nat.le_of_ble_eq_true rfl) dX10_put_19 ⟨Nat.le_of_ble_eq_true rfl, Nat.le_of_ble_eq_true rfl⟩) hT hS hA [5] [0, 1, 2, 3, 4, 6, 7, 8, 9] rfl rfl rfl (by decide) (by decide) (fun r50 H locs hB J hS => ?_)
      rcases hB with ⟨c_51, rfl, hT1⟩ | ⟨c_52, rfl, hT1⟩
      · skip
        have hT := J _ hT1
        have hT : TP D A [(h0, ob 7 [.ref h1, .ref h2, .int h0f2, .ref h3, .ref h4, .ref h5, .int h0f6, .ref h6, .int h0f8, .null, .ref h7, .int h0f11, .ref h8, .ref h9, .ref h10, .ref h11, .ref h12]), (h4, aQ (k 3) 4 (q4 h17 h18 h19 h20)), (h17, ob 5 [.int h17f0, .int h17f1, .ref h37]), (h18, ob 5 [.int h18f0, .int h18f1, .ref h38]), (h19, ob 5 [.int h19f0, .int h19f1, .ref h39]), (h37, aJ (k 1) 40 anJ), (h38, aJ (k 1) 40 anJ), (h39, aJ (k 1) 40 anJ), (h40, aJ (k 1) 40 anJ), (h20, ob 5 [.int h20f0, .int h20f1, .ref h40])] _ := hT
        refine lv_if_eq (tgt := 28) hx hb dX10_put_22 (by decide) (fun _ => ?_) (fun cc => absurd (by decide +kernel) cc)
        refine lv_aload hx hb dX10_put_28 (lv_at hl 0 rfl) ?_
        refine lv_iload_n hx hb dX10_put_30 rfl (lv_at hl 3 rfl) ?_
        refine lv_iconst (v := 1) hx hb dX10_put_31 (by decide) ?_
        have q_q54 := li_1
        refine tcI (Tc := [(h20, ob 5 [.int h20f0, .int h20f1, .ref h40])]) (Tr := [(h0, ob 7 [.ref h1, .ref h2, .int h0f2, .ref h3, .ref h4, .ref h5, .int h0f6, .ref h6, .int h0f8, .null, .ref h7, .int h0f11, .ref h8, .ref h9, .ref h10, .ref h11, .ref h12]), (h4, aQ (k 3) 4 (q4 h17 h18 h19 h20)), (h17, ob 5 [.int h17f0, .int h17f1, .ref h37]), (h18, ob 5 [.int h18f0, .int h18f1, .ref h38]), (h19, ob 5 [.int h19f0, .int h19f1, .ref h39]), (h37, aJ (k 1) 40 anJ), (h38, aJ (k 1) 40 anJ), (h39, aJ (k 1) 40 anJ), (h40, aJ (k 1) 40 anJ)]) (as := [h20]) (zcV (q0 := 9) (ci := 5) (As := [.int x2, .int 1]) (rest := []) (Tc := [(h20, ob 5 [.int h20f0, .int h20f1, .ref h40])]) hx hb hml hown hU hK hT rfl rfl [9] rfl (by decide) (cX6_isOutside_6ce95 l D k _ h20 h40 x2 (1) h20f0 h20f1 (by have := li_1; omega) (by omega) (by omega)) w648 w645 w646 w647 w71 hdX6_isOutside ⟨rfl, rfl⟩ ⟨Nat.le_of_ble_eq_true rfl, Nat.le_of_ble_eq_true rfl⟩ rfl hl.1 (Nat.le_of_ble_eq_true rfl) dX10_put_32 ⟨Nat.le_of_ble_eq_true rfl, Nat.le_of_ble_eq_true rfl⟩) hT hS hA [9] [0, 1, 2, 3, 4, 5, 6, 7, 8] rfl rfl rfl (by decide) (by decide) (fun r53 H locs hB J hS => ?_)
        rcases hB with ⟨c_55, c_56, rfl, hT1⟩ | ⟨c_57, c_58, c_59, rfl, hT1⟩ | ⟨c_60, c_61, c_62, rfl, hT1⟩
        · skip
          have hT := J _ hT1
          have hT : TP D A [(h0, ob 7 [.ref h1, .ref h2, .int h0f2, .ref h3, .ref h4, .ref h5, .int h0f6, .ref h6, .int h0f8, .null, .ref h7, .int h0f11, .ref h8, .ref h9, .ref h10, .ref h11, .ref h12]), (h4, aQ (k 3) 4 (q4 h17 h18 h19 h20)), (h17, ob 5 [.int h17f0, .int h17f1, .ref h37]), (h18, ob 5 [.int h18f0, .int h18f1, .ref h38]), (h19, ob 5 [.int h19f0, .int h19f1, .ref h39]), (h37, aJ (k 1) 40 anJ), (h38, aJ (k 1) 40 anJ), (h39, aJ (k 1) 40 anJ), (h40, aJ (k 1) 40 anJ), (h20, ob 5 [.int h20f0, .int h20f1, .ref h40])] _ := hT
          refine lv_if_eq (tgt := 41) hx hb dX10_put_35 (by decide) (fun cc => absurd cc (by decide +kernel)) (fun _ => ?_)
          refine lv_bipush (v := (-12)) hx hb dX10_put_38 (by decide) ?_
          exact tz_retI (B := B_cX10_put_cbc11 D k h0 h4 h17 h18 h19 h20 h37 h38 h39 h40 h1 h2 h3 h5 h6 h7 h8 h9 h10 h11 h12 x1 x2 x3 h0f2 h0f6 h0f8 h0f11 h17f0 h17f1 h18f0 h18f1 h19f0 h19f1 h20f0 h20f1) (v := (-12)) hQ hx hb hr hlocks hS (Nat.le_of_ble_eq_true rfl) (Nat.le_of_ble_eq_true rfl) dX10_put_40 (⟨(by have := li_m12; omega), (by have := li_m12; simp only [FPi, Frow]; (repeat' split) <;> omega), (hT.sub [0, 1, 2, 3, 4, 9, 5, 6, 7, 8] (by decide) rfl)⟩)
        · skip
          have hT := J _ hT1
          have hT : TP D A [(h0, ob 7 [.ref h1, .ref h2, .int h0f2, .ref h3, .ref h4, .ref h5, .int h0f6, .ref h6, .int h0f8, .null, .ref h7, .int h0f11, .ref h8, .ref h9, .ref h10, .ref h11, .ref h12]), (h4, aQ (k 3) 4 (q4 h17 h18 h19 h20)), (h17, ob 5 [.int h17f0, .int h17f1, .ref h37]), (h18, ob 5 [.int h18f0, .int h18f1, .ref h38]), (h19, ob 5 [.int h19f0, .int h19f1, .ref h39]), (h37, aJ (k 1) 40 anJ), (h38, aJ (k 1) 40 anJ), (h39, aJ (k 1) 40 anJ), (h40, aJ (k 1) 40 anJ), (h20, ob 5 [.int h20f0, .int h20f1, .ref h40])] _ := hT
          refine lv_if_eq (tgt := 41) hx hb dX10_put_35 (by decide) (fun _ => ?_) (fun cc => absurd (by decide +kernel) cc)
          refine lv_aload hx hb dX10_put_41 (lv_at hl 0 rfl) ?_
          refine lv_iload_n hx hb dX10_put_43 rfl (lv_at hl 3 rfl) ?_
          refine lv_lload_n hx hb dX10_put_44 rfl (lv_at hl 4 rfl) ?_
          refine tcV (Tc := [(h20, ob 5 [.int h20f0, .int h20f1, .ref h40]), (h40, aJ (k 1) 40 anJ)]) (Tr := [(h0, ob 7 [.ref h1, .ref h2, .int h0f2, .ref h3, .ref h4, .ref h5, .int h0f6, .ref h6, .int h0f8, .null, .ref h7, .int h0f11, .ref h8, .ref h9, .ref h10, .ref h11, .ref h12]), (h4, aQ (k 3) 4 (q4 h17 h18 h19 h20)), (h17, ob 5 [.int h17f0, .int h17f1, .ref h37]), (h18, ob 5 [.int h18f0, .int h18f1, .ref h38]), (h19, ob 5 [.int h19f0, .int h19f1, .ref h39]), (h37, aJ (k 1) 40 anJ), (h38, aJ (k 1) 40 anJ), (h39, aJ (k 1) 40 anJ)]) (as := [h20, h40]) (zcV (q0 := 9) (ci := 5) (As := [.int x2, .long x3]) (rest := []) (Tc := [(h20, ob 5 [.int h20f0, .int h20f1, .ref h40]), (h40, aJ (k 1) 40 anJ)]) hx hb hml hown hU hK hT rfl rfl [9, 8] rfl (by decide) (cX6_write_31564 l D k _ h20 h40 x2 x3 h20f0 h20f1 (by omega) (by omega) (by omega)) w745 w742 w743 w744 w71 hdX6_write ⟨rfl, rfl⟩ ⟨Nat.le_of_ble_eq_true rfl, Nat.le_of_ble_eq_true rfl⟩ rfl hl.1 (Nat.le_of_ble_eq_true rfl) dX10_put_45 ⟨Nat.le_of_ble_eq_true rfl, Nat.le_of_ble_eq_true rfl⟩) hT hS hA [9, 8] [0, 1, 2, 3, 4, 5, 6, 7] rfl rfl rfl (by decide) (by decide) (fun H locs hB J hS => ?_)
          have hT1 := hB
          have hT := J _ hT1
          have hT : TP D A [(h0, ob 7 [.ref h1, .ref h2, .int h0f2, .ref h3, .ref h4, .ref h5, .int h0f6, .ref h6, .int h0f8, .null, .ref h7, .int h0f11, .ref h8, .ref h9, .ref h10, .ref h11, .ref h12]), (h4, aQ (k 3) 4 (q4 h17 h18 h19 h20)), (h17, ob 5 [.int h17f0, .int h17f1, .ref h37]), (h18, ob 5 [.int h18f0, .int h18f1, .ref h38]), (h19, ob 5 [.int h19f0, .int h19f1, .ref h39]), (h37, aJ (k 1) 40 anJ), (h38, aJ (k 1) 40 anJ), (h39, aJ (k 1) 40 anJ), (h20, ob 5 [.int h20f0, .int h20f1, .ref h40]), (h40, aJ (k 1) 40 anJ)] _ := hT
          refine lv_iconst (v := 1) hx hb dX10_put_48 (by decide) ?_
          exact tz_retI (B := B_cX10_put_cbc11 D k h0 h4 h17 h18 h19 h20 h37 h38 h39 h40 h1 h2 h3 h5 h6 h7 h8 h9 h10 h11 h12 x1 x2 x3 h0f2 h0f6 h0f8 h0f11 h17f0 h17f1 h18f0 h18f1 h19f0 h19f1 h20f0 h20f1) (v := 1) hQ hx hb hr hlocks hS (Nat.le_of_ble_eq_true rfl) (Nat.le_of_ble_eq_true rfl) dX10_put_49 (⟨(by have := li_1; omega), (by have := li_1; simp only [FPi, Frow]; (repeat' split) <;> omega), (hT.sub [0, 1, 2, 3, 4, 8, 5, 6, 7, 9] (by decide) rfl)⟩)
        · skip
          have hT := J _ hT1
          have hT : TP D A [(h0, ob 7 [.ref h1, .ref h2, .int h0f2, .ref h3, .ref h4, .ref h5, .int h0f6, .ref h6, .int h0f8, .null, .ref h7, .int h0f11, .ref h8, .ref h9, .ref h10, .ref h11, .ref h12]), (h4, aQ (k 3) 4 (q4 h17 h18 h19 h20)), (h17, ob 5 [.int h17f0, .int h17f1, .ref h37]), (h18, ob 5 [.int h18f0, .int h18f1, .ref h38]), (h19, ob 5 [.int h19f0, .int h19f1, .ref h39]), (h37, aJ (k 1) 40 anJ), (h38, aJ (k 1) 40 anJ), (h39, aJ (k 1) 40 anJ), (h40, aJ (k 1) 40 anJ), (h20, ob 5 [.int h20f0, .int h20f1, .ref h40])] _ := hT
          refine lv_if_eq (tgt := 41) hx hb dX10_put_35 (by decide) (fun cc => absurd cc (by decide +kernel)) (fun _ => ?_)
          refine lv_bipush (v := (-12)) hx hb dX10_put_38 (by decide) ?_
          exact tz_retI (B := B_cX10_put_cbc11 D k h0 h4 h17 h18 h19 h20 h37 h38 h39 h40 h1 h2 h3 h5 h6 h7 h8 h9 h10 h11 h12 x1 x2 x3 h0f2 h0f6 h0f8 h0f11 h17f0 h17f1 h18f0 h18f1 h19f0 h19f1 h20f0 h20f1) (v := (-12)) hQ hx hb hr hlocks hS (Nat.le_of_ble_eq_true rfl) (Nat.le_of_ble_eq_true rfl) dX10_put_40 (⟨(by have := li_m12; omega), (by have := li_m12; simp only [FPi, Frow]; (repeat' split) <;> omega), (hT.sub [0, 1, 2, 3, 4, 9, 5, 6, 7, 8] (by decide) rfl)⟩)
      · skip
        have hT := J _ hT1
        have hT : TP D A [(h0, ob 7 [.ref h1, .ref h2, .int h0f2, .ref h3, .ref h4, .ref h5, .int h0f6, .ref h6, .int h0f8, .null, .ref h7, .int h0f11, .ref h8, .ref h9, .ref h10, .ref h11, .ref h12]), (h4, aQ (k 3) 4 (q4 h17 h18 h19 h20)), (h17, ob 5 [.int h17f0, .int h17f1, .ref h37]), (h18, ob 5 [.int h18f0, .int h18f1, .ref h38]), (h19, ob 5 [.int h19f0, .int h19f1, .ref h39]), (h37, aJ (k 1) 40 anJ), (h38, aJ (k 1) 40 anJ), (h39, aJ (k 1) 40 anJ), (h40, aJ (k 1) 40 anJ), (h20, ob 5 [.int h20f0, .int h20f1, .ref h40])] _ := hT
        refine lv_if_eq (tgt := 28) hx hb dX10_put_22 (by decide) (fun cc => absurd cc (by decide +kernel)) (fun _ => ?_)
        refine lv_bipush (v := (-11)) hx hb dX10_put_25 (by decide) ?_
        exact tz_retI (B := B_cX10_put_cbc11 D k h0 h4 h17 h18 h19 h20 h37 h38 h39 h40 h1 h2 h3 h5 h6 h7 h8 h9 h10 h11 h12 x1 x2 x3 h0f2 h0f6 h0f8 h0f11 h17f0 h17f1 h18f0 h18f1 h19f0 h19f1 h20f0 h20f1) (v := (-11)) hQ hx hb hr hlocks hS (Nat.le_of_ble_eq_true rfl) (Nat.le_of_ble_eq_true rfl) dX10_put_27 (⟨(by have := li_m11; omega), (by have := li_m11; simp only [FPi, Frow]; (repeat' split) <;> omega), (hT.sub [0, 1, 2, 3, 4, 9, 5, 6, 7, 8] (by decide) rfl)⟩)
abbrev Rm_cX10_put_20096 : Room := { frames := 1, cells := 0, slots := 0, locals := 23 }
abbrev B_cX10_put_20096 (D : va_G) (k : Nat → ClassId) (h0 h4 h18 h19 h20 h21 h46 h47 h48 h49 h1 h2 h3 h5 h6 h7 h8 h9 h10 h11 h12 h13 : Nat) (x1 : Int32) (x2 : Int32) (x3 : Int64) (h0f2 : Int32) (h0f6 : Int32) (h0f8 : Int32) (h0f11 : Int32) (h18f0 : Int32) (h18f1 : Int32) (h19f0 : Int32) (h19f1 : Int32) (h20f0 : Int32) (h20f1 : Int32) (h21f0 : Int32) (h21f1 : Int32) (A : Nat → Prop) (r : Int32) (H : Heap) : Prop := ((-12) ≤ r.toInt ∧ r.toInt ≤ 1) ∧ (r.toInt = FPi x1.toInt x2.toInt (h18f0.toInt) (h19f0.toInt) (h20f0.toInt) (h21f0.toInt) (h18f1.toInt) (h19f1.toInt) (h20f1.toInt) (h21f1.toInt)) ∧ TP D A [(h0, ob 7 [.ref h1, .ref h2, .int h0f2, .ref h3, .ref h4, .ref h5, .int h0f6, .ref h6, .int h0f8, .ref h7, .ref h8, .int h0f11, .ref h9, .ref h10, .ref h11, .ref h12, .ref h13]), (h4, aQ (k 3) 4 (q4 h18 h19 h20 h21)), (h18, ob 5 [.int h18f0, .int h18f1, .ref h46]), (h19, ob 5 [.int h19f0, .int h19f1, .ref h47]), (h20, ob 5 [.int h20f0, .int h20f1, .ref h48]), (h21, ob 5 [.int h21f0, .int h21f1, .ref h49]), (h46, aJ (k 1) 40 anJ), (h47, aJ (k 1) 40 anJ), (h48, aJ (k 1) 40 anJ), (h49, aJ (k 1) 40 anJ)] H
set_option maxHeartbeats 4000000 in
set_option maxRecDepth 100000 in
theorem cX10_put_20096 (l : Launch) (D : va_G) (k : Nat → ClassId) (sz : Nat) (h0 h4 h18 h19 h20 h21 h46 h47 h48 h49 h1 h2 h3 h5 h6 h7 h8 h9 h10 h11 h12 h13 : Nat) (x1 : Int32) (x2 : Int32) (x3 : Int64) (h0f2 : Int32) (h0f6 : Int32) (h0f8 : Int32) (h0f11 : Int32) (h18f0 : Int32) (h18f1 : Int32) (h19f0 : Int32) (h19f1 : Int32) (h20f0 : Int32) (h20f1 : Int32) (h21f0 : Int32) (h21f1 : Int32) (b_h0f2 : 0 ≤ h0f2.toInt ∧ h0f2.toInt ≤ 1) (b_h0f6 : 0 ≤ h0f6.toInt ∧ h0f6.toInt ≤ 1) (b_h0f8 : 0 ≤ h0f8.toInt ∧ h0f8.toInt ≤ 1) (b_h0f11 : 0 ≤ h0f11.toInt ∧ h0f11.toInt ≤ 200) (b_h18f0 : (-1) ≤ h18f0.toInt ∧ h18f0.toInt ≤ 2) (b_h18f1 : 0 ≤ h18f1.toInt ∧ h18f1.toInt ≤ 40) (b_h19f0 : (-1) ≤ h19f0.toInt ∧ h19f0.toInt ≤ 2) (b_h19f1 : 0 ≤ h19f1.toInt ∧ h19f1.toInt ≤ 40) (b_h20f0 : (-1) ≤ h20f0.toInt ∧ h20f0.toInt ≤ 2) (b_h20f1 : 0 ≤ h20f1.toInt ∧ h20f1.toInt ≤ 40) (b_h21f0 : (-1) ≤ h21f0.toInt ∧ h21f0.toInt ≤ 2) (b_h21f1 : 0 ≤ h21f1.toInt ∧ h21f1.toInt ≤ 40) : Met l yX10_put (Cond.code yX10_put cX10_put 6 (some .int) :: uw) Rm_cX10_put_20096 (pT D k sz [.ref h0, .int x1, .int x2, .long x3] [(h0, ob 7 [.ref h1, .ref h2, .int h0f2, .ref h3, .ref h4, .ref h5, .int h0f6, .ref h6, .int h0f8, .ref h7, .ref h8, .int h0f11, .ref h9, .ref h10, .ref h11, .ref h12, .ref h13]), (h4, aQ (k 3) 4 (q4 h18 h19 h20 h21)), (h18, ob 5 [.int h18f0, .int h18f1, .ref h46]), (h19, ob 5 [.int h19f0, .int h19f1, .ref h47]), (h20, ob 5 [.int h20f0, .int h20f1, .ref h48]), (h21, ob 5 [.int h21f0, .int h21f1, .ref h49]), (h46, aJ (k 1) 40 anJ), (h47, aJ (k 1) 40 anJ), (h48, aJ (k 1) 40 anJ), (h49, aJ (k 1) 40 anJ)]) (qI (B_cX10_put_20096 D k h0 h4 h18 h19 h20 h21 h46 h47 h48 h49 h1 h2 h3 h5 h6 h7 h8 h9 h10 h11 h12 h13 x1 x2 x3 h0f2 h0f6 h0f8 h0f11 h18f0 h18f1 h19f0 h19f1 h20f0 h20f1 h21f0 h21f1 (zA [h0, h4, h18, h19, h20, h21, h46, h47, h48, h49] sz)) (zA [h0, h4, h18, h19, h20, h21, h46, h47, h48, h49] sz)) 0 0 (zA [h0, h4, h18, h19, h20, h21, h46, h47, h48, h49] sz) := by
  refine tz_begin (as := [h0, h4, h18, h19, h20, h21, h46, h47, h48, h49]) (Qc := fun A => qI (B_cX10_put_20096 D k h0 h4 h18 h19 h20 h21 h46 h47 h48 h49 h1 h2 h3 h5 h6 h7 h8 h9 h10 h11 h12 h13 x1 x2 x3 h0f2 h0f6 h0f8 h0f11 h18f0 h18f1 h19f0 h19f1 h20f0 h20f1 h21f0 h21f1 A) A) (by decide +kernel) rfl (Nat.le_of_ble_eq_true rfl) ?_
  intro p e s m args below meth c ls A Q hx hb hr hml hown hlocks hin hU hK hT hS hA hl hQ
  have hl : lv_has ls 6 [(0, .ref h0), (1, .int x1), (2, .int x2), (3, .long x3)] := hl
  have hT : TP D A [(h0, ob 7 [.ref h1, .ref h2, .int h0f2, .ref h3, .ref h4, .ref h5, .int h0f6, .ref h6, .int h0f8, .ref h7, .ref h8, .int h0f11, .ref h9, .ref h10, .ref h11, .ref h12, .ref h13]), (h4, aQ (k 3) 4 (q4 h18 h19 h20 h21)), (h18, ob 5 [.int h18f0, .int h18f1, .ref h46]), (h19, ob 5 [.int h19f0, .int h19f1, .ref h47]), (h20, ob 5 [.int h20f0, .int h20f1, .ref h48]), (h21, ob 5 [.int h21f0, .int h21f1, .ref h49]), (h46, aJ (k 1) 40 anJ), (h47, aJ (k 1) 40 anJ), (h48, aJ (k 1) 40 anJ), (h49, aJ (k 1) 40 anJ)] s.heap := hT
  refine lv_iload_n hx hb dX10_put_0 rfl (lv_at hl 1 rfl) ?_
  refine tcI (Tc := []) (Tr := [(h0, ob 7 [.ref h1, .ref h2, .int h0f2, .ref h3, .ref h4, .ref h5, .int h0f6, .ref h6, .int h0f8, .ref h7, .ref h8, .int h0f11, .ref h9, .ref h10, .ref h11, .ref h12, .ref h13]), (h4, aQ (k 3) 4 (q4 h18 h19 h20 h21)), (h18, ob 5 [.int h18f0, .int h18f1, .ref h46]), (h19, ob 5 [.int h19f0, .int h19f1, .ref h47]), (h20, ob 5 [.int h20f0, .int h20f1, .ref h48]), (h21, ob 5 [.int h21f0, .int h21f1, .ref h49]), (h46, aJ (k 1) 40 anJ), (h47, aJ (k 1) 40 anJ), (h48, aJ (k 1) 40 anJ), (h49, aJ (k 1) 40 anJ)]) (as := []) (zcS (As := [.int x1]) (rest := []) (Tc := []) hx hb hml hown hU hK hT [] rfl (by decide) (cX10_isSheet_b539c l D k _ x1) w640 w638 w639 w63 hdX10_isSheet ⟨rfl, rfl⟩ ⟨Nat.le_of_ble_eq_true rfl, Nat.le_of_ble_eq_true rfl⟩ rfl hl.1 (Nat.le_of_ble_eq_true rfl) dX10_put_1 ⟨Nat.le_of_ble_eq_true rfl, Nat.le_of_ble_eq_true rfl⟩) hT hS hA [] [0, 1, 2, 3, 4, 5, 6, 7, 8, 9] rfl rfl rfl (by decide) (by decide) (fun r1 H locs hB J hS => ?_)
  rcases hB with ⟨c_2, rfl, hT1⟩ | ⟨c_3, c_4, rfl, hT1⟩ | ⟨c_5, c_6, rfl, hT1⟩
  · skip
    have hT := J _ hT1
    have hT : TP D A [(h0, ob 7 [.ref h1, .ref h2, .int h0f2, .ref h3, .ref h4, .ref h5, .int h0f6, .ref h6, .int h0f8, .ref h7, .ref h8, .int h0f11, .ref h9, .ref h10, .ref h11, .ref h12, .ref h13]), (h4, aQ (k 3) 4 (q4 h18 h19 h20 h21)), (h18, ob 5 [.int h18f0, .int h18f1, .ref h46]), (h19, ob 5 [.int h19f0, .int h19f1, .ref h47]), (h20, ob 5 [.int h20f0, .int h20f1, .ref h48]), (h21, ob 5 [.int h21f0, .int h21f1, .ref h49]), (h46, aJ (k 1) 40 anJ), (h47, aJ (k 1) 40 anJ), (h48, aJ (k 1) 40 anJ), (h49, aJ (k 1) 40 anJ)] _ := hT
    refine lv_if_ne (tgt := 9) hx hb dX10_put_4 (by decide) (fun cc => absurd (by decide +kernel) cc) (fun _ => ?_)
    refine lv_iconst (v := (-1)) hx hb dX10_put_7 (by decide) ?_
    exact tz_retI (B := B_cX10_put_20096 D k h0 h4 h18 h19 h20 h21 h46 h47 h48 h49 h1 h2 h3 h5 h6 h7 h8 h9 h10 h11 h12 h13 x1 x2 x3 h0f2 h0f6 h0f8 h0f11 h18f0 h18f1 h19f0 h19f1 h20f0 h20f1 h21f0 h21f1) (v := (-1)) hQ hx hb hr hlocks hS (Nat.le_of_ble_eq_true rfl) (Nat.le_of_ble_eq_true rfl) dX10_put_8 (⟨(by have := li_m1; omega), (by have := li_m1; simp only [FPi, Frow]; (repeat' split) <;> omega), hT⟩)
  · skip
    have hT := J _ hT1
    have hT : TP D A [(h0, ob 7 [.ref h1, .ref h2, .int h0f2, .ref h3, .ref h4, .ref h5, .int h0f6, .ref h6, .int h0f8, .ref h7, .ref h8, .int h0f11, .ref h9, .ref h10, .ref h11, .ref h12, .ref h13]), (h4, aQ (k 3) 4 (q4 h18 h19 h20 h21)), (h18, ob 5 [.int h18f0, .int h18f1, .ref h46]), (h19, ob 5 [.int h19f0, .int h19f1, .ref h47]), (h20, ob 5 [.int h20f0, .int h20f1, .ref h48]), (h21, ob 5 [.int h21f0, .int h21f1, .ref h49]), (h46, aJ (k 1) 40 anJ), (h47, aJ (k 1) 40 anJ), (h48, aJ (k 1) 40 anJ), (h49, aJ (k 1) 40 anJ)] _ := hT
    refine lv_if_ne (tgt := 9) hx hb dX10_put_4 (by decide) (fun cc => absurd (by decide +kernel) cc) (fun _ => ?_)
    refine lv_iconst (v := (-1)) hx hb dX10_put_7 (by decide) ?_
    exact tz_retI (B := B_cX10_put_20096 D k h0 h4 h18 h19 h20 h21 h46 h47 h48 h49 h1 h2 h3 h5 h6 h7 h8 h9 h10 h11 h12 h13 x1 x2 x3 h0f2 h0f6 h0f8 h0f11 h18f0 h18f1 h19f0 h19f1 h20f0 h20f1 h21f0 h21f1) (v := (-1)) hQ hx hb hr hlocks hS (Nat.le_of_ble_eq_true rfl) (Nat.le_of_ble_eq_true rfl) dX10_put_8 (⟨(by have := li_m1; omega), (by have := li_m1; simp only [FPi, Frow]; (repeat' split) <;> omega), hT⟩)
  · skip
    have hT := J _ hT1
    have hT : TP D A [(h0, ob 7 [.ref h1, .ref h2, .int h0f2, .ref h3, .ref h4, .ref h5, .int h0f6, .ref h6, .int h0f8, .ref h7, .ref h8, .int h0f11, .ref h9, .ref h10, .ref h11, .ref h12, .ref h13]), (h4, aQ (k 3) 4 (q4 h18 h19 h20 h21)), (h18, ob 5 [.int h18f0, .int h18f1, .ref h46]), (h19, ob 5 [.int h19f0, .int h19f1, .ref h47]), (h20, ob 5 [.int h20f0, .int h20f1, .ref h48]), (h21, ob 5 [.int h21f0, .int h21f1, .ref h49]), (h46, aJ (k 1) 40 anJ), (h47, aJ (k 1) 40 anJ), (h48, aJ (k 1) 40 anJ), (h49, aJ (k 1) 40 anJ)] _ := hT
    refine lv_if_ne (tgt := 9) hx hb dX10_put_4 (by decide) (fun _ => ?_) (fun cc => absurd cc (by decide +kernel))
    refine lv_aload_n hx hb dX10_put_9 rfl (lv_at hl 0 rfl) ?_
    refine tz_get (ci := 7) (v := .ref h4) (C := RX10) (F := TX10) (N := 17) hx hb hU iX10 hown hK hT 0 rfl rfl 4 (by decide) w253 (fun _ h9 => h9) rfl dX10_put_10 ?_
    refine lv_iload_n hx hb dX10_put_13 rfl (lv_at hl 1 rfl) ?_
    rcases (show x1.toInt = 0 ∨ x1.toInt = 1 ∨ x1.toInt = 2 ∨ x1.toInt = 3 by omega) with hq7 | hq7 | hq7 | hq7
    · skip
      refine tz_aldq (b := h18) hx hb hK hT 1 rfl (vp_in_iff.mpr (by have := hq7; omega)) (fun f hf => by rw [cl_of hq7]; exact hf.1) dX10_put_14 ?_
      refine lv_astore (lv' := [(5, .ref h18), (0, .ref h0), (1, .int x1), (2, .int x2), (3, .long x3)]) hx hb dX10_put_15 hl (by decide) rfl (fun ls hl => ?_)
      refine lv_aload hx hb dX10_put_17 (lv_at hl 0 rfl) ?_
      refine tcI (Tc := [(h18, ob 5 [.int h18f0, .int h18f1, .ref h46])]) (Tr := [(h0, ob 7 [.ref h1, .ref h2, .int h0f2, .ref h3, .ref h4, .ref h5, .int h0f6, .ref h6, .int h0f8, .ref h7, .ref h8, .int h0f11, .ref h9, .ref h10, .ref h11, .ref h12, .ref h13]), (h4, aQ (k 3) 4 (q4 h18 h19 h20 h21)), (h19, ob 5 [.int h19f0, .int h19f1, .ref h47]), (h20, ob 5 [.int h20f0, .int h20f1, .ref h48]), (h21, ob 5 [.int h21f0, .int h21f1, .ref h49]), (h46, aJ (k 1) 40 anJ), (h47, aJ (k 1) 40 anJ), (h48, aJ (k 1) 40 anJ), (h49, aJ (k 1) 40 anJ)]) (as := [h18]) (zcV (q0 := 2) (ci := 5) (As := []) (rest := []) (Tc := [(h18, ob 5 [.int h18f0, .int h18f1, .ref h46])]) hx hb hml hown hU hK hT rfl rfl [2] rfl (by decide) (cX6_isMissing_00176 l D k _ h18 h46 h18f0 h18f1 (by omega) (by omega)) w644 w641 w642 w643 w71 hdX6_isMissing ⟨rfl, rfl⟩ ⟨Nat.le_of_ble_eq_true rfl, Nat.le_of_ble_eq_true rfl⟩ rfl hl.1 (Nat.le_of_ble_eq_true rfl) dX10_put_19 ⟨Nat.le_of_ble_eq_true rfl, Nat.le_of_ble_eq_true rfl⟩) hT hS hA [2] [0, 1, 3, 4, 5, 6, 7, 8, 9] rfl rfl rfl (by decide) (by decide) (fun r8 H locs hB J hS => ?_)
      rcases hB with ⟨c_9, rfl, hT1⟩ | ⟨c_10, rfl, hT1⟩
      · skip
        have hT := J _ hT1
        have hT : TP D A [(h0, ob 7 [.ref h1, .ref h2, .int h0f2, .ref h3, .ref h4, .ref h5, .int h0f6, .ref h6, .int h0f8, .ref h7, .ref h8, .int h0f11, .ref h9, .ref h10, .ref h11, .ref h12, .ref h13]), (h4, aQ (k 3) 4 (q4 h18 h19 h20 h21)), (h19, ob 5 [.int h19f0, .int h19f1, .ref h47]), (h20, ob 5 [.int h20f0, .int h20f1, .ref h48]), (h21, ob 5 [.int h21f0, .int h21f1, .ref h49]), (h46, aJ (k 1) 40 anJ), (h47, aJ (k 1) 40 anJ), (h48, aJ (k 1) 40 anJ), (h49, aJ (k 1) 40 anJ), (h18, ob 5 [.int h18f0, .int h18f1, .ref h46])] _ := hT
        refine lv_if_eq (tgt := 28) hx hb dX10_put_22 (by decide) (fun _ => ?_) (fun cc => absurd (by decide +kernel) cc)
        refine lv_aload hx hb dX10_put_28 (lv_at hl 0 rfl) ?_
        refine lv_iload_n hx hb dX10_put_30 rfl (lv_at hl 3 rfl) ?_
        refine lv_iconst (v := 1) hx hb dX10_put_31 (by decide) ?_
        have q_q12 := li_1
        refine tcI (Tc := [(h18, ob 5 [.int h18f0, .int h18f1, .ref h46])]) (Tr := [(h0, ob 7 [.ref h1, .ref h2, .int h0f2, .ref h3, .ref h4, .ref h5, .int h0f6, .ref h6, .int h0f8, .ref h7, .ref h8, .int h0f11, .ref h9, .ref h10, .ref h11, .ref h12, .ref h13]), (h4, aQ (k 3) 4 (q4 h18 h19 h20 h21)), (h19, ob 5 [.int h19f0, .int h19f1, .ref h47]), (h20, ob 5 [.int h20f0, .int h20f1, .ref h48]), (h21, ob 5 [.int h21f0, .int h21f1, .ref h49]), (h46, aJ (k 1) 40 anJ), (h47, aJ (k 1) 40 anJ), (h48, aJ (k 1) 40 anJ), (h49, aJ (k 1) 40 anJ)]) (as := [h18]) (zcV (q0 := 9) (ci := 5) (As := [.int x2, .int 1]) (rest := []) (Tc := [(h18, ob 5 [.int h18f0, .int h18f1, .ref h46])]) hx hb hml hown hU hK hT rfl rfl [9] rfl (by decide) (cX6_isOutside_6ce95 l D k _ h18 h46 x2 (1) h18f0 h18f1 (by have := li_1; omega) (by omega) (by omega)) w648 w645 w646 w647 w71 hdX6_isOutside ⟨rfl, rfl⟩ ⟨Nat.le_of_ble_eq_true rfl, Nat.le_of_ble_eq_true rfl⟩ rfl hl.1 (Nat.le_of_ble_eq_true rfl) dX10_put_32 ⟨Nat.le_of_ble_eq_true rfl, Nat.le_of_ble_eq_true rfl⟩) hT hS hA [9] [0, 1, 2, 3, 4, 5, 6, 7, 8] rfl rfl rfl (by decide) (by decide) (fun r11 H locs hB J hS => ?_)
        rcases hB with ⟨c_13, c_14, rfl, hT1⟩ | ⟨c_15, c_16, c_17, rfl, hT1⟩ | ⟨c_18, c_19, c_20, rfl, hT1⟩
        · skip
          have hT := J _ hT1
          have hT : TP D A [(h0, ob 7 [.ref h1, .ref h2, .int h0f2, .ref h3, .ref h4, .ref h5, .int h0f6, .ref h6, .int h0f8, .ref h7, .ref h8, .int h0f11, .ref h9, .ref h10, .ref h11, .ref h12, .ref h13]), (h4, aQ (k 3) 4 (q4 h18 h19 h20 h21)), (h19, ob 5 [.int h19f0, .int h19f1, .ref h47]), (h20, ob 5 [.int h20f0, .int h20f1, .ref h48]), (h21, ob 5 [.int h21f0, .int h21f1, .ref h49]), (h46, aJ (k 1) 40 anJ), (h47, aJ (k 1) 40 anJ), (h48, aJ (k 1) 40 anJ), (h49, aJ (k 1) 40 anJ), (h18, ob 5 [.int h18f0, .int h18f1, .ref h46])] _ := hT
          refine lv_if_eq (tgt := 41) hx hb dX10_put_35 (by decide) (fun cc => absurd cc (by decide +kernel)) (fun _ => ?_)
          refine lv_bipush (v := (-12)) hx hb dX10_put_38 (by decide) ?_
          exact tz_retI (B := B_cX10_put_20096 D k h0 h4 h18 h19 h20 h21 h46 h47 h48 h49 h1 h2 h3 h5 h6 h7 h8 h9 h10 h11 h12 h13 x1 x2 x3 h0f2 h0f6 h0f8 h0f11 h18f0 h18f1 h19f0 h19f1 h20f0 h20f1 h21f0 h21f1) (v := (-12)) hQ hx hb hr hlocks hS (Nat.le_of_ble_eq_true rfl) (Nat.le_of_ble_eq_true rfl) dX10_put_40 (⟨(by have := li_m12; omega), (by have := li_m12; simp only [FPi, Frow]; (repeat' split) <;> omega), (hT.sub [0, 1, 9, 2, 3, 4, 5, 6, 7, 8] (by decide) rfl)⟩)
        · skip
          have hT := J _ hT1
          have hT : TP D A [(h0, ob 7 [.ref h1, .ref h2, .int h0f2, .ref h3, .ref h4, .ref h5, .int h0f6, .ref h6, .int h0f8, .ref h7, .ref h8, .int h0f11, .ref h9, .ref h10, .ref h11, .ref h12, .ref h13]), (h4, aQ (k 3) 4 (q4 h18 h19 h20 h21)), (h19, ob 5 [.int h19f0, .int h19f1, .ref h47]), (h20, ob 5 [.int h20f0, .int h20f1, .ref h48]), (h21, ob 5 [.int h21f0, .int h21f1, .ref h49]), (h46, aJ (k 1) 40 anJ), (h47, aJ (k 1) 40 anJ), (h48, aJ (k 1) 40 anJ), (h49, aJ (k 1) 40 anJ), (h18, ob 5 [.int h18f0, .int h18f1, .ref h46])] _ := hT
          refine lv_if_eq (tgt := 41) hx hb dX10_put_35 (by decide) (fun _ => ?_) (fun cc => absurd (by decide +kernel) cc)
          refine lv_aload hx hb dX10_put_41 (lv_at hl 0 rfl) ?_
          refine lv_iload_n hx hb dX10_put_43 rfl (lv_at hl 3 rfl) ?_
          refine lv_lload_n hx hb dX10_put_44 rfl (lv_at hl 4 rfl) ?_
          refine tcV (Tc := [(h18, ob 5 [.int h18f0, .int h18f1, .ref h46]), (h46, aJ (k 1) 40 anJ)]) (Tr := [(h0, ob 7 [.ref h1, .ref h2, .int h0f2, .ref h3, .ref h4, .ref h5, .int h0f6, .ref h6, .int h0f8, .ref h7, .ref h8, .int h0f11, .ref h9, .ref h10, .ref h11, .ref h12, .ref h13]), (h4, aQ (k 3) 4 (q4 h18 h19 h20 h21)), (h19, ob 5 [.int h19f0, .int h19f1, .ref h47]), (h20, ob 5 [.int h20f0, .int h20f1, .ref h48]), (h21, ob 5 [.int h21f0, .int h21f1, .ref h49]), (h47, aJ (k 1) 40 anJ), (h48, aJ (k 1) 40 anJ), (h49, aJ (k 1) 40 anJ)]) (as := [h18, h46]) (zcV (q0 := 9) (ci := 5) (As := [.int x2, .long x3]) (rest := []) (Tc := [(h18, ob 5 [.int h18f0, .int h18f1, .ref h46]), (h46, aJ (k 1) 40 anJ)]) hx hb hml hown hU hK hT rfl rfl [9, 5] rfl (by decide) (cX6_write_31564 l D k _ h18 h46 x2 x3 h18f0 h18f1 (by omega) (by omega) (by omega)) w745 w742 w743 w744 w71 hdX6_write ⟨rfl, rfl⟩ ⟨Nat.le_of_ble_eq_true rfl, Nat.le_of_ble_eq_true rfl⟩ rfl hl.1 (Nat.le_of_ble_eq_true rfl) dX10_put_45 ⟨Nat.le_of_ble_eq_true rfl, Nat.le_of_ble_eq_true rfl⟩) hT hS hA [9, 5] [0, 1, 2, 3, 4, 6, 7, 8] rfl rfl rfl (by decide) (by decide) (fun H locs hB J hS => ?_)
          have hT1 := hB
          have hT := J _ hT1
          have hT : TP D A [(h0, ob 7 [.ref h1, .ref h2, .int h0f2, .ref h3, .ref h4, .ref h5, .int h0f6, .ref h6, .int h0f8, .ref h7, .ref h8, .int h0f11, .ref h9, .ref h10, .ref h11, .ref h12, .ref h13]), (h4, aQ (k 3) 4 (q4 h18 h19 h20 h21)), (h19, ob 5 [.int h19f0, .int h19f1, .ref h47]), (h20, ob 5 [.int h20f0, .int h20f1, .ref h48]), (h21, ob 5 [.int h21f0, .int h21f1, .ref h49]), (h47, aJ (k 1) 40 anJ), (h48, aJ (k 1) 40 anJ), (h49, aJ (k 1) 40 anJ), (h18, ob 5 [.int h18f0, .int h18f1, .ref h46]), (h46, aJ (k 1) 40 anJ)] _ := hT
          refine lv_iconst (v := 1) hx hb dX10_put_48 (by decide) ?_
          exact tz_retI (B := B_cX10_put_20096 D k h0 h4 h18 h19 h20 h21 h46 h47 h48 h49 h1 h2 h3 h5 h6 h7 h8 h9 h10 h11 h12 h13 x1 x2 x3 h0f2 h0f6 h0f8 h0f11 h18f0 h18f1 h19f0 h19f1 h20f0 h20f1 h21f0 h21f1) (v := 1) hQ hx hb hr hlocks hS (Nat.le_of_ble_eq_true rfl) (Nat.le_of_ble_eq_true rfl) dX10_put_49 (⟨(by have := li_1; omega), (by have := li_1; simp only [FPi, Frow]; (repeat' split) <;> omega), (hT.sub [0, 1, 8, 2, 3, 4, 9, 5, 6, 7] (by decide) rfl)⟩)
        · skip
          have hT := J _ hT1
          have hT : TP D A [(h0, ob 7 [.ref h1, .ref h2, .int h0f2, .ref h3, .ref h4, .ref h5, .int h0f6, .ref h6, .int h0f8, .ref h7, .ref h8, .int h0f11, .ref h9, .ref h10, .ref h11, .ref h12, .ref h13]), (h4, aQ (k 3) 4 (q4 h18 h19 h20 h21)), (h19, ob 5 [.int h19f0, .int h19f1, .ref h47]), (h20, ob 5 [.int h20f0, .int h20f1, .ref h48]), (h21, ob 5 [.int h21f0, .int h21f1, .ref h49]), (h46, aJ (k 1) 40 anJ), (h47, aJ (k 1) 40 anJ), (h48, aJ (k 1) 40 anJ), (h49, aJ (k 1) 40 anJ), (h18, ob 5 [.int h18f0, .int h18f1, .ref h46])] _ := hT
          refine lv_if_eq (tgt := 41) hx hb dX10_put_35 (by decide) (fun cc => absurd cc (by decide +kernel)) (fun _ => ?_)
          refine lv_bipush (v := (-12)) hx hb dX10_put_38 (by decide) ?_
          exact tz_retI (B := B_cX10_put_20096 D k h0 h4 h18 h19 h20 h21 h46 h47 h48 h49 h1 h2 h3 h5 h6 h7 h8 h9 h10 h11 h12 h13 x1 x2 x3 h0f2 h0f6 h0f8 h0f11 h18f0 h18f1 h19f0 h19f1 h20f0 h20f1 h21f0 h21f1) (v := (-12)) hQ hx hb hr hlocks hS (Nat.le_of_ble_eq_true rfl) (Nat.le_of_ble_eq_true rfl) dX10_put_40 (⟨(by have := li_m12; omega), (by have := li_m12; simp only [FPi, Frow]; (repeat' split) <;> omega), (hT.sub [0, 1, 9, 2, 3, 4, 5, 6, 7, 8] (by decide) rfl)⟩)
      · skip
        have hT := J _ hT1
        have hT : TP D A [(h0, ob 7 [.ref h1, .ref h2, .int h0f2, .ref h3, .ref h4, .ref h5, .int h0f6, .ref h6, .int h0f8, .ref h7, .ref h8, .int h0f11, .ref h9, .ref h10, .ref h11, .ref h12, .ref h13]), (h4, aQ (k 3) 4 (q4 h18 h19 h20 h21)), (h19, ob 5 [.int h19f0, .int h19f1, .ref h47]), (h20, ob 5 [.int h20f0, .int h20f1, .ref h48]), (h21, ob 5 [.int h21f0, .int h21f1, .ref h49]), (h46, aJ (k 1) 40 anJ), (h47, aJ (k 1) 40 anJ), (h48, aJ (k 1) 40 anJ), (h49, aJ (k 1) 40 anJ), (h18, ob 5 [.int h18f0, .int h18f1, .ref h46])] _ := hT
        refine lv_if_eq (tgt := 28) hx hb dX10_put_22 (by decide) (fun cc => absurd cc (by decide +kernel)) (fun _ => ?_)
        refine lv_bipush (v := (-11)) hx hb dX10_put_25 (by decide) ?_
        exact tz_retI (B := B_cX10_put_20096 D k h0 h4 h18 h19 h20 h21 h46 h47 h48 h49 h1 h2 h3 h5 h6 h7 h8 h9 h10 h11 h12 h13 x1 x2 x3 h0f2 h0f6 h0f8 h0f11 h18f0 h18f1 h19f0 h19f1 h20f0 h20f1 h21f0 h21f1) (v := (-11)) hQ hx hb hr hlocks hS (Nat.le_of_ble_eq_true rfl) (Nat.le_of_ble_eq_true rfl) dX10_put_27 (⟨(by have := li_m11; omega), (by have := li_m11; simp only [FPi, Frow]; (repeat' split) <;> omega), (hT.sub [0, 1, 9, 2, 3, 4, 5, 6, 7, 8] (by decide) rfl)⟩)
    · skip
      refine tz_aldq (b := h19) hx hb hK hT 1 rfl (vp_in_iff.mpr (by have := hq7; omega)) (fun f hf => by rw [cl_of hq7]; exact hf.2.1) dX10_put_14 ?_
      refine lv_astore (lv' := [(5, .ref h19), (0, .ref h0), (1, .int x1), (2, .int x2), (3, .long x3)]) hx hb dX10_put_15 hl (by decide) rfl (fun ls hl => ?_)
      refine lv_aload hx hb dX10_put_17 (lv_at hl 0 rfl) ?_
      refine tcI (Tc := [(h19, ob 5 [.int h19f0, .int h19f1, .ref h47])]) (Tr := [(h0, ob 7 [.ref h1, .ref h2, .int h0f2, .ref h3, .ref h4, .ref h5, .int h0f6, .ref h6, .int h0f8, .ref h7, .ref h8, .int h0f11, .ref h9, .ref h10, .ref h11, .ref h12, .ref h13]), (h4, aQ (k 3) 4 (q4 h18 h19 h20 h21)), (h18, ob 5 [.int h18f0, .int h18f1, .ref h46]), (h20, ob 5 [.int h20f0, .int h20f1, .ref h48]), (h21, ob 5 [.int h21f0, .int h21f1, .ref h49]), (h46, aJ (k 1) 40 anJ), (h47, aJ (k 1) 40 anJ), (h48, aJ (k 1) 40 anJ), (h49, aJ (k 1) 40 anJ)]) (as := [h19]) (zcV (q0 := 3) (ci := 5) (As := []) (rest := []) (Tc := [(h19, ob 5 [.int h19f0, .int h19f1, .ref h47])]) hx hb hml hown hU hK hT rfl rfl [3] rfl (by decide) (cX6_isMissing_00176 l D k _ h19 h47 h19f0 h19f1 (by omega) (by omega)) w644 w641 w642 w643 w71 hdX6_isMissing ⟨rfl, rfl⟩ ⟨Nat.le_of_ble_eq_true rfl, Nat.le_of_ble_eq_true rfl⟩ rfl hl.1 (Nat.le_of_ble_eq_true rfl) dX10_put_19 ⟨Nat.le_of_ble_eq_true rfl, Nat.le_of_ble_eq_true rfl⟩) hT hS hA [3] [0, 1, 2, 4, 5, 6, 7, 8, 9] rfl rfl rfl (by decide) (by decide) (fun r22 H locs hB J hS => ?_)
      rcases hB with ⟨c_23, rfl, hT1⟩ | ⟨c_24, rfl, hT1⟩
      · skip
        have hT := J _ hT1
        have hT : TP D A [(h0, ob 7 [.ref h1, .ref h2, .int h0f2, .ref h3, .ref h4, .ref h5, .int h0f6, .ref h6, .int h0f8, .ref h7, .ref h8, .int h0f11, .ref h9, .ref h10, .ref h11, .ref h12, .ref h13]), (h4, aQ (k 3) 4 (q4 h18 h19 h20 h21)), (h18, ob 5 [.int h18f0, .int h18f1, .ref h46]), (h20, ob 5 [.int h20f0, .int h20f1, .ref h48]), (h21, ob 5 [.int h21f0, .int h21f1, .ref h49]), (h46, aJ (k 1) 40 anJ), (h47, aJ (k 1) 40 anJ), (h48, aJ (k 1) 40 anJ), (h49, aJ (k 1) 40 anJ), (h19, ob 5 [.int h19f0, .int h19f1, .ref h47])] _ := hT
        refine lv_if_eq (tgt := 28) hx hb dX10_put_22 (by decide) (fun _ => ?_) (fun cc => absurd (by decide +kernel) cc)
        refine lv_aload hx hb dX10_put_28 (lv_at hl 0 rfl) ?_
        refine lv_iload_n hx hb dX10_put_30 rfl (lv_at hl 3 rfl) ?_
        refine lv_iconst (v := 1) hx hb dX10_put_31 (by decide) ?_
        have q_q26 := li_1
        refine tcI (Tc := [(h19, ob 5 [.int h19f0, .int h19f1, .ref h47])]) (Tr := [(h0, ob 7 [.ref h1, .ref h2, .int h0f2, .ref h3, .ref h4, .ref h5, .int h0f6, .ref h6, .int h0f8, .ref h7, .ref h8, .int h0f11, .ref h9, .ref h10, .ref h11, .ref h12, .ref h13]), (h4, aQ (k 3) 4 (q4 h18 h19 h20 h21)), (h18, ob 5 [.int h18f0, .int h18f1, .ref h46]), (h20, ob 5 [.int h20f0, .int h20f1, .ref h48]), (h21, ob 5 [.int h21f0, .int h21f1, .ref h49]), (h46, aJ (k 1) 40 anJ), (h47, aJ (k 1) 40 anJ), (h48, aJ (k 1) 40 anJ), (h49, aJ (k 1) 40 anJ)]) (as := [h19]) (zcV (q0 := 9) (ci := 5) (As := [.int x2, .int 1]) (rest := []) (Tc := [(h19, ob 5 [.int h19f0, .int h19f1, .ref h47])]) hx hb hml hown hU hK hT rfl rfl [9] rfl (by decide) (cX6_isOutside_6ce95 l D k _ h19 h47 x2 (1) h19f0 h19f1 (by have := li_1; omega) (by omega) (by omega)) w648 w645 w646 w647 w71 hdX6_isOutside ⟨rfl, rfl⟩ ⟨Nat.le_of_ble_eq_true rfl, Nat.le_of_ble_eq_true rfl⟩ rfl hl.1 (Nat.le_of_ble_eq_true rfl) dX10_put_32 ⟨Nat.le_of_ble_eq_true rfl, Nat.le_of_ble_eq_true rfl⟩) hT hS hA [9] [0, 1, 2, 3, 4, 5, 6, 7, 8] rfl rfl rfl (by decide) (by decide) (fun r25 H locs hB J hS => ?_)
        rcases hB with ⟨c_27, c_28, rfl, hT1⟩ | ⟨c_29, c_30, c_31, rfl, hT1⟩ | ⟨c_32, c_33, c_34, rfl, hT1⟩
        · skip
          have hT := J _ hT1
          have hT : TP D A [(h0, ob 7 [.ref h1, .ref h2, .int h0f2, .ref h3, .ref h4, .ref h5, .int h0f6, .ref h6, .int h0f8, .ref h7, .ref h8, .int h0f11, .ref h9, .ref h10, .ref h11, .ref h12, .ref h13]), (h4, aQ (k 3) 4 (q4 h18 h19 h20 h21)), (h18, ob 5 [.int h18f0, .int h18f1, .ref h46]), (h20, ob 5 [.int h20f0, .int h20f1, .ref h48]), (h21, ob 5 [.int h21f0, .int h21f1, .ref h49]), (h46, aJ (k 1) 40 anJ), (h47, aJ (k 1) 40 anJ), (h48, aJ (k 1) 40 anJ), (h49, aJ (k 1) 40 anJ), (h19, ob 5 [.int h19f0, .int h19f1, .ref h47])] _ := hT
          refine lv_if_eq (tgt := 41) hx hb dX10_put_35 (by decide) (fun cc => absurd cc (by decide +kernel)) (fun _ => ?_)
          refine lv_bipush (v := (-12)) hx hb dX10_put_38 (by decide) ?_
          exact tz_retI (B := B_cX10_put_20096 D k h0 h4 h18 h19 h20 h21 h46 h47 h48 h49 h1 h2 h3 h5 h6 h7 h8 h9 h10 h11 h12 h13 x1 x2 x3 h0f2 h0f6 h0f8 h0f11 h18f0 h18f1 h19f0 h19f1 h20f0 h20f1 h21f0 h21f1) (v := (-12)) hQ hx hb hr hlocks hS (Nat.le_of_ble_eq_true rfl) (Nat.le_of_ble_eq_true rfl) dX10_put_40 (⟨(by have := li_m12; omega), (by have := li_m12; simp only [FPi, Frow]; (repeat' split) <;> omega), (hT.sub [0, 1, 2, 9, 3, 4, 5, 6, 7, 8] (by decide) rfl)⟩)
        · skip
          have hT := J _ hT1
          have hT : TP D A [(h0, ob 7 [.ref h1, .ref h2, .int h0f2, .ref h3, .ref h4, .ref h5, .int h0f6, .ref h6, .int h0f8, .ref h7, .ref h8, .int h0f11, .ref h9, .ref h10, .ref h11, .ref h12, .ref h13]), (h4, aQ (k 3) 4 (q4 h18 h19 h20 h21)), (h18, ob 5 [.int h18f0, .int h18f1, .ref h46]), (h20, ob 5 [.int h20f0, .int h20f1, .ref h48]), (h21, ob 5 [.int h21f0, .int h21f1, .ref h49]), (h46, aJ (k 1) 40 anJ), (h47, aJ (k 1) 40 anJ), (h48, aJ (k 1) 40 anJ), (h49, aJ (k 1) 40 anJ), (h19, ob 5 [.int h19f0, .int h19f1, .ref h47])] _ := hT
          refine lv_if_eq (tgt := 41) hx hb dX10_put_35 (by decide) (fun _ => ?_) (fun cc => absurd (by decide +kernel) cc)
          refine lv_aload hx hb dX10_put_41 (lv_at hl 0 rfl) ?_
          refine lv_iload_n hx hb dX10_put_43 rfl (lv_at hl 3 rfl) ?_
          refine lv_lload_n hx hb dX10_put_44 rfl (lv_at hl 4 rfl) ?_
          refine tcV (Tc := [(h19, ob 5 [.int h19f0, .int h19f1, .ref h47]), (h47, aJ (k 1) 40 anJ)]) (Tr := [(h0, ob 7 [.ref h1, .ref h2, .int h0f2, .ref h3, .ref h4, .ref h5, .int h0f6, .ref h6, .int h0f8, .ref h7, .ref h8, .int h0f11, .ref h9, .ref h10, .ref h11, .ref h12, .ref h13]), (h4, aQ (k 3) 4 (q4 h18 h19 h20 h21)), (h18, ob 5 [.int h18f0, .int h18f1, .ref h46]), (h20, ob 5 [.int h20f0, .int h20f1, .ref h48]), (h21, ob 5 [.int h21f0, .int h21f1, .ref h49]), (h46, aJ (k 1) 40 anJ), (h48, aJ (k 1) 40 anJ), (h49, aJ (k 1) 40 anJ)]) (as := [h19, h47]) (zcV (q0 := 9) (ci := 5) (As := [.int x2, .long x3]) (rest := []) (Tc := [(h19, ob 5 [.int h19f0, .int h19f1, .ref h47]), (h47, aJ (k 1) 40 anJ)]) hx hb hml hown hU hK hT rfl rfl [9, 6] rfl (by decide) (cX6_write_31564 l D k _ h19 h47 x2 x3 h19f0 h19f1 (by omega) (by omega) (by omega)) w745 w742 w743 w744 w71 hdX6_write ⟨rfl, rfl⟩ ⟨Nat.le_of_ble_eq_true rfl, Nat.le_of_ble_eq_true rfl⟩ rfl hl.1 (Nat.le_of_ble_eq_true rfl) dX10_put_45 ⟨Nat.le_of_ble_eq_true rfl, Nat.le_of_ble_eq_true rfl⟩) hT hS hA [9, 6] [0, 1, 2, 3, 4, 5, 7, 8] rfl rfl rfl (by decide) (by decide) (fun H locs hB J hS => ?_)
          have hT1 := hB
          have hT := J _ hT1
          have hT : TP D A [(h0, ob 7 [.ref h1, .ref h2, .int h0f2, .ref h3, .ref h4, .ref h5, .int h0f6, .ref h6, .int h0f8, .ref h7, .ref h8, .int h0f11, .ref h9, .ref h10, .ref h11, .ref h12, .ref h13]), (h4, aQ (k 3) 4 (q4 h18 h19 h20 h21)), (h18, ob 5 [.int h18f0, .int h18f1, .ref h46]), (h20, ob 5 [.int h20f0, .int h20f1, .ref h48]), (h21, ob 5 [.int h21f0, .int h21f1, .ref h49]), (h46, aJ (k 1) 40 anJ), (h48, aJ (k 1) 40 anJ), (h49, aJ (k 1) 40 anJ), (h19, ob 5 [.int h19f0, .int h19f1, .ref h47]), (h47, aJ (k 1) 40 anJ)] _ := hT
          refine lv_iconst (v := 1) hx hb dX10_put_48 (by decide) ?_
          exact tz_retI (B := B_cX10_put_20096 D k h0 h4 h18 h19 h20 h21 h46 h47 h48 h49 h1 h2 h3 h5 h6 h7 h8 h9 h10 h11 h12 h13 x1 x2 x3 h0f2 h0f6 h0f8 h0f11 h18f0 h18f1 h19f0 h19f1 h20f0 h20f1 h21f0 h21f1) (v := 1) hQ hx hb hr hlocks hS (Nat.le_of_ble_eq_true rfl) (Nat.le_of_ble_eq_true rfl) dX10_put_49 (⟨(by have := li_1; omega), (by have := li_1; simp only [FPi, Frow]; (repeat' split) <;> omega), (hT.sub [0, 1, 2, 8, 3, 4, 5, 9, 6, 7] (by decide) rfl)⟩)
        · skip
          have hT := J _ hT1
          have hT : TP D A [(h0, ob 7 [.ref h1, .ref h2, .int h0f2, .ref h3, .ref h4, .ref h5, .int h0f6, .ref h6, .int h0f8, .ref h7, .ref h8, .int h0f11, .ref h9, .ref h10, .ref h11, .ref h12, .ref h13]), (h4, aQ (k 3) 4 (q4 h18 h19 h20 h21)), (h18, ob 5 [.int h18f0, .int h18f1, .ref h46]), (h20, ob 5 [.int h20f0, .int h20f1, .ref h48]), (h21, ob 5 [.int h21f0, .int h21f1, .ref h49]), (h46, aJ (k 1) 40 anJ), (h47, aJ (k 1) 40 anJ), (h48, aJ (k 1) 40 anJ), (h49, aJ (k 1) 40 anJ), (h19, ob 5 [.int h19f0, .int h19f1, .ref h47])] _ := hT
          refine lv_if_eq (tgt := 41) hx hb dX10_put_35 (by decide) (fun cc => absurd cc (by decide +kernel)) (fun _ => ?_)
          refine lv_bipush (v := (-12)) hx hb dX10_put_38 (by decide) ?_
          exact tz_retI (B := B_cX10_put_20096 D k h0 h4 h18 h19 h20 h21 h46 h47 h48 h49 h1 h2 h3 h5 h6 h7 h8 h9 h10 h11 h12 h13 x1 x2 x3 h0f2 h0f6 h0f8 h0f11 h18f0 h18f1 h19f0 h19f1 h20f0 h20f1 h21f0 h21f1) (v := (-12)) hQ hx hb hr hlocks hS (Nat.le_of_ble_eq_true rfl) (Nat.le_of_ble_eq_true rfl) dX10_put_40 (⟨(by have := li_m12; omega), (by have := li_m12; simp only [FPi, Frow]; (repeat' split) <;> omega), (hT.sub [0, 1, 2, 9, 3, 4, 5, 6, 7, 8] (by decide) rfl)⟩)
      · skip
        have hT := J _ hT1
        have hT : TP D A [(h0, ob 7 [.ref h1, .ref h2, .int h0f2, .ref h3, .ref h4, .ref h5, .int h0f6, .ref h6, .int h0f8, .ref h7, .ref h8, .int h0f11, .ref h9, .ref h10, .ref h11, .ref h12, .ref h13]), (h4, aQ (k 3) 4 (q4 h18 h19 h20 h21)), (h18, ob 5 [.int h18f0, .int h18f1, .ref h46]), (h20, ob 5 [.int h20f0, .int h20f1, .ref h48]), (h21, ob 5 [.int h21f0, .int h21f1, .ref h49]), (h46, aJ (k 1) 40 anJ), (h47, aJ (k 1) 40 anJ), (h48, aJ (k 1) 40 anJ), (h49, aJ (k 1) 40 anJ), (h19, ob 5 [.int h19f0, .int h19f1, .ref h47])] _ := hT
        refine lv_if_eq (tgt := 28) hx hb dX10_put_22 (by decide) (fun cc => absurd cc (by decide +kernel)) (fun _ => ?_)
        refine lv_bipush (v := (-11)) hx hb dX10_put_25 (by decide) ?_
        exact tz_retI (B := B_cX10_put_20096 D k h0 h4 h18 h19 h20 h21 h46 h47 h48 h49 h1 h2 h3 h5 h6 h7 h8 h9 h10 h11 h12 h13 x1 x2 x3 h0f2 h0f6 h0f8 h0f11 h18f0 h18f1 h19f0 h19f1 h20f0 h20f1 h21f0 h21f1) (v := (-11)) hQ hx hb hr hlocks hS (Nat.le_of_ble_eq_true rfl) (Nat.le_of_ble_eq_true rfl) dX10_put_27 (⟨(by have := li_m11; omega), (by have := li_m11; simp only [FPi, Frow]; (repeat' split) <;> omega), (hT.sub [0, 1, 2, 9, 3, 4, 5, 6, 7, 8] (by decide) rfl)⟩)
    · skip
      refine tz_aldq (b := h20) hx hb hK hT 1 rfl (vp_in_iff.mpr (by have := hq7; omega)) (fun f hf => by rw [cl_of hq7]; exact hf.2.2.1) dX10_put_14 ?_
      refine lv_astore (lv' := [(5, .ref h20), (0, .ref h0), (1, .int x1), (2, .int x2), (3, .long x3)]) hx hb dX10_put_15 hl (by decide) rfl (fun ls hl => ?_)
      refine lv_aload hx hb dX10_put_17 (lv_at hl 0 rfl) ?_
      refine tcI (Tc := [(h20, ob 5 [.int h20f0, .int h20f1, .ref h48])]) (Tr := [(h0, ob 7 [.ref h1, .ref h2, .int h0f2, .ref h3, .ref h4, .ref h5, .int h0f6, .ref h6, .int h0f8, .ref h7, .ref h8, .int h0f11, .ref h9, .ref h10, .ref h11, .ref h12, .ref h13]), (h4, aQ (k 3) 4 (q4 h18 h19 h20 h21)), (h18, ob 5 [.int h18f0, .int h18f1, .ref h46]), (h19, ob 5 [.int h19f0, .int h19f1, .ref h47]), (h21, ob 5 [.int h21f0, .int h21f1, .ref h49]), (h46, aJ (k 1) 40 anJ), (h47, aJ (k 1) 40 anJ), (h48, aJ (k 1) 40 anJ), (h49, aJ (k 1) 40 anJ)]) (as := [h20]) (zcV (q0 := 4) (ci := 5) (As := []) (rest := []) (Tc := [(h20, ob 5 [.int h20f0, .int h20f1, .ref h48])]) hx hb hml hown hU hK hT rfl rfl [4] rfl (by decide) (cX6_isMissing_00176 l D k _ h20 h48 h20f0 h20f1 (by omega) (by omega)) w644 w641 w642 w643 w71 hdX6_isMissing ⟨rfl, rfl⟩ ⟨Nat.le_of_ble_eq_true rfl, Nat.le_of_ble_eq_true rfl⟩ rfl hl.1 (Nat.le_of_ble_eq_true rfl) dX10_put_19 ⟨Nat.le_of_ble_eq_true rfl, Nat.le_of_ble_eq_true rfl⟩) hT hS hA [4] [0, 1, 2, 3, 5, 6, 7, 8, 9] rfl rfl rfl (by decide) (by decide) (fun r36 H locs hB J hS => ?_)
      rcases hB with ⟨c_37, rfl, hT1⟩ | ⟨c_38, rfl, hT1⟩
      · skip
        have hT := J _ hT1
        have hT : TP D A [(h0, ob 7 [.ref h1, .ref h2, .int h0f2, .ref h3, .ref h4, .ref h5, .int h0f6, .ref h6, .int h0f8, .ref h7, .ref h8, .int h0f11, .ref h9, .ref h10, .ref h11, .ref h12, .ref h13]), (h4, aQ (k 3) 4 (q4 h18 h19 h20 h21)), (h18, ob 5 [.int h18f0, .int h18f1, .ref h46]), (h19, ob 5 [.int h19f0, .int h19f1, .ref h47]), (h21, ob 5 [.int h21f0, .int h21f1, .ref h49]), (h46, aJ (k 1) 40 anJ), (h47, aJ (k 1) 40 anJ), (h48, aJ (k 1) 40 anJ), (h49, aJ (k 1) 40 anJ), (h20, ob 5 [.int h20f0, .int h20f1, .ref h48])] _ := hT
        refine lv_if_eq (tgt := 28) hx hb dX10_put_22 (by decide) (fun _ => ?_) (fun cc => absurd (by decide +kernel) cc)
        refine lv_aload hx hb dX10_put_28 (lv_at hl 0 rfl) ?_
        refine lv_iload_n hx hb dX10_put_30 rfl (lv_at hl 3 rfl) ?_
        refine lv_iconst (v := 1) hx hb dX10_put_31 (by decide) ?_
        have q_q40 := li_1
        refine tcI (Tc := [(h20, ob 5 [.int h20f0, .int h20f1, .ref h48])]) (Tr := [(h0, ob 7 [.ref h1, .ref h2, .int h0f2, .ref h3, .ref h4, .ref h5, .int h0f6, .ref h6, .int h0f8, .ref h7, .ref h8, .int h0f11, .ref h9, .ref h10, .ref h11, .ref h12, .ref h13]), (h4, aQ (k 3) 4 (q4 h18 h19 h20 h21)), (h18, ob 5 [.int h18f0, .int h18f1, .ref h46]), (h19, ob 5 [.int h19f0, .int h19f1, .ref h47]), (h21, ob 5 [.int h21f0, .int h21f1, .ref h49]), (h46, aJ (k 1) 40 anJ), (h47, aJ (k 1) 40 anJ), (h48, aJ (k 1) 40 anJ), (h49, aJ (k 1) 40 anJ)]) (as := [h20]) (zcV (q0 := 9) (ci := 5) (As := [.int x2, .int 1]) (rest := []) (Tc := [(h20, ob 5 [.int h20f0, .int h20f1, .ref h48])]) hx hb hml hown hU hK hT rfl rfl [9] rfl (by decide) (cX6_isOutside_6ce95 l D k _ h20 h48 x2 (1) h20f0 h20f1 (by have := li_1; omega) (by omega) (by omega)) w648 w645 w646 w647 w71 hdX6_isOutside ⟨rfl, rfl⟩ ⟨Nat.le_of_ble_eq_true rfl, Nat.le_of_ble_eq_true rfl⟩ rfl hl.1 (Nat.le_of_ble_eq_true rfl) dX10_put_32 ⟨Nat.le_of_ble_eq_true rfl, Nat.le_of_ble_eq_true rfl⟩) hT hS hA [9] [0, 1, 2, 3, 4, 5, 6, 7, 8] rfl rfl rfl (by decide) (by decide) (fun r39 H locs hB J hS => ?_)
        rcases hB with ⟨c_41, c_42, rfl, hT1⟩ | ⟨c_43, c_44, c_45, rfl, hT1⟩ | ⟨c_46, c_47, c_48, rfl, hT1⟩
        · skip
          have hT := J _ hT1
          have hT : TP D A [(h0, ob 7 [.ref h1, .ref h2, .int h0f2, .ref h3, .ref h4, .ref h5, .int h0f6, .ref h6, .int h0f8, .ref h7, .ref h8, .int h0f11, .ref h9, .ref h10, .ref h11, .ref h12, .ref h13]), (h4, aQ (k 3) 4 (q4 h18 h19 h20 h21)), (h18, ob 5 [.int h18f0, .int h18f1, .ref h46]), (h19, ob 5 [.int h19f0, .int h19f1, .ref h47]), (h21, ob 5 [.int h21f0, .int h21f1, .ref h49]), (h46, aJ (k 1) 40 anJ), (h47, aJ (k 1) 40 anJ), (h48, aJ (k 1) 40 anJ), (h49, aJ (k 1) 40 anJ), (h20, ob 5 [.int h20f0, .int h20f1, .ref h48])] _ := hT
          refine lv_if_eq (tgt := 41) hx hb dX10_put_35 (by decide) (fun cc => absurd cc (by decide +kernel)) (fun _ => ?_)
          refine lv_bipush (v := (-12)) hx hb dX10_put_38 (by decide) ?_
          exact tz_retI (B := B_cX10_put_20096 D k h0 h4 h18 h19 h20 h21 h46 h47 h48 h49 h1 h2 h3 h5 h6 h7 h8 h9 h10 h11 h12 h13 x1 x2 x3 h0f2 h0f6 h0f8 h0f11 h18f0 h18f1 h19f0 h19f1 h20f0 h20f1 h21f0 h21f1) (v := (-12)) hQ hx hb hr hlocks hS (Nat.le_of_ble_eq_true rfl) (Nat.le_of_ble_eq_true rfl) dX10_put_40 (⟨(by have := li_m12; omega), (by have := li_m12; simp only [FPi, Frow]; (repeat' split) <;> omega), (hT.sub [0, 1, 2, 3, 9, 4, 5, 6, 7, 8] (by decide) rfl)⟩)
        · skip
          have hT := J _ hT1
          have hT : TP D A [(h0, ob 7 [.ref h1, .ref h2, .int h0f2, .ref h3, .ref h4, .ref h5, .int h0f6, .ref h6, .int h0f8, .ref h7, .ref h8, .int h0f11, .ref h9, .ref h10, .ref h11, .ref h12, .ref h13]), (h4, aQ (k 3) 4 (q4 h18 h19 h20 h21)), (h18, ob 5 [.int h18f0, .int h18f1, .ref h46]), (h19, ob 5 [.int h19f0, .int h19f1, .ref h47]), (h21, ob 5 [.int h21f0, .int h21f1, .ref h49]), (h46, aJ (k 1) 40 anJ), (h47, aJ (k 1) 40 anJ), (h48, aJ (k 1) 40 anJ), (h49, aJ (k 1) 40 anJ), (h20, ob 5 [.int h20f0, .int h20f1, .ref h48])] _ := hT
          refine lv_if_eq (tgt := 41) hx hb dX10_put_35 (by decide) (fun _ => ?_) (fun cc => absurd (by decide +kernel) cc)
          refine lv_aload hx hb dX10_put_41 (lv_at hl 0 rfl) ?_
          refine lv_iload_n hx hb dX10_put_43 rfl (lv_at hl 3 rfl) ?_
          refine lv_lload_n hx hb dX10_put_44 rfl (lv_at hl 4 rfl) ?_
          refine tcV (Tc := [(h20, ob 5 [.int h20f0, .int h20f1, .ref h48]), (h48, aJ (k 1) 40 anJ)]) (Tr := [(h0, ob 7 [.ref h1, .ref h2, .int h0f2, .ref h3, .ref h4, .ref h5, .int h0f6, .ref h6, .int h0f8, .ref h7, .ref h8, .int h0f11, .ref h9, .ref h10, .ref h11, .ref h12, .ref h13]), (h4, aQ (k 3) 4 (q4 h18 h19 h20 h21)), (h18, ob 5 [.int h18f0, .int h18f1, .ref h46]), (h19, ob 5 [.int h19f0, .int h19f1, .ref h47]), (h21, ob 5 [.int h21f0, .int h21f1, .ref h49]), (h46, aJ (k 1) 40 anJ), (h47, aJ (k 1) 40 anJ), (h49, aJ (k 1) 40 anJ)]) (as := [h20, h48]) (zcV (q0 := 9) (ci := 5) (As := [.int x2, .long x3]) (rest := []) (Tc := [(h20, ob 5 [.int h20f0, .int h20f1, .ref h48]), (h48, aJ (k 1) 40 anJ)]) hx hb hml hown hU hK hT rfl rfl [9, 7] rfl (by decide) (cX6_write_31564 l D k _ h20 h48 x2 x3 h20f0 h20f1 (by omega) (by omega) (by omega)) w745 w742 w743 w744 w71 hdX6_write ⟨rfl, rfl⟩ ⟨Nat.le_of_ble_eq_true rfl, Nat.le_of_ble_eq_true rfl⟩ rfl hl.1 (Nat.le_of_ble_eq_true rfl) dX10_put_45 ⟨Nat.le_of_ble_eq_true rfl, Nat.le_of_ble_eq_true rfl⟩) hT hS hA [9, 7] [0, 1, 2, 3, 4, 5, 6, 8] rfl rfl rfl (by decide) (by decide) (fun H locs hB J hS => ?_)
          have hT1 := hB
          have hT := J _ hT1
          have hT : TP D A [(h0, ob 7 [.ref h1, .ref h2, .int h0f2, .ref h3, .ref h4, .ref h5, .int h0f6, .ref h6, .int h0f8, .ref h7, .ref h8, .int h0f11, .ref h9, .ref h10, .ref h11, .ref h12, .ref h13]), (h4, aQ (k 3) 4 (q4 h18 h19 h20 h21)), (h18, ob 5 [.int h18f0, .int h18f1, .ref h46]), (h19, ob 5 [.int h19f0, .int h19f1, .ref h47]), (h21, ob 5 [.int h21f0, .int h21f1, .ref h49]), (h46, aJ (k 1) 40 anJ), (h47, aJ (k 1) 40 anJ), (h49, aJ (k 1) 40 anJ), (h20, ob 5 [.int h20f0, .int h20f1, .ref h48]), (h48, aJ (k 1) 40 anJ)] _ := hT
          refine lv_iconst (v := 1) hx hb dX10_put_48 (by decide) ?_
          exact tz_retI (B := B_cX10_put_20096 D k h0 h4 h18 h19 h20 h21 h46 h47 h48 h49 h1 h2 h3 h5 h6 h7 h8 h9 h10 h11 h12 h13 x1 x2 x3 h0f2 h0f6 h0f8 h0f11 h18f0 h18f1 h19f0 h19f1 h20f0 h20f1 h21f0 h21f1) (v := 1) hQ hx hb hr hlocks hS (Nat.le_of_ble_eq_true rfl) (Nat.le_of_ble_eq_true rfl) dX10_put_49 (⟨(by have := li_1; omega), (by have := li_1; simp only [FPi, Frow]; (repeat' split) <;> omega), (hT.sub [0, 1, 2, 3, 8, 4, 5, 6, 9, 7] (by decide) rfl)⟩)
        · skip
          have hT := J _ hT1
          have hT : TP D A [(h0, ob 7 [.ref h1, .ref h2, .int h0f2, .ref h3, .ref h4, .ref h5, .int h0f6, .ref h6, .int h0f8, .ref h7, .ref h8, .int h0f11, .ref h9, .ref h10, .ref h11, .ref h12, .ref h13]), (h4, aQ (k 3) 4 (q4 h18 h19 h20 h21)), (h18, ob 5 [.int h18f0, .int h18f1, .ref h46]), (h19, ob 5 [.int h19f0, .int h19f1, .ref h47]), (h21, ob 5 [.int h21f0, .int h21f1, .ref h49]), (h46, aJ (k 1) 40 anJ), (h47, aJ (k 1) 40 anJ), (h48, aJ (k 1) 40 anJ), (h49, aJ (k 1) 40 anJ), (h20, ob 5 [.int h20f0, .int h20f1, .ref h48])] _ := hT
          refine lv_if_eq (tgt := 41) hx hb dX10_put_35 (by decide) (fun cc => absurd cc (by decide +kernel)) (fun _ => ?_)
          refine lv_bipush (v := (-12)) hx hb dX10_put_38 (by decide) ?_
          exact tz_retI (B := B_cX10_put_20096 D k h0 h4 h18 h19 h20 h21 h46 h47 h48 h49 h1 h2 h3 h5 h6 h7 h8 h9 h10 h11 h12 h13 x1 x2 x3 h0f2 h0f6 h0f8 h0f11 h18f0 h18f1 h19f0 h19f1 h20f0 h20f1 h21f0 h21f1) (v := (-12)) hQ hx hb hr hlocks hS (Nat.le_of_ble_eq_true rfl) (Nat.le_of_ble_eq_true rfl) dX10_put_40 (⟨(by have := li_m12; omega), (by have := li_m12; simp only [FPi, Frow]; (repeat' split) <;> omega), (hT.sub [0, 1, 2, 3, 9, 4, 5, 6, 7, 8] (by decide) rfl)⟩)
      · skip
        have hT := J _ hT1
        have hT : TP D A [(h0, ob 7 [.ref h1, .ref h2, .int h0f2, .ref h3, .ref h4, .ref h5, .int h0f6, .ref h6, .int h0f8, .ref h7, .ref h8, .int h0f11, .ref h9, .ref h10, .ref h11, .ref h12, .ref h13]), (h4, aQ (k 3) 4 (q4 h18 h19 h20 h21)), (h18, ob 5 [.int h18f0, .int h18f1, .ref h46]), (h19, ob 5 [.int h19f0, .int h19f1, .ref h47]), (h21, ob 5 [.int h21f0, .int h21f1, .ref h49]), (h46, aJ (k 1) 40 anJ), (h47, aJ (k 1) 40 anJ), (h48, aJ (k 1) 40 anJ), (h49, aJ (k 1) 40 anJ), (h20, ob 5 [.int h20f0, .int h20f1, .ref h48])] _ := hT
        refine lv_if_eq (tgt := 28) hx hb dX10_put_22 (by decide) (fun cc => absurd cc (by decide +kernel)) (fun _ => ?_)
        refine lv_bipush (v := (-11)) hx hb dX10_put_25 (by decide) ?_
        exact tz_retI (B := B_cX10_put_20096 D k h0 h4 h18 h19 h20 h21 h46 h47 h48 h49 h1 h2 h3 h5 h6 h7 h8 h9 h10 h11 h12 h13 x1 x2 x3 h0f2 h0f6 h0f8 h0f11 h18f0 h18f1 h19f0 h19f1 h20f0 h20f1 h21f0 h21f1) (v := (-11)) hQ hx hb hr hlocks hS (Nat.le_of_ble_eq_true rfl) (Nat.le_of_ble_eq_true rfl) dX10_put_27 (⟨(by have := li_m11; omega), (by have := li_m11; simp only [FPi, Frow]; (repeat' split) <;> omega), (hT.sub [0, 1, 2, 3, 9, 4, 5, 6, 7, 8] (by decide) rfl)⟩)
    · skip
      refine tz_aldq (b := h21) hx hb hK hT 1 rfl (vp_in_iff.mpr (by have := hq7; omega)) (fun f hf => by rw [cl_of hq7]; exact hf.2.2.2) dX10_put_14 ?_
      refine lv_astore (lv' := [(5, .ref h21), (0, .ref h0), (1, .int x1), (2, .int x2), (3, .long x3)]) hx hb dX10_put_15 hl (by decide) rfl (fun ls hl => ?_)
      refine lv_aload hx hb dX10_put_17 (lv_at hl 0 rfl) ?_
      refine tcI (Tc := [(h21, ob 5 [.int h21f0, .int h21f1, .ref h49])]) (Tr := [(h0, ob 7 [.ref h1, .ref h2, .int h0f2, .ref h3, .ref h4, .ref h5, .int h0f6, .ref h6, .int h0f8, .ref h7, .ref h8, .int h0f11, .ref h9, .ref h10, .ref h11, .ref h12, .ref h13]), (h4, aQ (k 3) 4 (q4 h18 h19 h20 h21)), (h18, ob 5 [.int h18f0, .int h18f1, .ref h46]), (h19, ob 5 [.int h19f0, .int h19f1, .ref h47]), (h20, ob 5 [.int h20f0, .int h20f1, .ref h48]), (h46, aJ (k 1) 40 anJ), (h47, aJ (k 1) 40 anJ), (h48, aJ (k 1) 40 anJ), (h49, aJ (k 1) 40 anJ)]) (as := [h21]) (zcV (q0 := 5) (ci := 5) (As := []) (rest := []) (Tc := [(h21, ob 5 [.int h21f0, .int h21f1, .ref h49])]) hx hb hml hown hU hK hT rfl rfl [5] rfl (by decide) (cX6_isMissing_00176 l D k _ h21 h49 h21f0 h21f1 (by omega) (by omega)) w644 w641 w642 w643 w71 hdX6_isMissing ⟨rfl, rfl⟩ ⟨Nat.le_of_ble_eq_true rfl, Nat.le_of_ble_eq_true rfl⟩ rfl hl.1 (Nat.le_of_ble_eq_true rfl) dX10_put_19 ⟨Nat.le_of_ble_eq_true rfl, Nat.le_of_ble_eq_true rfl⟩) hT hS hA [5] [0, 1, 2, 3, 4, 6, 7, 8, 9] rfl rfl rfl (by decide) (by decide) (fun r50 H locs hB J hS => ?_)
      rcases hB with ⟨c_51, rfl, hT1⟩ | ⟨c_52, rfl, hT1⟩
      · skip
        have hT := J _ hT1
        have hT : TP D A [(h0, ob 7 [.ref h1, .ref h2, .int h0f2, .ref h3, .ref h4, .ref h5, .int h0f6, .ref h6, .int h0f8, .ref h7, .ref h8, .int h0f11, .ref h9, .ref h10, .ref h11, .ref h12, .ref h13]), (h4, aQ (k 3) 4 (q4 h18 h19 h20 h21)), (h18, ob 5 [.int h18f0, .int h18f1, .ref h46]), (h19, ob 5 [.int h19f0, .int h19f1, .ref h47]), (h20, ob 5 [.int h20f0, .int h20f1, .ref h48]), (h46, aJ (k 1) 40 anJ), (h47, aJ (k 1) 40 anJ), (h48, aJ (k 1) 40 anJ), (h49, aJ (k 1) 40 anJ), (h21, ob 5 [.int h21f0, .int h21f1, .ref h49])] _ := hT
        refine lv_if_eq (tgt := 28) hx hb dX10_put_22 (by decide) (fun _ => ?_) (fun cc => absurd (by decide +kernel) cc)
        refine lv_aload hx hb dX10_put_28 (lv_at hl 0 rfl) ?_
        refine lv_iload_n hx hb dX10_put_30 rfl (lv_at hl 3 rfl) ?_
        refine lv_iconst (v := 1) hx hb dX10_put_31 (by decide) ?_
        have q_q54 := li_1
        refine tcI (Tc := [(h21, ob 5 [.int h21f0, .int h21f1, .ref h49])]) (Tr := [(h0, ob 7 [.ref h1, .ref h2, .int h0f2, .ref h3, .ref h4, .ref h5, .int h0f6, .ref h6, .int h0f8, .ref h7, .ref h8, .int h0f11, .ref h9, .ref h10, .ref h11, .ref h12, .ref h13]), (h4, aQ (k 3) 4 (q4 h18 h19 h20 h21)), (h18, ob 5 [.int h18f0, .int h18f1, .ref h46]), (h19, ob 5 [.int h19f0, .int h19f1, .ref h47]), (h20, ob 5 [.int h20f0, .int h20f1, .ref h48]), (h46, aJ (k 1) 40 anJ), (h47, aJ (k 1) 40 anJ), (h48, aJ (k 1) 40 anJ), (h49, aJ (k 1) 40 anJ)]) (as := [h21]) (zcV (q0 := 9) (ci := 5) (As := [.int x2, .int 1]) (rest := []) (Tc := [(h21, ob 5 [.int h21f0, .int h21f1, .ref h49])]) hx hb hml hown hU hK hT rfl rfl [9] rfl (by decide) (cX6_isOutside_6ce95 l D k _ h21 h49 x2 (1) h21f0 h21f1 (by have := li_1; omega) (by omega) (by omega)) w648 w645 w646 w647 w71 hdX6_isOutside ⟨rfl, rfl⟩ ⟨Nat.le_of_ble_eq_true rfl, Nat.le_of_ble_eq_true rfl⟩ rfl hl.1 (Nat.le_of_ble_eq_true rfl) dX10_put_32 ⟨Nat.le_of_ble_eq_true rfl, Nat.le_of_ble_eq_true rfl⟩) hT hS hA [9] [0, 1, 2, 3, 4, 5, 6, 7, 8] rfl rfl rfl (by decide) (by decide) (fun r53 H locs hB J hS => ?_)
        rcases hB with ⟨c_55, c_56, rfl, hT1⟩ | ⟨c_57, c_58, c_59, rfl, hT1⟩ | ⟨c_60, c_61, c_62, rfl, hT1⟩
        · skip
          have hT := J _ hT1
          have hT : TP D A [(h0, ob 7 [.ref h1, .ref h2, .int h0f2, .ref h3, .ref h4, .ref h5, .int h0f6, .ref h6, .int h0f8, .ref h7, .ref h8, .int h0f11, .ref h9, .ref h10, .ref h11, .ref h12, .ref h13]), (h4, aQ (k 3) 4 (q4 h18 h19 h20 h21)), (h18, ob 5 [.int h18f0, .int h18f1, .ref h46]), (h19, ob 5 [.int h19f0, .int h19f1, .ref h47]), (h20, ob 5 [.int h20f0, .int h20f1, .ref h48]), (h46, aJ (k 1) 40 anJ), (h47, aJ (k 1) 40 anJ), (h48, aJ (k 1) 40 anJ), (h49, aJ (k 1) 40 anJ), (h21, ob 5 [.int h21f0, .int h21f1, .ref h49])] _ := hT
          refine lv_if_eq (tgt := 41) hx hb dX10_put_35 (by decide) (fun cc => absurd cc (by decide +kernel)) (fun _ => ?_)
          refine lv_bipush (v := (-12)) hx hb dX10_put_38 (by decide) ?_
          exact tz_retI (B := B_cX10_put_20096 D k h0 h4 h18 h19 h20 h21 h46 h47 h48 h49 h1 h2 h3 h5 h6 h7 h8 h9 h10 h11 h12 h13 x1 x2 x3 h0f2 h0f6 h0f8 h0f11 h18f0 h18f1 h19f0 h19f1 h20f0 h20f1 h21f0 h21f1) (v := (-12)) hQ hx hb hr hlocks hS (Nat.le_of_ble_eq_true rfl) (Nat.le_of_ble_eq_true rfl) dX10_put_40 (⟨(by have := li_m12; omega), (by have := li_m12; simp only [FPi, Frow]; (repeat' split) <;> omega), (hT.sub [0, 1, 2, 3, 4, 9, 5, 6, 7, 8] (by decide) rfl)⟩)
        · skip
          have hT := J _ hT1
          have hT : TP D A [(h0, ob 7 [.ref h1, .ref h2, .int h0f2, .ref h3, .ref h4, .ref h5, .int h0f6, .ref h6, .int h0f8, .ref h7, .ref h8, .int h0f11, .ref h9, .ref h10, .ref h11, .ref h12, .ref h13]), (h4, aQ (k 3) 4 (q4 h18 h19 h20 h21)), (h18, ob 5 [.int h18f0, .int h18f1, .ref h46]), (h19, ob 5 [.int h19f0, .int h19f1, .ref h47]), (h20, ob 5 [.int h20f0, .int h20f1, .ref h48]), (h46, aJ (k 1) 40 anJ), (h47, aJ (k 1) 40 anJ), (h48, aJ (k 1) 40 anJ), (h49, aJ (k 1) 40 anJ), (h21, ob 5 [.int h21f0, .int h21f1, .ref h49])] _ := hT
          refine lv_if_eq (tgt := 41) hx hb dX10_put_35 (by decide) (fun _ => ?_) (fun cc => absurd (by decide +kernel) cc)
          refine lv_aload hx hb dX10_put_41 (lv_at hl 0 rfl) ?_
          refine lv_iload_n hx hb dX10_put_43 rfl (lv_at hl 3 rfl) ?_
          refine lv_lload_n hx hb dX10_put_44 rfl (lv_at hl 4 rfl) ?_
          refine tcV (Tc := [(h21, ob 5 [.int h21f0, .int h21f1, .ref h49]), (h49, aJ (k 1) 40 anJ)]) (Tr := [(h0, ob 7 [.ref h1, .ref h2, .int h0f2, .ref h3, .ref h4, .ref h5, .int h0f6, .ref h6, .int h0f8, .ref h7, .ref h8, .int h0f11, .ref h9, .ref h10, .ref h11, .ref h12, .ref h13]), (h4, aQ (k 3) 4 (q4 h18 h19 h20 h21)), (h18, ob 5 [.int h18f0, .int h18f1, .ref h46]), (h19, ob 5 [.int h19f0, .int h19f1, .ref h47]), (h20, ob 5 [.int h20f0, .int h20f1, .ref h48]), (h46, aJ (k 1) 40 anJ), (h47, aJ (k 1) 40 anJ), (h48, aJ (k 1) 40 anJ)]) (as := [h21, h49]) (zcV (q0 := 9) (ci := 5) (As := [.int x2, .long x3]) (rest := []) (Tc := [(h21, ob 5 [.int h21f0, .int h21f1, .ref h49]), (h49, aJ (k 1) 40 anJ)]) hx hb hml hown hU hK hT rfl rfl [9, 8] rfl (by decide) (cX6_write_31564 l D k _ h21 h49 x2 x3 h21f0 h21f1 (by omega) (by omega) (by omega)) w745 w742 w743 w744 w71 hdX6_write ⟨rfl, rfl⟩ ⟨Nat.le_of_ble_eq_true rfl, Nat.le_of_ble_eq_true rfl⟩ rfl hl.1 (Nat.le_of_ble_eq_true rfl) dX10_put_45 ⟨Nat.le_of_ble_eq_true rfl, Nat.le_of_ble_eq_true rfl⟩) hT hS hA [9, 8] [0, 1, 2, 3, 4, 5, 6, 7] rfl rfl rfl (by decide) (by decide) (fun H locs hB J hS => ?_)
          have hT1 := hB
          have hT := J _ hT1
          have hT : TP D A [(h0, ob 7 [.ref h1, .ref h2, .int h0f2, .ref h3, .ref h4, .ref h5, .int h0f6, .ref h6, .int h0f8, .ref h7, .ref h8, .int h0f11, .ref h9, .ref h10, .ref h11, .ref h12, .ref h13]), (h4, aQ (k 3) 4 (q4 h18 h19 h20 h21)), (h18, ob 5 [.int h18f0, .int h18f1, .ref h46]), (h19, ob 5 [.int h19f0, .int h19f1, .ref h47]), (h20, ob 5 [.int h20f0, .int h20f1, .ref h48]), (h46, aJ (k 1) 40 anJ), (h47, aJ (k 1) 40 anJ), (h48, aJ (k 1) 40 anJ), (h21, ob 5 [.int h21f0, .int h21f1, .ref h49]), (h49, aJ (k 1) 40 anJ)] _ := hT
          refine lv_iconst (v := 1) hx hb dX10_put_48 (by decide) ?_
          exact tz_retI (B := B_cX10_put_20096 D k h0 h4 h18 h19 h20 h21 h46 h47 h48 h49 h1 h2 h3 h5 h6 h7 h8 h9 h10 h11 h12 h13 x1 x2 x3 h0f2 h0f6 h0f8 h0f11 h18f0 h18f1 h19f0 h19f1 h20f0 h20f1 h21f0 h21f1) (v := 1) hQ hx hb hr hlocks hS (Nat.le_of_ble_eq_true rfl) (Nat.le_of_ble_eq_true rfl) dX10_put_49 (⟨(by have := li_1; omega), (by have := li_1; simp only [FPi, Frow]; (repeat' split) <;> omega), (hT.sub [0, 1, 2, 3, 4, 8, 5, 6, 7, 9] (by decide) rfl)⟩)
        · skip
          have hT := J _ hT1
          have hT : TP D A [(h0, ob 7 [.ref h1, .ref h2, .int h0f2, .ref h3, .ref h4, .ref h5, .int h0f6, .ref h6, .int h0f8, .ref h7, .ref h8, .int h0f11, .ref h9, .ref h10, .ref h11, .ref h12, .ref h13]), (h4, aQ (k 3) 4 (q4 h18 h19 h20 h21)), (h18, ob 5 [.int h18f0, .int h18f1, .ref h46]), (h19, ob 5 [.int h19f0, .int h19f1, .ref h47]), (h20, ob 5 [.int h20f0, .int h20f1, .ref h48]), (h46, aJ (k 1) 40 anJ), (h47, aJ (k 1) 40 anJ), (h48, aJ (k 1) 40 anJ), (h49, aJ (k 1) 40 anJ), (h21, ob 5 [.int h21f0, .int h21f1, .ref h49])] _ := hT
          refine lv_if_eq (tgt := 41) hx hb dX10_put_35 (by decide) (fun cc => absurd cc (by decide +kernel)) (fun _ => ?_)
          refine lv_bipush (v := (-12)) hx hb dX10_put_38 (by decide) ?_
          exact tz_retI (B := B_cX10_put_20096 D k h0 h4 h18 h19 h20 h21 h46 h47 h48 h49 h1 h2 h3 h5 h6 h7 h8 h9 h10 h11 h12 h13 x1 x2 x3 h0f2 h0f6 h0f8 h0f11 h18f0 h18f1 h19f0 h19f1 h20f0 h20f1 h21f0 h21f1) (v := (-12)) hQ hx hb hr hlocks hS (Nat.le_of_ble_eq_true rfl) (Nat.le_of_ble_eq_true rfl) dX10_put_40 (⟨(by have := li_m12; omega), (by have := li_m12; simp only [FPi, Frow]; (repeat' split) <;> omega), (hT.sub [0, 1, 2, 3, 4, 9, 5, 6, 7, 8] (by decide) rfl)⟩)
      · skip
        have hT := J _ hT1
        have hT : TP D A [(h0, ob 7 [.ref h1, .ref h2, .int h0f2, .ref h3, .ref h4, .ref h5, .int h0f6, .ref h6, .int h0f8, .ref h7, .ref h8, .int h0f11, .ref h9, .ref h10, .ref h11, .ref h12, .ref h13]), (h4, aQ (k 3) 4 (q4 h18 h19 h20 h21)), (h18, ob 5 [.int h18f0, .int h18f1, .ref h46]), (h19, ob 5 [.int h19f0, .int h19f1, .ref h47]), (h20, ob 5 [.int h20f0, .int h20f1, .ref h48]), (h46, aJ (k 1) 40 anJ), (h47, aJ (k 1) 40 anJ), (h48, aJ (k 1) 40 anJ), (h49, aJ (k 1) 40 anJ), (h21, ob 5 [.int h21f0, .int h21f1, .ref h49])] _ := hT
        refine lv_if_eq (tgt := 28) hx hb dX10_put_22 (by decide) (fun cc => absurd cc (by decide +kernel)) (fun _ => ?_)
        refine lv_bipush (v := (-11)) hx hb dX10_put_25 (by decide) ?_
        exact tz_retI (B := B_cX10_put_20096 D k h0 h4 h18 h19 h20 h21 h46 h47 h48 h49 h1 h2 h3 h5 h6 h7 h8 h9 h10 h11 h12 h13 x1 x2 x3 h0f2 h0f6 h0f8 h0f11 h18f0 h18f1 h19f0 h19f1 h20f0 h20f1 h21f0 h21f1) (v := (-11)) hQ hx hb hr hlocks hS (Nat.le_of_ble_eq_true rfl) (Nat.le_of_ble_eq_true rfl) dX10_put_27 (⟨(by have := li_m11; omega), (by have := li_m11; simp only [FPi, Frow]; (repeat' split) <;> omega), (hT.sub [0, 1, 2, 3, 4, 9, 5, 6, 7, 8] (by decide) rfl)⟩)
abbrev Rm_cX11_cut_e8fb2 : Room := { frames := 0, cells := 0, slots := 0, locals := 0 }
abbrev B_cX11_cut_e8fb2 (D : va_G) (k : Nat → ClassId) (x0 : Int32) (x1 : Int64) (A : Nat → Prop) (r : Int64) (H : Heap) : Prop := TP D A [] H
set_option maxHeartbeats 4000000 in
set_option maxRecDepth 100000 in
theorem cX11_cut_e8fb2 (l : Launch) (D : va_G) (k : Nat → ClassId) (sz : Nat) (x0 : Int32) (x1 : Int64) (b_x0 : 0 ≤ x0.toInt ∧ x0.toInt ≤ 2) : Met l yX11_cut (Cond.code yX11_cut cX11_cut 3 (some .long) :: uw) Rm_cX11_cut_e8fb2 (pT D k sz [.int x0, .long x1] []) (qL (B_cX11_cut_e8fb2 D k x0 x1 (zA [] sz)) (zA [] sz)) 0 0 (zA [] sz) := by
  refine tz_begin (as := []) (Qc := fun A => qL (B_cX11_cut_e8fb2 D k x0 x1 A) A) (by decide +kernel) rfl (Nat.le_of_ble_eq_true rfl) ?_
  intro p e s m args below meth c ls A Q hx hb hr hml hown hlocks hin hU hK hT hS hA hl hQ
  have hl : lv_has ls 3 [(0, .int x0), (1, .long x1)] := hl
  have hT : TP D A [] s.heap := hT
  refine lv_iload_n hx hb dX11_cut_0 rfl (lv_at hl 0 rfl) ?_
  refine lv_if_ne (tgt := 10) hx hb dX11_cut_1 (by decide) (fun c_1 => ?_) (fun c_1 => ?_)
  · skip
    have c_1 := ni_ne c_1 rfl li_0
    refine lv_iload_n hx hb dX11_cut_10 rfl (lv_at hl 0 rfl) ?_
    refine lv_iconst (v := 2) hx hb dX11_cut_11 (by decide) ?_
    refine lv_icmp_ne (tgt := 22) hx hb dX11_cut_12 (by decide) (fun c_2 => ?_) (fun c_2 => ?_)
    · skip
      have c_2 := ni_ne c_2 rfl li_2
      refine lv_lload_n hx hb dX11_cut_22 rfl (lv_at hl 1 rfl) ?_
      exact tz_retL (B := B_cX11_cut_e8fb2 D k x0 x1) (v := x1) hQ hx hb hr hlocks hS (Nat.le_of_ble_eq_true rfl) (Nat.le_of_ble_eq_true rfl) dX11_cut_23 (hT)
    · skip
      have c_2 := ni_eq c_2 rfl li_2
      refine lv_lload_n hx hb dX11_cut_15 rfl (lv_at hl 1 rfl) ?_
      refine lv_l2i hx hb dX11_cut_16 rfl (lv_topi (fun v3 _ => ?_))
      refine lv_i2s hx hb dX11_cut_17 rfl (lv_topi (fun v4 _ => ?_))
      have tb_v4 := i32b v4
      obtain ⟨v5, e_v5⟩ : ∃ x : Int64, v4.toInt64 = x := ⟨_, rfl⟩
      refine lv_i2l (v := v5) hx hb dX11_cut_18 e_v5 ?_
      have e_v5 := ai_i2l e_v5 rfl
      refine lv_goto (tgt := 23) hx hb dX11_cut_19 (by decide) ?_
      exact tz_retL (B := B_cX11_cut_e8fb2 D k x0 x1) (v := v5) hQ hx hb hr hlocks hS (Nat.le_of_ble_eq_true rfl) (Nat.le_of_ble_eq_true rfl) dX11_cut_23 (hT)
  · skip
    have c_1 := ni_eq c_1 rfl li_0
    refine lv_lload_n hx hb dX11_cut_4 rfl (lv_at hl 1 rfl) ?_
    refine lv_l2i hx hb dX11_cut_5 rfl (lv_topi (fun v6 _ => ?_))
    have tb_v6 := i32b v6
    obtain ⟨v7, e_v7⟩ : ∃ x : Int64, v6.toInt64 = x := ⟨_, rfl⟩
    refine lv_i2l (v := v7) hx hb dX11_cut_6 e_v7 ?_
    have e_v7 := ai_i2l e_v7 rfl
    refine lv_goto (tgt := 23) hx hb dX11_cut_7 (by decide) ?_
    exact tz_retL (B := B_cX11_cut_e8fb2 D k x0 x1) (v := v7) hQ hx hb hr hlocks hS (Nat.le_of_ble_eq_true rfl) (Nat.le_of_ble_eq_true rfl) dX11_cut_23 (hT)
abbrev Rm_cX11_put_a6099 : Room := { frames := 2, cells := 0, slots := 0, locals := 45 }
abbrev B_cX11_put_a6099 (D : va_G) (k : Nat → ClassId) (h0 h18 h19 h20 h1 h2 h3 h4 h5 h6 h7 h8 h9 h10 h11 h12 h13 h14 h15 h16 h17 h21 : Nat) (x1 : Int32) (x2 : Int32) (x3 : Int64) (h0f0 : Int32) (h0f1 : Int32) (h0f2 : Int32) (h0f3 : Int32) (h0f4 : Int32) (h0f5 : Int32) (h0f8 : Int32) (h0f9 : Int32) (h0f17 : Int32) (h0f18 : Int32) (h0f19 : Int32) (h0f24 : Int32) (h0f25 : Int32) (h0f30 : Int32) (h0f31 : Int32) (h18f0 : Int32) (h18f1 : Int32) (h18f2 : Int32) (h18f3 : Int32) (h19f0 : Int32) (h19f1 : Int32) (h19f2 : Int32) (h19f3 : Int32) (A : Nat → Prop) (r : Int32) (H : Heap) : Prop := ((-12) ≤ r.toInt ∧ r.toInt ≤ 1) ∧ (r.toInt = FPi x1.toInt x2.toInt (h18f0.toInt) (h18f1.toInt) (h18f2.toInt) (h18f3.toInt) (h19f0.toInt) (h19f1.toInt) (h19f2.toInt) (h19f3.toInt)) ∧ TP D A [(h0, ob 8 [.int h0f0, .int h0f1, .int h0f2, .int h0f3, .int h0f4, .int h0f5, .ref h1, .ref h2, .int h0f8, .int h0f9, .ref h3, .ref h4, .ref h5, .ref h6, .ref h7, .ref h8, .ref h9, .int h0f17, .int h0f18, .int h0f19, .ref h10, .ref h11, .ref h12, .ref h13, .int h0f24, .int h0f25, .ref h14, .ref h15, .ref h16, .ref h17, .int h0f30, .int h0f31, .ref h18, .ref h19, .ref h20, .ref h21]), (h18, aI (k 0) 4 (vec4 h18f0 h18f1 h18f2 h18f3)), (h19, aI (k 0) 4 (vec4 h19f0 h19f1 h19f2 h19f3)), (h20, aJ (k 1) 160 anJ)] H
set_option maxHeartbeats 4000000 in
set_option maxRecDepth 100000 in
theorem cX11_put_a6099 (l : Launch) (D : va_G) (k : Nat → ClassId) (sz : Nat) (h0 h18 h19 h20 h1 h2 h3 h4 h5 h6 h7 h8 h9 h10 h11 h12 h13 h14 h15 h16 h17 h21 : Nat) (x1 : Int32) (x2 : Int32) (x3 : Int64) (h0f0 : Int32) (h0f1 : Int32) (h0f2 : Int32) (h0f3 : Int32) (h0f4 : Int32) (h0f5 : Int32) (h0f8 : Int32) (h0f9 : Int32) (h0f17 : Int32) (h0f18 : Int32) (h0f19 : Int32) (h0f24 : Int32) (h0f25 : Int32) (h0f30 : Int32) (h0f31 : Int32) (h18f0 : Int32) (h18f1 : Int32) (h18f2 : Int32) (h18f3 : Int32) (h19f0 : Int32) (h19f1 : Int32) (h19f2 : Int32) (h19f3 : Int32) (b_h0f0 : 1 ≤ h0f0.toInt ∧ h0f0.toInt ≤ 3) (b_h0f1 : 0 ≤ h0f1.toInt ∧ h0f1.toInt ≤ 4) (b_h0f3 : 0 ≤ h0f3.toInt ∧ h0f3.toInt ≤ 3) (b_h0f4 : 0 ≤ h0f4.toInt ∧ h0f4.toInt ≤ 4) (b_h0f8 : 0 ≤ h0f8.toInt ∧ h0f8.toInt ≤ 1) (b_h0f9 : 0 ≤ h0f9.toInt ∧ h0f9.toInt ≤ 1) (b_h0f17 : 0 ≤ h0f17.toInt ∧ h0f17.toInt ≤ 120) (b_h0f18 : 0 ≤ h0f18.toInt ∧ h0f18.toInt ≤ 120) (b_h0f19 : 0 ≤ h0f19.toInt ∧ h0f19.toInt ≤ 4) (b_h0f24 : 0 ≤ h0f24.toInt ∧ h0f24.toInt ≤ 100) (b_h0f25 : 0 ≤ h0f25.toInt ∧ h0f25.toInt ≤ 1) (b_h0f30 : 0 ≤ h0f30.toInt ∧ h0f30.toInt ≤ 60) (b_h0f31 : 0 ≤ h0f31.toInt ∧ h0f31.toInt ≤ 1) (b_h18f0 : (-1) ≤ h18f0.toInt ∧ h18f0.toInt ≤ 2) (b_h18f1 : (-1) ≤ h18f1.toInt ∧ h18f1.toInt ≤ 2) (b_h18f2 : (-1) ≤ h18f2.toInt ∧ h18f2.toInt ≤ 2) (b_h18f3 : (-1) ≤ h18f3.toInt ∧ h18f3.toInt ≤ 2) (b_h19f0 : 0 ≤ h19f0.toInt ∧ h19f0.toInt ≤ 40) (b_h19f1 : 0 ≤ h19f1.toInt ∧ h19f1.toInt ≤ 40) (b_h19f2 : 0 ≤ h19f2.toInt ∧ h19f2.toInt ≤ 40) (b_h19f3 : 0 ≤ h19f3.toInt ∧ h19f3.toInt ≤ 40) (i_0 : h0f8.toInt ≤ h0f3.toInt) (i_1 : h0f9.toInt ≤ h0f24.toInt) : Met l yX11_put (Cond.code yX11_put cX11_put 5 (some .int) :: uw) Rm_cX11_put_a6099 (pT D k sz [.ref h0, .int x1, .int x2, .long x3] [(h0, ob 8 [.int h0f0, .int h0f1, .int h0f2, .int h0f3, .int h0f4, .int h0f5, .ref h1, .ref h2, .int h0f8, .int h0f9, .ref h3, .ref h4, .ref h5, .ref h6, .ref h7, .ref h8, .ref h9, .int h0f17, .int h0f18, .int h0f19, .ref h10, .ref h11, .ref h12, .ref h13, .int h0f24, .int h0f25, .ref h14, .ref h15, .ref h16, .ref h17, .int h0f30, .int h0f31, .ref h18, .ref h19, .ref h20, .ref h21]), (h18, aI (k 0) 4 (vec4 h18f0 h18f1 h18f2 h18f3)), (h19, aI (k 0) 4 (vec4 h19f0 h19f1 h19f2 h19f3)), (h20, aJ (k 1) 160 anJ)]) (qI (B_cX11_put_a6099 D k h0 h18 h19 h20 h1 h2 h3 h4 h5 h6 h7 h8 h9 h10 h11 h12 h13 h14 h15 h16 h17 h21 x1 x2 x3 h0f0 h0f1 h0f2 h0f3 h0f4 h0f5 h0f8 h0f9 h0f17 h0f18 h0f19 h0f24 h0f25 h0f30 h0f31 h18f0 h18f1 h18f2 h18f3 h19f0 h19f1 h19f2 h19f3 (zA [h0, h18, h19, h20] sz)) (zA [h0, h18, h19, h20] sz)) 0 0 (zA [h0, h18, h19, h20] sz) := by
  refine tz_begin (as := [h0, h18, h19, h20]) (Qc := fun A => qI (B_cX11_put_a6099 D k h0 h18 h19 h20 h1 h2 h3 h4 h5 h6 h7 h8 h9 h10 h11 h12 h13 h14 h15 h16 h17 h21 x1 x2 x3 h0f0 h0f1 h0f2 h0f3 h0f4 h0f5 h0f8 h0f9 h0f17 h0f18 h0f19 h0f24 h0f25 h0f30 h0f31 h18f0 h18f1 h18f2 h18f3 h19f0 h19f1 h19f2 h19f3 A) A) (by decide +kernel) rfl (Nat.le_of_ble_eq_true rfl) ?_
  intro p e s m args below meth c ls A Q hx hb hr hml hown hlocks hin hU hK hT hS hA hl hQ
  have hl : lv_has ls 5 [(0, .ref h0), (1, .int x1), (2, .int x2), (3, .long x3)] := hl
  have hT : TP D A [(h0, ob 8 [.int h0f0, .int h0f1, .int h0f2, .int h0f3, .int h0f4, .int h0f5, .ref h1, .ref h2, .int h0f8, .int h0f9, .ref h3, .ref h4, .ref h5, .ref h6, .ref h7, .ref h8, .ref h9, .int h0f17, .int h0f18, .int h0f19, .ref h10, .ref h11, .ref h12, .ref h13, .int h0f24, .int h0f25, .ref h14, .ref h15, .ref h16, .ref h17, .int h0f30, .int h0f31, .ref h18, .ref h19, .ref h20, .ref h21]), (h18, aI (k 0) 4 (vec4 h18f0 h18f1 h18f2 h18f3)), (h19, aI (k 0) 4 (vec4 h19f0 h19f1 h19f2 h19f3)), (h20, aJ (k 1) 160 anJ)] s.heap := hT
  refine lv_iload_n hx hb dX11_put_0 rfl (lv_at hl 1 rfl) ?_
  refine tcI (Tc := []) (Tr := [(h0, ob 8 [.int h0f0, .int h0f1, .int h0f2, .int h0f3, .int h0f4, .int h0f5, .ref h1, .ref h2, .int h0f8, .int h0f9, .ref h3, .ref h4, .ref h5, .ref h6, .ref h7, .ref h8, .ref h9, .int h0f17, .int h0f18, .int h0f19, .ref h10, .ref h11, .ref h12, .ref h13, .int h0f24, .int h0f25, .ref h14, .ref h15, .ref h16, .ref h17, .int h0f30, .int h0f31, .ref h18, .ref h19, .ref h20, .ref h21]), (h18, aI (k 0) 4 (vec4 h18f0 h18f1 h18f2 h18f3)), (h19, aI (k 0) 4 (vec4 h19f0 h19f1 h19f2 h19f3)), (h20, aJ (k 1) 160 anJ)]) (as := []) (zcS (As := [.int x1]) (rest := []) (Tc := []) hx hb hml hown hU hK hT [] rfl (by decide) (cX11_isSheet_ea237 l D k _ x1) w1101 w1099 w1100 w72 hdX11_isSheet ⟨rfl, rfl⟩ ⟨Nat.le_of_ble_eq_true rfl, Nat.le_of_ble_eq_true rfl⟩ rfl hl.1 (Nat.le_of_ble_eq_true rfl) dX11_put_1 ⟨Nat.le_of_ble_eq_true rfl, Nat.le_of_ble_eq_true rfl⟩) hT hS hA [] [0, 1, 2, 3] rfl rfl rfl (by decide) (by decide) (fun r1 H locs hB J hS => ?_)
  rcases hB with ⟨c_2, rfl, hT1⟩ | ⟨c_3, c_4, rfl, hT1⟩ | ⟨c_5, c_6, rfl, hT1⟩
  · skip
    have hT := J _ hT1
    have hT : TP D A [(h0, ob 8 [.int h0f0, .int h0f1, .int h0f2, .int h0f3, .int h0f4, .int h0f5, .ref h1, .ref h2, .int h0f8, .int h0f9, .ref h3, .ref h4, .ref h5, .ref h6, .ref h7, .ref h8, .ref h9, .int h0f17, .int h0f18, .int h0f19, .ref h10, .ref h11, .ref h12, .ref h13, .int h0f24, .int h0f25, .ref h14, .ref h15, .ref h16, .ref h17, .int h0f30, .int h0f31, .ref h18, .ref h19, .ref h20, .ref h21]), (h18, aI (k 0) 4 (vec4 h18f0 h18f1 h18f2 h18f3)), (h19, aI (k 0) 4 (vec4 h19f0 h19f1 h19f2 h19f3)), (h20, aJ (k 1) 160 anJ)] _ := hT
    refine lv_if_ne (tgt := 9) hx hb dX11_put_4 (by decide) (fun cc => absurd (by decide +kernel) cc) (fun _ => ?_)
    refine lv_iconst (v := (-1)) hx hb dX11_put_7 (by decide) ?_
    exact tz_retI (B := B_cX11_put_a6099 D k h0 h18 h19 h20 h1 h2 h3 h4 h5 h6 h7 h8 h9 h10 h11 h12 h13 h14 h15 h16 h17 h21 x1 x2 x3 h0f0 h0f1 h0f2 h0f3 h0f4 h0f5 h0f8 h0f9 h0f17 h0f18 h0f19 h0f24 h0f25 h0f30 h0f31 h18f0 h18f1 h18f2 h18f3 h19f0 h19f1 h19f2 h19f3) (v := (-1)) hQ hx hb hr hlocks hS (Nat.le_of_ble_eq_true rfl) (Nat.le_of_ble_eq_true rfl) dX11_put_8 (⟨(by have := li_m1; omega), (by have := li_m1; simp only [FPi, Frow]; (repeat' split) <;> omega), hT⟩)
  · skip
    have hT := J _ hT1
    have hT : TP D A [(h0, ob 8 [.int h0f0, .int h0f1, .int h0f2, .int h0f3, .int h0f4, .int h0f5, .ref h1, .ref h2, .int h0f8, .int h0f9, .ref h3, .ref h4, .ref h5, .ref h6, .ref h7, .ref h8, .ref h9, .int h0f17, .int h0f18, .int h0f19, .ref h10, .ref h11, .ref h12, .ref h13, .int h0f24, .int h0f25, .ref h14, .ref h15, .ref h16, .ref h17, .int h0f30, .int h0f31, .ref h18, .ref h19, .ref h20, .ref h21]), (h18, aI (k 0) 4 (vec4 h18f0 h18f1 h18f2 h18f3)), (h19, aI (k 0) 4 (vec4 h19f0 h19f1 h19f2 h19f3)), (h20, aJ (k 1) 160 anJ)] _ := hT
    refine lv_if_ne (tgt := 9) hx hb dX11_put_4 (by decide) (fun cc => absurd (by decide +kernel) cc) (fun _ => ?_)
    refine lv_iconst (v := (-1)) hx hb dX11_put_7 (by decide) ?_
    exact tz_retI (B := B_cX11_put_a6099 D k h0 h18 h19 h20 h1 h2 h3 h4 h5 h6 h7 h8 h9 h10 h11 h12 h13 h14 h15 h16 h17 h21 x1 x2 x3 h0f0 h0f1 h0f2 h0f3 h0f4 h0f5 h0f8 h0f9 h0f17 h0f18 h0f19 h0f24 h0f25 h0f30 h0f31 h18f0 h18f1 h18f2 h18f3 h19f0 h19f1 h19f2 h19f3) (v := (-1)) hQ hx hb hr hlocks hS (Nat.le_of_ble_eq_true rfl) (Nat.le_of_ble_eq_true rfl) dX11_put_8 (⟨(by have := li_m1; omega), (by have := li_m1; simp only [FPi, Frow]; (repeat' split) <;> omega), hT⟩)
  · skip
    have hT := J _ hT1
    have hT : TP D A [(h0, ob 8 [.int h0f0, .int h0f1, .int h0f2, .int h0f3, .int h0f4, .int h0f5, .ref h1, .ref h2, .int h0f8, .int h0f9, .ref h3, .ref h4, .ref h5, .ref h6, .ref h7, .ref h8, .ref h9, .int h0f17, .int h0f18, .int h0f19, .ref h10, .ref h11, .ref h12, .ref h13, .int h0f24, .int h0f25, .ref h14, .ref h15, .ref h16, .ref h17, .int h0f30, .int h0f31, .ref h18, .ref h19, .ref h20, .ref h21]), (h18, aI (k 0) 4 (vec4 h18f0 h18f1 h18f2 h18f3)), (h19, aI (k 0) 4 (vec4 h19f0 h19f1 h19f2 h19f3)), (h20, aJ (k 1) 160 anJ)] _ := hT
    refine lv_if_ne (tgt := 9) hx hb dX11_put_4 (by decide) (fun _ => ?_) (fun cc => absurd cc (by decide +kernel))
    refine lv_aload_n hx hb dX11_put_9 rfl (lv_at hl 0 rfl) ?_
    refine tz_get (ci := 8) (v := .ref h18) (C := RX11) (F := TX11) (N := 36) hx hb hU iX11 hown hK hT 0 rfl rfl 32 (by decide) w817 (fun _ h9 => h9) rfl dX11_put_10 ?_
    refine lv_iload_n hx hb dX11_put_13 rfl (lv_at hl 1 rfl) ?_
    rcases (show x1.toInt = 0 ∨ x1.toInt = 1 ∨ x1.toInt = 2 ∨ x1.toInt = 3 by omega) with hq7 | hq7 | hq7 | hq7
    · skip
      refine tz_iald hx hb hK hT 1 rfl (by omega) dX11_put_14 (fun v8 e_v8 => ?_)
      have e_v8 := x4_g0 e_v8 hq7
      subst e_v8
      refine lv_if_ge (tgt := 21) hx hb dX11_put_15 (by decide) (fun c_9 => ?_) (fun c_9 => ?_)
      · skip
        have c_9 := ni_le c_9 li_0 rfl
        refine lv_iload_n hx hb dX11_put_21 rfl (lv_at hl 2 rfl) ?_
        have tb_x2 := i32b x2
        obtain ⟨v10, e_v10⟩ : ∃ x : Int64, x2.toInt64 = x := ⟨_, rfl⟩
        refine lv_i2l (v := v10) hx hb dX11_put_22 e_v10 ?_
        have e_v10 := ai_i2l e_v10 rfl
        refine lv_lconst (v := 0) hx hb dX11_put_23 (by decide) ?_
        refine lv_aload_n hx hb dX11_put_24 rfl (lv_at hl 0 rfl) ?_
        refine tz_get (ci := 8) (v := .ref h19) (C := RX11) (F := TX11) (N := 36) hx hb hU iX11 hown hK hT 0 rfl rfl 33 (by decide) w818 (fun _ h9 => h9) rfl dX11_put_25 ?_
        refine lv_iload_n hx hb dX11_put_28 rfl (lv_at hl 1 rfl) ?_
        refine tz_iald hx hb hK hT 2 rfl (by omega) dX11_put_29 (fun v11 e_v11 => ?_)
        have e_v11 := x4_g0 e_v11 hq7
        subst e_v11
        refine lv_iconst (v := 1) hx hb dX11_put_30 (by decide) ?_
        refine lv_isub hx hb dX11_put_31 (lv_topi (fun v12 e_v12 => ?_))
        have e_v12 := ai_sub e_v12 rfl li_1 (by omega)
        obtain ⟨v13, e_v13⟩ : ∃ x : Int64, v12.toInt64 = x := ⟨_, rfl⟩
        refine lv_i2l (v := v13) hx hb dX11_put_32 e_v13 ?_
        have e_v13 := ai_i2l e_v13 rfl
        have q_q15 := ll_0
        refine tcI (Tc := []) (Tr := [(h0, ob 8 [.int h0f0, .int h0f1, .int h0f2, .int h0f3, .int h0f4, .int h0f5, .ref h1, .ref h2, .int h0f8, .int h0f9, .ref h3, .ref h4, .ref h5, .ref h6, .ref h7, .ref h8, .ref h9, .int h0f17, .int h0f18, .int h0f19, .ref h10, .ref h11, .ref h12, .ref h13, .int h0f24, .int h0f25, .ref h14, .ref h15, .ref h16, .ref h17, .int h0f30, .int h0f31, .ref h18, .ref h19, .ref h20, .ref h21]), (h18, aI (k 0) 4 (vec4 h18f0 h18f1 h18f2 h18f3)), (h19, aI (k 0) 4 (vec4 h19f0 h19f1 h19f2 h19f3)), (h20, aJ (k 1) 160 anJ)]) (as := []) (zcS (As := [.long v10, .long 0, .long v13]) (rest := []) (Tc := []) hx hb hml hown hU hK hT [] rfl (by decide) (cX11_in_182ae l D k _ v10 (0) v13 (by have := ll_0; omega) (by omega)) w901 w899 w900 w72 hdX11_in ⟨rfl, rfl⟩ ⟨Nat.le_of_ble_eq_true rfl, Nat.le_of_ble_eq_true rfl⟩ rfl hl.1 (Nat.le_of_ble_eq_true rfl) dX11_put_33 ⟨Nat.le_of_ble_eq_true rfl, Nat.le_of_ble_eq_true rfl⟩) hT hS hA [] [0, 1, 2, 3] rfl rfl rfl (by decide) (by decide) (fun r14 H locs hB J hS => ?_)
        rcases hB with ⟨c_16, rfl, hT1⟩ | ⟨c_17, c_18, rfl, hT1⟩ | ⟨c_19, c_20, rfl, hT1⟩
        · skip
          have hT := J _ hT1
          have hT : TP D A [(h0, ob 8 [.int h0f0, .int h0f1, .int h0f2, .int h0f3, .int h0f4, .int h0f5, .ref h1, .ref h2, .int h0f8, .int h0f9, .ref h3, .ref h4, .ref h5, .ref h6, .ref h7, .ref h8, .ref h9, .int h0f17, .int h0f18, .int h0f19, .ref h10, .ref h11, .ref h12, .ref h13, .int h0f24, .int h0f25, .ref h14, .ref h15, .ref h16, .ref h17, .int h0f30, .int h0f31, .ref h18, .ref h19, .ref h20, .ref h21]), (h18, aI (k 0) 4 (vec4 h18f0 h18f1 h18f2 h18f3)), (h19, aI (k 0) 4 (vec4 h19f0 h19f1 h19f2 h19f3)), (h20, aJ (k 1) 160 anJ)] _ := hT
          refine lv_if_ne (tgt := 42) hx hb dX11_put_36 (by decide) (fun cc => absurd (by decide +kernel) cc) (fun _ => ?_)
          refine lv_bipush (v := (-12)) hx hb dX11_put_39 (by decide) ?_
          exact tz_retI (B := B_cX11_put_a6099 D k h0 h18 h19 h20 h1 h2 h3 h4 h5 h6 h7 h8 h9 h10 h11 h12 h13 h14 h15 h16 h17 h21 x1 x2 x3 h0f0 h0f1 h0f2 h0f3 h0f4 h0f5 h0f8 h0f9 h0f17 h0f18 h0f19 h0f24 h0f25 h0f30 h0f31 h18f0 h18f1 h18f2 h18f3 h19f0 h19f1 h19f2 h19f3) (v := (-12)) hQ hx hb hr hlocks hS (Nat.le_of_ble_eq_true rfl) (Nat.le_of_ble_eq_true rfl) dX11_put_41 (⟨(by have := li_m12; omega), (by have := li_m12; simp only [FPi, Frow]; (repeat' split) <;> omega), hT⟩)
        · skip
          have hT := J _ hT1
          have hT : TP D A [(h0, ob 8 [.int h0f0, .int h0f1, .int h0f2, .int h0f3, .int h0f4, .int h0f5, .ref h1, .ref h2, .int h0f8, .int h0f9, .ref h3, .ref h4, .ref h5, .ref h6, .ref h7, .ref h8, .ref h9, .int h0f17, .int h0f18, .int h0f19, .ref h10, .ref h11, .ref h12, .ref h13, .int h0f24, .int h0f25, .ref h14, .ref h15, .ref h16, .ref h17, .int h0f30, .int h0f31, .ref h18, .ref h19, .ref h20, .ref h21]), (h18, aI (k 0) 4 (vec4 h18f0 h18f1 h18f2 h18f3)), (h19, aI (k 0) 4 (vec4 h19f0 h19f1 h19f2 h19f3)), (h20, aJ (k 1) 160 anJ)] _ := hT
          refine lv_if_ne (tgt := 42) hx hb dX11_put_36 (by decide) (fun cc => absurd (by decide +kernel) cc) (fun _ => ?_)
          refine lv_bipush (v := (-12)) hx hb dX11_put_39 (by decide) ?_
          exact tz_retI (B := B_cX11_put_a6099 D k h0 h18 h19 h20 h1 h2 h3 h4 h5 h6 h7 h8 h9 h10 h11 h12 h13 h14 h15 h16 h17 h21 x1 x2 x3 h0f0 h0f1 h0f2 h0f3 h0f4 h0f5 h0f8 h0f9 h0f17 h0f18 h0f19 h0f24 h0f25 h0f30 h0f31 h18f0 h18f1 h18f2 h18f3 h19f0 h19f1 h19f2 h19f3) (v := (-12)) hQ hx hb hr hlocks hS (Nat.le_of_ble_eq_true rfl) (Nat.le_of_ble_eq_true rfl) dX11_put_41 (⟨(by have := li_m12; omega), (by have := li_m12; simp only [FPi, Frow]; (repeat' split) <;> omega), hT⟩)
        · skip
          have hT := J _ hT1
          have hT : TP D A [(h0, ob 8 [.int h0f0, .int h0f1, .int h0f2, .int h0f3, .int h0f4, .int h0f5, .ref h1, .ref h2, .int h0f8, .int h0f9, .ref h3, .ref h4, .ref h5, .ref h6, .ref h7, .ref h8, .ref h9, .int h0f17, .int h0f18, .int h0f19, .ref h10, .ref h11, .ref h12, .ref h13, .int h0f24, .int h0f25, .ref h14, .ref h15, .ref h16, .ref h17, .int h0f30, .int h0f31, .ref h18, .ref h19, .ref h20, .ref h21]), (h18, aI (k 0) 4 (vec4 h18f0 h18f1 h18f2 h18f3)), (h19, aI (k 0) 4 (vec4 h19f0 h19f1 h19f2 h19f3)), (h20, aJ (k 1) 160 anJ)] _ := hT
          refine lv_if_ne (tgt := 42) hx hb dX11_put_36 (by decide) (fun _ => ?_) (fun cc => absurd cc (by decide +kernel))
          refine lv_aload_n hx hb dX11_put_42 rfl (lv_at hl 0 rfl) ?_
          refine tz_get (ci := 8) (v := .ref h20) (C := RX11) (F := TX11) (N := 36) hx hb hU iX11 hown hK hT 0 rfl rfl 34 (by decide) w819 (fun _ h9 => h9) rfl dX11_put_43 ?_
          refine lv_bipush (v := 40) hx hb dX11_put_46 (by decide) ?_
          refine lv_iload_n hx hb dX11_put_48 rfl (lv_at hl 1 rfl) ?_
          refine lv_imul hx hb dX11_put_49 (lv_topi (fun v21 e_v21 => ?_))
          have e_v21 := ai_mul e_v21 li_40 hq7 (by omega)
          refine lv_iload_n hx hb dX11_put_50 rfl (lv_at hl 2 rfl) ?_
          have hq22 : v21.toInt = 0 := by omega
          refine lv_iadd hx hb dX11_put_51 (lv_topi (fun v23 e_v23 => ?_))
          have e_v23 := ai_add e_v23 hq22 rfl (by omega)
          refine lv_aload_n hx hb dX11_put_52 rfl (lv_at hl 0 rfl) ?_
          refine tz_get (ci := 8) (v := .ref h18) (C := RX11) (F := TX11) (N := 36) hx hb hU iX11 hown hK hT 0 rfl rfl 32 (by decide) w817 (fun _ h9 => h9) rfl dX11_put_53 ?_
          refine lv_iload_n hx hb dX11_put_56 rfl (lv_at hl 1 rfl) ?_
          refine tz_iald hx hb hK hT 1 rfl (by omega) dX11_put_57 (fun v24 e_v24 => ?_)
          have e_v24 := x4_g0 e_v24 hq7
          subst e_v24
          refine lv_lload_n hx hb dX11_put_58 rfl (lv_at hl 3 rfl) ?_
          refine tcL (Tc := []) (Tr := [(h0, ob 8 [.int h0f0, .int h0f1, .int h0f2, .int h0f3, .int h0f4, .int h0f5, .ref h1, .ref h2, .int h0f8, .int h0f9, .ref h3, .ref h4, .ref h5, .ref h6, .ref h7, .ref h8, .ref h9, .int h0f17, .int h0f18, .int h0f19, .ref h10, .ref h11, .ref h12, .ref h13, .int h0f24, .int h0f25, .ref h14, .ref h15, .ref h16, .ref h17, .int h0f30, .int h0f31, .ref h18, .ref h19, .ref h20, .ref h21]), (h18, aI (k 0) 4 (vec4 h18f0 h18f1 h18f2 h18f3)), (h19, aI (k 0) 4 (vec4 h19f0 h19f1 h19f2 h19f3)), (h20, aJ (k 1) 160 anJ)]) (as := []) (zcS (As := [.int h18f0, .long x3]) (rest := [.int v23, .ref h20]) (Tc := []) hx hb hml hown hU hK hT [] rfl (by decide) (cX11_cut_e8fb2 l D k _ h18f0 x3 (by omega)) w1189 w1187 w1188 w72 hdX11_cut ⟨rfl, rfl⟩ ⟨Nat.le_of_ble_eq_true rfl, Nat.le_of_ble_eq_true rfl⟩ rfl hl.1 (Nat.le_of_ble_eq_true rfl) dX11_put_59 ⟨Nat.le_of_ble_eq_true rfl, Nat.le_of_ble_eq_true rfl⟩) hT hS hA [] [0, 1, 2, 3] rfl rfl rfl (by decide) (by decide) (fun r25 H locs hB J hS => ?_)
          have hT1 := hB
          have hT := J _ hT1
          have hT : TP D A [(h0, ob 8 [.int h0f0, .int h0f1, .int h0f2, .int h0f3, .int h0f4, .int h0f5, .ref h1, .ref h2, .int h0f8, .int h0f9, .ref h3, .ref h4, .ref h5, .ref h6, .ref h7, .ref h8, .ref h9, .int h0f17, .int h0f18, .int h0f19, .ref h10, .ref h11, .ref h12, .ref h13, .int h0f24, .int h0f25, .ref h14, .ref h15, .ref h16, .ref h17, .int h0f30, .int h0f31, .ref h18, .ref h19, .ref h20, .ref h21]), (h18, aI (k 0) 4 (vec4 h18f0 h18f1 h18f2 h18f3)), (h19, aI (k 0) 4 (vec4 h19f0 h19f1 h19f2 h19f3)), (h20, aJ (k 1) 160 anJ)] _ := hT
          refine tz_last hx hb hK hT hS 3 rfl (by omega) (fun _ _ => trivial) dX11_put_62 (fun H locs hT hS => ?_)
          refine lv_iconst (v := 1) hx hb dX11_put_63 (by decide) ?_
          exact tz_retI (B := B_cX11_put_a6099 D k h0 h18 h19 h20 h1 h2 h3 h4 h5 h6 h7 h8 h9 h10 h11 h12 h13 h14 h15 h16 h17 h21 x1 x2 x3 h0f0 h0f1 h0f2 h0f3 h0f4 h0f5 h0f8 h0f9 h0f17 h0f18 h0f19 h0f24 h0f25 h0f30 h0f31 h18f0 h18f1 h18f2 h18f3 h19f0 h19f1 h19f2 h19f3) (v := 1) hQ hx hb hr hlocks hS (Nat.le_of_ble_eq_true rfl) (Nat.le_of_ble_eq_true rfl) dX11_put_64 (⟨(by have := li_1; omega), (by have := li_1; simp only [FPi, Frow]; (repeat' split) <;> omega), hT⟩)
      · skip
        have c_9 := ni_nle c_9 li_0 rfl
        refine lv_bipush (v := (-11)) hx hb dX11_put_18 (by decide) ?_
        exact tz_retI (B := B_cX11_put_a6099 D k h0 h18 h19 h20 h1 h2 h3 h4 h5 h6 h7 h8 h9 h10 h11 h12 h13 h14 h15 h16 h17 h21 x1 x2 x3 h0f0 h0f1 h0f2 h0f3 h0f4 h0f5 h0f8 h0f9 h0f17 h0f18 h0f19 h0f24 h0f25 h0f30 h0f31 h18f0 h18f1 h18f2 h18f3 h19f0 h19f1 h19f2 h19f3) (v := (-11)) hQ hx hb hr hlocks hS (Nat.le_of_ble_eq_true rfl) (Nat.le_of_ble_eq_true rfl) dX11_put_20 (⟨(by have := li_m11; omega), (by have := li_m11; simp only [FPi, Frow]; (repeat' split) <;> omega), hT⟩)
    · skip
      refine tz_iald hx hb hK hT 1 rfl (by omega) dX11_put_14 (fun v26 e_v26 => ?_)
      have e_v26 := x4_g1 e_v26 hq7
      subst e_v26
      refine lv_if_ge (tgt := 21) hx hb dX11_put_15 (by decide) (fun c_27 => ?_) (fun c_27 => ?_)
      · skip
        have c_27 := ni_le c_27 li_0 rfl
        refine lv_iload_n hx hb dX11_put_21 rfl (lv_at hl 2 rfl) ?_
        have tb_x2 := i32b x2
        obtain ⟨v28, e_v28⟩ : ∃ x : Int64, x2.toInt64 = x := ⟨_, rfl⟩
        refine lv_i2l (v := v28) hx hb dX11_put_22 e_v28 ?_
        have e_v28 := ai_i2l e_v28 rfl
        refine lv_lconst (v := 0) hx hb dX11_put_23 (by decide) ?_
        refine lv_aload_n hx hb dX11_put_24 rfl (lv_at hl 0 rfl) ?_
        refine tz_get (ci := 8) (v := .ref h19) (C := RX11) (F := TX11) (N := 36) hx hb hU iX11 hown hK hT 0 rfl rfl 33 (by decide) w818 (fun _ h9 => h9) rfl dX11_put_25 ?_
        refine lv_iload_n hx hb dX11_put_28 rfl (lv_at hl 1 rfl) ?_
        refine tz_iald hx hb hK hT 2 rfl (by omega) dX11_put_29 (fun v29 e_v29 => ?_)
        have e_v29 := x4_g1 e_v29 hq7
        subst e_v29
        refine lv_iconst (v := 1) hx hb dX11_put_30 (by decide) ?_
        refine lv_isub hx hb dX11_put_31 (lv_topi (fun v30 e_v30 => ?_))
        have e_v30 := ai_sub e_v30 rfl li_1 (by omega)
        obtain ⟨v31, e_v31⟩ : ∃ x : Int64, v30.toInt64 = x := ⟨_, rfl⟩
        refine lv_i2l (v := v31) hx hb dX11_put_32 e_v31 ?_
        have e_v31 := ai_i2l e_v31 rfl
        have q_q33 := ll_0
        refine tcI (Tc := []) (Tr := [(h0, ob 8 [.int h0f0, .int h0f1, .int h0f2, .int h0f3, .int h0f4, .int h0f5, .ref h1, .ref h2, .int h0f8, .int h0f9, .ref h3, .ref h4, .ref h5, .ref h6, .ref h7, .ref h8, .ref h9, .int h0f17, .int h0f18, .int h0f19, .ref h10, .ref h11, .ref h12, .ref h13, .int h0f24, .int h0f25, .ref h14, .ref h15, .ref h16, .ref h17, .int h0f30, .int h0f31, .ref h18, .ref h19, .ref h20, .ref h21]), (h18, aI (k 0) 4 (vec4 h18f0 h18f1 h18f2 h18f3)), (h19, aI (k 0) 4 (vec4 h19f0 h19f1 h19f2 h19f3)), (h20, aJ (k 1) 160 anJ)]) (as := []) (zcS (As := [.long v28, .long 0, .long v31]) (rest := []) (Tc := []) hx hb hml hown hU hK hT [] rfl (by decide) (cX11_in_182ae l D k _ v28 (0) v31 (by have := ll_0; omega) (by omega)) w901 w899 w900 w72 hdX11_in ⟨rfl, rfl⟩ ⟨Nat.le_of_ble_eq_true rfl, Nat.le_of_ble_eq_true rfl⟩ rfl hl.1 (Nat.le_of_ble_eq_true rfl) dX11_put_33 ⟨Nat.le_of_ble_eq_true rfl, Nat.le_of_ble_eq_true rfl⟩) hT hS hA [] [0, 1, 2, 3] rfl rfl rfl (by decide) (by decide) (fun r32 H locs hB J hS => ?_)
        rcases hB with ⟨c_34, rfl, hT1⟩ | ⟨c_35, c_36, rfl, hT1⟩ | ⟨c_37, c_38, rfl, hT1⟩
        · skip
          have hT := J _ hT1
          have hT : TP D A [(h0, ob 8 [.int h0f0, .int h0f1, .int h0f2, .int h0f3, .int h0f4, .int h0f5, .ref h1, .ref h2, .int h0f8, .int h0f9, .ref h3, .ref h4, .ref h5, .ref h6, .ref h7, .ref h8, .ref h9, .int h0f17, .int h0f18, .int h0f19, .ref h10, .ref h11, .ref h12, .ref h13, .int h0f24, .int h0f25, .ref h14, .ref h15, .ref h16, .ref h17, .int h0f30, .int h0f31, .ref h18, .ref h19, .ref h20, .ref h21]), (h18, aI (k 0) 4 (vec4 h18f0 h18f1 h18f2 h18f3)), (h19, aI (k 0) 4 (vec4 h19f0 h19f1 h19f2 h19f3)), (h20, aJ (k 1) 160 anJ)] _ := hT
          refine lv_if_ne (tgt := 42) hx hb dX11_put_36 (by decide) (fun cc => absurd (by decide +kernel) cc) (fun _ => ?_)
          refine lv_bipush (v := (-12)) hx hb dX11_put_39 (by decide) ?_
          exact tz_retI (B := B_cX11_put_a6099 D k h0 h18 h19 h20 h1 h2 h3 h4 h5 h6 h7 h8 h9 h10 h11 h12 h13 h14 h15 h16 h17 h21 x1 x2 x3 h0f0 h0f1 h0f2 h0f3 h0f4 h0f5 h0f8 h0f9 h0f17 h0f18 h0f19 h0f24 h0f25 h0f30 h0f31 h18f0 h18f1 h18f2 h18f3 h19f0 h19f1 h19f2 h19f3) (v := (-12)) hQ hx hb hr hlocks hS (Nat.le_of_ble_eq_true rfl) (Nat.le_of_ble_eq_true rfl) dX11_put_41 (⟨(by have := li_m12; omega), (by have := li_m12; simp only [FPi, Frow]; (repeat' split) <;> omega), hT⟩)
        · skip
          have hT := J _ hT1
          have hT : TP D A [(h0, ob 8 [.int h0f0, .int h0f1, .int h0f2, .int h0f3, .int h0f4, .int h0f5, .ref h1, .ref h2, .int h0f8, .int h0f9, .ref h3, .ref h4, .ref h5, .ref h6, .ref h7, .ref h8, .ref h9, .int h0f17, .int h0f18, .int h0f19, .ref h10, .ref h11, .ref h12, .ref h13, .int h0f24, .int h0f25, .ref h14, .ref h15, .ref h16, .ref h17, .int h0f30, .int h0f31, .ref h18, .ref h19, .ref h20, .ref h21]), (h18, aI (k 0) 4 (vec4 h18f0 h18f1 h18f2 h18f3)), (h19, aI (k 0) 4 (vec4 h19f0 h19f1 h19f2 h19f3)), (h20, aJ (k 1) 160 anJ)] _ := hT
          refine lv_if_ne (tgt := 42) hx hb dX11_put_36 (by decide) (fun cc => absurd (by decide +kernel) cc) (fun _ => ?_)
          refine lv_bipush (v := (-12)) hx hb dX11_put_39 (by decide) ?_
          exact tz_retI (B := B_cX11_put_a6099 D k h0 h18 h19 h20 h1 h2 h3 h4 h5 h6 h7 h8 h9 h10 h11 h12 h13 h14 h15 h16 h17 h21 x1 x2 x3 h0f0 h0f1 h0f2 h0f3 h0f4 h0f5 h0f8 h0f9 h0f17 h0f18 h0f19 h0f24 h0f25 h0f30 h0f31 h18f0 h18f1 h18f2 h18f3 h19f0 h19f1 h19f2 h19f3) (v := (-12)) hQ hx hb hr hlocks hS (Nat.le_of_ble_eq_true rfl) (Nat.le_of_ble_eq_true rfl) dX11_put_41 (⟨(by have := li_m12; omega), (by have := li_m12; simp only [FPi, Frow]; (repeat' split) <;> omega), hT⟩)
        · skip
          have hT := J _ hT1
          have hT : TP D A [(h0, ob 8 [.int h0f0, .int h0f1, .int h0f2, .int h0f3, .int h0f4, .int h0f5, .ref h1, .ref h2, .int h0f8, .int h0f9, .ref h3, .ref h4, .ref h5, .ref h6, .ref h7, .ref h8, .ref h9, .int h0f17, .int h0f18, .int h0f19, .ref h10, .ref h11, .ref h12, .ref h13, .int h0f24, .int h0f25, .ref h14, .ref h15, .ref h16, .ref h17, .int h0f30, .int h0f31, .ref h18, .ref h19, .ref h20, .ref h21]), (h18, aI (k 0) 4 (vec4 h18f0 h18f1 h18f2 h18f3)), (h19, aI (k 0) 4 (vec4 h19f0 h19f1 h19f2 h19f3)), (h20, aJ (k 1) 160 anJ)] _ := hT
          refine lv_if_ne (tgt := 42) hx hb dX11_put_36 (by decide) (fun _ => ?_) (fun cc => absurd cc (by decide +kernel))
          refine lv_aload_n hx hb dX11_put_42 rfl (lv_at hl 0 rfl) ?_
          refine tz_get (ci := 8) (v := .ref h20) (C := RX11) (F := TX11) (N := 36) hx hb hU iX11 hown hK hT 0 rfl rfl 34 (by decide) w819 (fun _ h9 => h9) rfl dX11_put_43 ?_
          refine lv_bipush (v := 40) hx hb dX11_put_46 (by decide) ?_
          refine lv_iload_n hx hb dX11_put_48 rfl (lv_at hl 1 rfl) ?_
          refine lv_imul hx hb dX11_put_49 (lv_topi (fun v39 e_v39 => ?_))
          have e_v39 := ai_mul e_v39 li_40 hq7 (by omega)
          refine lv_iload_n hx hb dX11_put_50 rfl (lv_at hl 2 rfl) ?_
          have hq40 : v39.toInt = 40 := by omega
          refine lv_iadd hx hb dX11_put_51 (lv_topi (fun v41 e_v41 => ?_))
          have e_v41 := ai_add e_v41 hq40 rfl (by omega)
          refine lv_aload_n hx hb dX11_put_52 rfl (lv_at hl 0 rfl) ?_
          refine tz_get (ci := 8) (v := .ref h18) (C := RX11) (F := TX11) (N := 36) hx hb hU iX11 hown hK hT 0 rfl rfl 32 (by decide) w817 (fun _ h9 => h9) rfl dX11_put_53 ?_
          refine lv_iload_n hx hb dX11_put_56 rfl (lv_at hl 1 rfl) ?_
          refine tz_iald hx hb hK hT 1 rfl (by omega) dX11_put_57 (fun v42 e_v42 => ?_)
          have e_v42 := x4_g1 e_v42 hq7
          subst e_v42
          refine lv_lload_n hx hb dX11_put_58 rfl (lv_at hl 3 rfl) ?_
          refine tcL (Tc := []) (Tr := [(h0, ob 8 [.int h0f0, .int h0f1, .int h0f2, .int h0f3, .int h0f4, .int h0f5, .ref h1, .ref h2, .int h0f8, .int h0f9, .ref h3, .ref h4, .ref h5, .ref h6, .ref h7, .ref h8, .ref h9, .int h0f17, .int h0f18, .int h0f19, .ref h10, .ref h11, .ref h12, .ref h13, .int h0f24, .int h0f25, .ref h14, .ref h15, .ref h16, .ref h17, .int h0f30, .int h0f31, .ref h18, .ref h19, .ref h20, .ref h21]), (h18, aI (k 0) 4 (vec4 h18f0 h18f1 h18f2 h18f3)), (h19, aI (k 0) 4 (vec4 h19f0 h19f1 h19f2 h19f3)), (h20, aJ (k 1) 160 anJ)]) (as := []) (zcS (As := [.int h18f1, .long x3]) (rest := [.int v41, .ref h20]) (Tc := []) hx hb hml hown hU hK hT [] rfl (by decide) (cX11_cut_e8fb2 l D k _ h18f1 x3 (by omega)) w1189 w1187 w1188 w72 hdX11_cut ⟨rfl, rfl⟩ ⟨Nat.le_of_ble_eq_true rfl, Nat.le_of_ble_eq_true rfl⟩ rfl hl.1 (Nat.le_of_ble_eq_true rfl) dX11_put_59 ⟨Nat.le_of_ble_eq_true rfl, Nat.le_of_ble_eq_true rfl⟩) hT hS hA [] [0, 1, 2, 3] rfl rfl rfl (by decide) (by decide) (fun r43 H locs hB J hS => ?_)
          have hT1 := hB
          have hT := J _ hT1
          have hT : TP D A [(h0, ob 8 [.int h0f0, .int h0f1, .int h0f2, .int h0f3, .int h0f4, .int h0f5, .ref h1, .ref h2, .int h0f8, .int h0f9, .ref h3, .ref h4, .ref h5, .ref h6, .ref h7, .ref h8, .ref h9, .int h0f17, .int h0f18, .int h0f19, .ref h10, .ref h11, .ref h12, .ref h13, .int h0f24, .int h0f25, .ref h14, .ref h15, .ref h16, .ref h17, .int h0f30, .int h0f31, .ref h18, .ref h19, .ref h20, .ref h21]), (h18, aI (k 0) 4 (vec4 h18f0 h18f1 h18f2 h18f3)), (h19, aI (k 0) 4 (vec4 h19f0 h19f1 h19f2 h19f3)), (h20, aJ (k 1) 160 anJ)] _ := hT
          refine tz_last hx hb hK hT hS 3 rfl (by omega) (fun _ _ => trivial) dX11_put_62 (fun H locs hT hS => ?_)
          refine lv_iconst (v := 1) hx hb dX11_put_63 (by decide) ?_
          exact tz_retI (B := B_cX11_put_a6099 D k h0 h18 h19 h20 h1 h2 h3 h4 h5 h6 h7 h8 h9 h10 h11 h12 h13 h14 h15 h16 h17 h21 x1 x2 x3 h0f0 h0f1 h0f2 h0f3 h0f4 h0f5 h0f8 h0f9 h0f17 h0f18 h0f19 h0f24 h0f25 h0f30 h0f31 h18f0 h18f1 h18f2 h18f3 h19f0 h19f1 h19f2 h19f3) (v := 1) hQ hx hb hr hlocks hS (Nat.le_of_ble_eq_true rfl) (Nat.le_of_ble_eq_true rfl) dX11_put_64 (⟨(by have := li_1; omega), (by have := li_1; simp only [FPi, Frow]; (repeat' split) <;> omega), hT⟩)
      · skip
        have c_27 := ni_nle c_27 li_0 rfl
        refine lv_bipush (v := (-11)) hx hb dX11_put_18 (by decide) ?_
        exact tz_retI (B := B_cX11_put_a6099 D k h0 h18 h19 h20 h1 h2 h3 h4 h5 h6 h7 h8 h9 h10 h11 h12 h13 h14 h15 h16 h17 h21 x1 x2 x3 h0f0 h0f1 h0f2 h0f3 h0f4 h0f5 h0f8 h0f9 h0f17 h0f18 h0f19 h0f24 h0f25 h0f30 h0f31 h18f0 h18f1 h18f2 h18f3 h19f0 h19f1 h19f2 h19f3) (v := (-11)) hQ hx hb hr hlocks hS (Nat.le_of_ble_eq_true rfl) (Nat.le_of_ble_eq_true rfl) dX11_put_20 (⟨(by have := li_m11; omega), (by have := li_m11; simp only [FPi, Frow]; (repeat' split) <;> omega), hT⟩)
    · skip
      refine tz_iald hx hb hK hT 1 rfl (by omega) dX11_put_14 (fun v44 e_v44 => ?_)
      have e_v44 := x4_g2 e_v44 hq7
      subst e_v44
      refine lv_if_ge (tgt := 21) hx hb dX11_put_15 (by decide) (fun c_45 => ?_) (fun c_45 => ?_)
      · skip
        have c_45 := ni_le c_45 li_0 rfl
        refine lv_iload_n hx hb dX11_put_21 rfl (lv_at hl 2 rfl) ?_
        have tb_x2 := i32b x2
        obtain ⟨v46, e_v46⟩ : ∃ x : Int64, x2.toInt64 = x := ⟨_, rfl⟩
        refine lv_i2l (v := v46) hx hb dX11_put_22 e_v46 ?_
        have e_v46 := ai_i2l e_v46 rfl
        refine lv_lconst (v := 0) hx hb dX11_put_23 (by decide) ?_
        refine lv_aload_n hx hb dX11_put_24 rfl (lv_at hl 0 rfl) ?_
        refine tz_get (ci := 8) (v := .ref h19) (C := RX11) (F := TX11) (N := 36) hx hb hU iX11 hown hK hT 0 rfl rfl 33 (by decide) w818 (fun _ h9 => h9) rfl dX11_put_25 ?_
        refine lv_iload_n hx hb dX11_put_28 rfl (lv_at hl 1 rfl) ?_
        refine tz_iald hx hb hK hT 2 rfl (by omega) dX11_put_29 (fun v47 e_v47 => ?_)
        have e_v47 := x4_g2 e_v47 hq7
        subst e_v47
        refine lv_iconst (v := 1) hx hb dX11_put_30 (by decide) ?_
        refine lv_isub hx hb dX11_put_31 (lv_topi (fun v48 e_v48 => ?_))
        have e_v48 := ai_sub e_v48 rfl li_1 (by omega)
        obtain ⟨v49, e_v49⟩ : ∃ x : Int64, v48.toInt64 = x := ⟨_, rfl⟩
        refine lv_i2l (v := v49) hx hb dX11_put_32 e_v49 ?_
        have e_v49 := ai_i2l e_v49 rfl
        have q_q51 := ll_0
        refine tcI (Tc := []) (Tr := [(h0, ob 8 [.int h0f0, .int h0f1, .int h0f2, .int h0f3, .int h0f4, .int h0f5, .ref h1, .ref h2, .int h0f8, .int h0f9, .ref h3, .ref h4, .ref h5, .ref h6, .ref h7, .ref h8, .ref h9, .int h0f17, .int h0f18, .int h0f19, .ref h10, .ref h11, .ref h12, .ref h13, .int h0f24, .int h0f25, .ref h14, .ref h15, .ref h16, .ref h17, .int h0f30, .int h0f31, .ref h18, .ref h19, .ref h20, .ref h21]), (h18, aI (k 0) 4 (vec4 h18f0 h18f1 h18f2 h18f3)), (h19, aI (k 0) 4 (vec4 h19f0 h19f1 h19f2 h19f3)), (h20, aJ (k 1) 160 anJ)]) (as := []) (zcS (As := [.long v46, .long 0, .long v49]) (rest := []) (Tc := []) hx hb hml hown hU hK hT [] rfl (by decide) (cX11_in_182ae l D k _ v46 (0) v49 (by have := ll_0; omega) (by omega)) w901 w899 w900 w72 hdX11_in ⟨rfl, rfl⟩ ⟨Nat.le_of_ble_eq_true rfl, Nat.le_of_ble_eq_true rfl⟩ rfl hl.1 (Nat.le_of_ble_eq_true rfl) dX11_put_33 ⟨Nat.le_of_ble_eq_true rfl, Nat.le_of_ble_eq_true rfl⟩) hT hS hA [] [0, 1, 2, 3] rfl rfl rfl (by decide) (by decide) (fun r50 H locs hB J hS => ?_)
        rcases hB with ⟨c_52, rfl, hT1⟩ | ⟨c_53, c_54, rfl, hT1⟩ | ⟨c_55, c_56, rfl, hT1⟩
        · skip
          have hT := J _ hT1
          have hT : TP D A [(h0, ob 8 [.int h0f0, .int h0f1, .int h0f2, .int h0f3, .int h0f4, .int h0f5, .ref h1, .ref h2, .int h0f8, .int h0f9, .ref h3, .ref h4, .ref h5, .ref h6, .ref h7, .ref h8, .ref h9, .int h0f17, .int h0f18, .int h0f19, .ref h10, .ref h11, .ref h12, .ref h13, .int h0f24, .int h0f25, .ref h14, .ref h15, .ref h16, .ref h17, .int h0f30, .int h0f31, .ref h18, .ref h19, .ref h20, .ref h21]), (h18, aI (k 0) 4 (vec4 h18f0 h18f1 h18f2 h18f3)), (h19, aI (k 0) 4 (vec4 h19f0 h19f1 h19f2 h19f3)), (h20, aJ (k 1) 160 anJ)] _ := hT
          refine lv_if_ne (tgt := 42) hx hb dX11_put_36 (by decide) (fun cc => absurd (by decide +kernel) cc) (fun _ => ?_)
          refine lv_bipush (v := (-12)) hx hb dX11_put_39 (by decide) ?_
          exact tz_retI (B := B_cX11_put_a6099 D k h0 h18 h19 h20 h1 h2 h3 h4 h5 h6 h7 h8 h9 h10 h11 h12 h13 h14 h15 h16 h17 h21 x1 x2 x3 h0f0 h0f1 h0f2 h0f3 h0f4 h0f5 h0f8 h0f9 h0f17 h0f18 h0f19 h0f24 h0f25 h0f30 h0f31 h18f0 h18f1 h18f2 h18f3 h19f0 h19f1 h19f2 h19f3) (v := (-12)) hQ hx hb hr hlocks hS (Nat.le_of_ble_eq_true rfl) (Nat.le_of_ble_eq_true rfl) dX11_put_41 (⟨(by have := li_m12; omega), (by have := li_m12; simp only [FPi, Frow]; (repeat' split) <;> omega), hT⟩)
        · skip
          have hT := J _ hT1
          have hT : TP D A [(h0, ob 8 [.int h0f0, .int h0f1, .int h0f2, .int h0f3, .int h0f4, .int h0f5, .ref h1, .ref h2, .int h0f8, .int h0f9, .ref h3, .ref h4, .ref h5, .ref h6, .ref h7, .ref h8, .ref h9, .int h0f17, .int h0f18, .int h0f19, .ref h10, .ref h11, .ref h12, .ref h13, .int h0f24, .int h0f25, .ref h14, .ref h15, .ref h16, .ref h17, .int h0f30, .int h0f31, .ref h18, .ref h19, .ref h20, .ref h21]), (h18, aI (k 0) 4 (vec4 h18f0 h18f1 h18f2 h18f3)), (h19, aI (k 0) 4 (vec4 h19f0 h19f1 h19f2 h19f3)), (h20, aJ (k 1) 160 anJ)] _ := hT
          refine lv_if_ne (tgt := 42) hx hb dX11_put_36 (by decide) (fun cc => absurd (by decide +kernel) cc) (fun _ => ?_)
          refine lv_bipush (v := (-12)) hx hb dX11_put_39 (by decide) ?_
          exact tz_retI (B := B_cX11_put_a6099 D k h0 h18 h19 h20 h1 h2 h3 h4 h5 h6 h7 h8 h9 h10 h11 h12 h13 h14 h15 h16 h17 h21 x1 x2 x3 h0f0 h0f1 h0f2 h0f3 h0f4 h0f5 h0f8 h0f9 h0f17 h0f18 h0f19 h0f24 h0f25 h0f30 h0f31 h18f0 h18f1 h18f2 h18f3 h19f0 h19f1 h19f2 h19f3) (v := (-12)) hQ hx hb hr hlocks hS (Nat.le_of_ble_eq_true rfl) (Nat.le_of_ble_eq_true rfl) dX11_put_41 (⟨(by have := li_m12; omega), (by have := li_m12; simp only [FPi, Frow]; (repeat' split) <;> omega), hT⟩)
        · skip
          have hT := J _ hT1
          have hT : TP D A [(h0, ob 8 [.int h0f0, .int h0f1, .int h0f2, .int h0f3, .int h0f4, .int h0f5, .ref h1, .ref h2, .int h0f8, .int h0f9, .ref h3, .ref h4, .ref h5, .ref h6, .ref h7, .ref h8, .ref h9, .int h0f17, .int h0f18, .int h0f19, .ref h10, .ref h11, .ref h12, .ref h13, .int h0f24, .int h0f25, .ref h14, .ref h15, .ref h16, .ref h17, .int h0f30, .int h0f31, .ref h18, .ref h19, .ref h20, .ref h21]), (h18, aI (k 0) 4 (vec4 h18f0 h18f1 h18f2 h18f3)), (h19, aI (k 0) 4 (vec4 h19f0 h19f1 h19f2 h19f3)), (h20, aJ (k 1) 160 anJ)] _ := hT
          refine lv_if_ne (tgt := 42) hx hb dX11_put_36 (by decide) (fun _ => ?_) (fun cc => absurd cc (by decide +kernel))
          refine lv_aload_n hx hb dX11_put_42 rfl (lv_at hl 0 rfl) ?_
          refine tz_get (ci := 8) (v := .ref h20) (C := RX11) (F := TX11) (N := 36) hx hb hU iX11 hown hK hT 0 rfl rfl 34 (by decide) w819 (fun _ h9 => h9) rfl dX11_put_43 ?_
          refine lv_bipush (v := 40) hx hb dX11_put_46 (by decide) ?_
          refine lv_iload_n hx hb dX11_put_48 rfl (lv_at hl 1 rfl) ?_
          refine lv_imul hx hb dX11_put_49 (lv_topi (fun v57 e_v57 => ?_))
          have e_v57 := ai_mul e_v57 li_40 hq7 (by omega)
          refine lv_iload_n hx hb dX11_put_50 rfl (lv_at hl 2 rfl) ?_
          have hq58 : v57.toInt = 80 := by omega
          refine lv_iadd hx hb dX11_put_51 (lv_topi (fun v59 e_v59 => ?_))
          have e_v59 := ai_add e_v59 hq58 rfl (by omega)
          refine lv_aload_n hx hb dX11_put_52 rfl (lv_at hl 0 rfl) ?_
          refine tz_get (ci := 8) (v := .ref h18) (C := RX11) (F := TX11) (N := 36) hx hb hU iX11 hown hK hT 0 rfl rfl 32 (by decide) w817 (fun _ h9 => h9) rfl dX11_put_53 ?_
          refine lv_iload_n hx hb dX11_put_56 rfl (lv_at hl 1 rfl) ?_
          refine tz_iald hx hb hK hT 1 rfl (by omega) dX11_put_57 (fun v60 e_v60 => ?_)
          have e_v60 := x4_g2 e_v60 hq7
          subst e_v60
          refine lv_lload_n hx hb dX11_put_58 rfl (lv_at hl 3 rfl) ?_
          refine tcL (Tc := []) (Tr := [(h0, ob 8 [.int h0f0, .int h0f1, .int h0f2, .int h0f3, .int h0f4, .int h0f5, .ref h1, .ref h2, .int h0f8, .int h0f9, .ref h3, .ref h4, .ref h5, .ref h6, .ref h7, .ref h8, .ref h9, .int h0f17, .int h0f18, .int h0f19, .ref h10, .ref h11, .ref h12, .ref h13, .int h0f24, .int h0f25, .ref h14, .ref h15, .ref h16, .ref h17, .int h0f30, .int h0f31, .ref h18, .ref h19, .ref h20, .ref h21]), (h18, aI (k 0) 4 (vec4 h18f0 h18f1 h18f2 h18f3)), (h19, aI (k 0) 4 (vec4 h19f0 h19f1 h19f2 h19f3)), (h20, aJ (k 1) 160 anJ)]) (as := []) (zcS (As := [.int h18f2, .long x3]) (rest := [.int v59, .ref h20]) (Tc := []) hx hb hml hown hU hK hT [] rfl (by decide) (cX11_cut_e8fb2 l D k _ h18f2 x3 (by omega)) w1189 w1187 w1188 w72 hdX11_cut ⟨rfl, rfl⟩ ⟨Nat.le_of_ble_eq_true rfl, Nat.le_of_ble_eq_true rfl⟩ rfl hl.1 (Nat.le_of_ble_eq_true rfl) dX11_put_59 ⟨Nat.le_of_ble_eq_true rfl, Nat.le_of_ble_eq_true rfl⟩) hT hS hA [] [0, 1, 2, 3] rfl rfl rfl (by decide) (by decide) (fun r61 H locs hB J hS => ?_)
          have hT1 := hB
          have hT := J _ hT1
          have hT : TP D A [(h0, ob 8 [.int h0f0, .int h0f1, .int h0f2, .int h0f3, .int h0f4, .int h0f5, .ref h1, .ref h2, .int h0f8, .int h0f9, .ref h3, .ref h4, .ref h5, .ref h6, .ref h7, .ref h8, .ref h9, .int h0f17, .int h0f18, .int h0f19, .ref h10, .ref h11, .ref h12, .ref h13, .int h0f24, .int h0f25, .ref h14, .ref h15, .ref h16, .ref h17, .int h0f30, .int h0f31, .ref h18, .ref h19, .ref h20, .ref h21]), (h18, aI (k 0) 4 (vec4 h18f0 h18f1 h18f2 h18f3)), (h19, aI (k 0) 4 (vec4 h19f0 h19f1 h19f2 h19f3)), (h20, aJ (k 1) 160 anJ)] _ := hT
          refine tz_last hx hb hK hT hS 3 rfl (by omega) (fun _ _ => trivial) dX11_put_62 (fun H locs hT hS => ?_)
          refine lv_iconst (v := 1) hx hb dX11_put_63 (by decide) ?_
          exact tz_retI (B := B_cX11_put_a6099 D k h0 h18 h19 h20 h1 h2 h3 h4 h5 h6 h7 h8 h9 h10 h11 h12 h13 h14 h15 h16 h17 h21 x1 x2 x3 h0f0 h0f1 h0f2 h0f3 h0f4 h0f5 h0f8 h0f9 h0f17 h0f18 h0f19 h0f24 h0f25 h0f30 h0f31 h18f0 h18f1 h18f2 h18f3 h19f0 h19f1 h19f2 h19f3) (v := 1) hQ hx hb hr hlocks hS (Nat.le_of_ble_eq_true rfl) (Nat.le_of_ble_eq_true rfl) dX11_put_64 (⟨(by have := li_1; omega), (by have := li_1; simp only [FPi, Frow]; (repeat' split) <;> omega), hT⟩)
      · skip
        have c_45 := ni_nle c_45 li_0 rfl
        refine lv_bipush (v := (-11)) hx hb dX11_put_18 (by decide) ?_
        exact tz_retI (B := B_cX11_put_a6099 D k h0 h18 h19 h20 h1 h2 h3 h4 h5 h6 h7 h8 h9 h10 h11 h12 h13 h14 h15 h16 h17 h21 x1 x2 x3 h0f0 h0f1 h0f2 h0f3 h0f4 h0f5 h0f8 h0f9 h0f17 h0f18 h0f19 h0f24 h0f25 h0f30 h0f31 h18f0 h18f1 h18f2 h18f3 h19f0 h19f1 h19f2 h19f3) (v := (-11)) hQ hx hb hr hlocks hS (Nat.le_of_ble_eq_true rfl) (Nat.le_of_ble_eq_true rfl) dX11_put_20 (⟨(by have := li_m11; omega), (by have := li_m11; simp only [FPi, Frow]; (repeat' split) <;> omega), hT⟩)
    · skip
      refine tz_iald hx hb hK hT 1 rfl (by omega) dX11_put_14 (fun v62 e_v62 => ?_)
      have e_v62 := x4_g3 e_v62 hq7
      subst e_v62
      refine lv_if_ge (tgt := 21) hx hb dX11_put_15 (by decide) (fun c_63 => ?_) (fun c_63 => ?_)
      · skip
        have c_63 := ni_le c_63 li_0 rfl
        refine lv_iload_n hx hb dX11_put_21 rfl (lv_at hl 2 rfl) ?_
        have tb_x2 := i32b x2
        obtain ⟨v64, e_v64⟩ : ∃ x : Int64, x2.toInt64 = x := ⟨_, rfl⟩
        refine lv_i2l (v := v64) hx hb dX11_put_22 e_v64 ?_
        have e_v64 := ai_i2l e_v64 rfl
        refine lv_lconst (v := 0) hx hb dX11_put_23 (by decide) ?_
        refine lv_aload_n hx hb dX11_put_24 rfl (lv_at hl 0 rfl) ?_
        refine tz_get (ci := 8) (v := .ref h19) (C := RX11) (F := TX11) (N := 36) hx hb hU iX11 hown hK hT 0 rfl rfl 33 (by decide) w818 (fun _ h9 => h9) rfl dX11_put_25 ?_
        refine lv_iload_n hx hb dX11_put_28 rfl (lv_at hl 1 rfl) ?_
        refine tz_iald hx hb hK hT 2 rfl (by omega) dX11_put_29 (fun v65 e_v65 => ?_)
        have e_v65 := x4_g3 e_v65 hq7
        subst e_v65
        refine lv_iconst (v := 1) hx hb dX11_put_30 (by decide) ?_
        refine lv_isub hx hb dX11_put_31 (lv_topi (fun v66 e_v66 => ?_))
        have e_v66 := ai_sub e_v66 rfl li_1 (by omega)
        obtain ⟨v67, e_v67⟩ : ∃ x : Int64, v66.toInt64 = x := ⟨_, rfl⟩
        refine lv_i2l (v := v67) hx hb dX11_put_32 e_v67 ?_
        have e_v67 := ai_i2l e_v67 rfl
        have q_q69 := ll_0
        refine tcI (Tc := []) (Tr := [(h0, ob 8 [.int h0f0, .int h0f1, .int h0f2, .int h0f3, .int h0f4, .int h0f5, .ref h1, .ref h2, .int h0f8, .int h0f9, .ref h3, .ref h4, .ref h5, .ref h6, .ref h7, .ref h8, .ref h9, .int h0f17, .int h0f18, .int h0f19, .ref h10, .ref h11, .ref h12, .ref h13, .int h0f24, .int h0f25, .ref h14, .ref h15, .ref h16, .ref h17, .int h0f30, .int h0f31, .ref h18, .ref h19, .ref h20, .ref h21]), (h18, aI (k 0) 4 (vec4 h18f0 h18f1 h18f2 h18f3)), (h19, aI (k 0) 4 (vec4 h19f0 h19f1 h19f2 h19f3)), (h20, aJ (k 1) 160 anJ)]) (as := []) (zcS (As := [.long v64, .long 0, .long v67]) (rest := []) (Tc := []) hx hb hml hown hU hK hT [] rfl (by decide) (cX11_in_182ae l D k _ v64 (0) v67 (by have := ll_0; omega) (by omega)) w901 w899 w900 w72 hdX11_in ⟨rfl, rfl⟩ ⟨Nat.le_of_ble_eq_true rfl, Nat.le_of_ble_eq_true rfl⟩ rfl hl.1 (Nat.le_of_ble_eq_true rfl) dX11_put_33 ⟨Nat.le_of_ble_eq_true rfl, Nat.le_of_ble_eq_true rfl⟩) hT hS hA [] [0, 1, 2, 3] rfl rfl rfl (by decide) (by decide) (fun r68 H locs hB J hS => ?_)
        rcases hB with ⟨c_70, rfl, hT1⟩ | ⟨c_71, c_72, rfl, hT1⟩ | ⟨c_73, c_74, rfl, hT1⟩
        · skip
          have hT := J _ hT1
          have hT : TP D A [(h0, ob 8 [.int h0f0, .int h0f1, .int h0f2, .int h0f3, .int h0f4, .int h0f5, .ref h1, .ref h2, .int h0f8, .int h0f9, .ref h3, .ref h4, .ref h5, .ref h6, .ref h7, .ref h8, .ref h9, .int h0f17, .int h0f18, .int h0f19, .ref h10, .ref h11, .ref h12, .ref h13, .int h0f24, .int h0f25, .ref h14, .ref h15, .ref h16, .ref h17, .int h0f30, .int h0f31, .ref h18, .ref h19, .ref h20, .ref h21]), (h18, aI (k 0) 4 (vec4 h18f0 h18f1 h18f2 h18f3)), (h19, aI (k 0) 4 (vec4 h19f0 h19f1 h19f2 h19f3)), (h20, aJ (k 1) 160 anJ)] _ := hT
          refine lv_if_ne (tgt := 42) hx hb dX11_put_36 (by decide) (fun cc => absurd (by decide +kernel) cc) (fun _ => ?_)
          refine lv_bipush (v := (-12)) hx hb dX11_put_39 (by decide) ?_
          exact tz_retI (B := B_cX11_put_a6099 D k h0 h18 h19 h20 h1 h2 h3 h4 h5 h6 h7 h8 h9 h10 h11 h12 h13 h14 h15 h16 h17 h21 x1 x2 x3 h0f0 h0f1 h0f2 h0f3 h0f4 h0f5 h0f8 h0f9 h0f17 h0f18 h0f19 h0f24 h0f25 h0f30 h0f31 h18f0 h18f1 h18f2 h18f3 h19f0 h19f1 h19f2 h19f3) (v := (-12)) hQ hx hb hr hlocks hS (Nat.le_of_ble_eq_true rfl) (Nat.le_of_ble_eq_true rfl) dX11_put_41 (⟨(by have := li_m12; omega), (by have := li_m12; simp only [FPi, Frow]; (repeat' split) <;> omega), hT⟩)
        · skip
          have hT := J _ hT1
          have hT : TP D A [(h0, ob 8 [.int h0f0, .int h0f1, .int h0f2, .int h0f3, .int h0f4, .int h0f5, .ref h1, .ref h2, .int h0f8, .int h0f9, .ref h3, .ref h4, .ref h5, .ref h6, .ref h7, .ref h8, .ref h9, .int h0f17, .int h0f18, .int h0f19, .ref h10, .ref h11, .ref h12, .ref h13, .int h0f24, .int h0f25, .ref h14, .ref h15, .ref h16, .ref h17, .int h0f30, .int h0f31, .ref h18, .ref h19, .ref h20, .ref h21]), (h18, aI (k 0) 4 (vec4 h18f0 h18f1 h18f2 h18f3)), (h19, aI (k 0) 4 (vec4 h19f0 h19f1 h19f2 h19f3)), (h20, aJ (k 1) 160 anJ)] _ := hT
          refine lv_if_ne (tgt := 42) hx hb dX11_put_36 (by decide) (fun cc => absurd (by decide +kernel) cc) (fun _ => ?_)
          refine lv_bipush (v := (-12)) hx hb dX11_put_39 (by decide) ?_
          exact tz_retI (B := B_cX11_put_a6099 D k h0 h18 h19 h20 h1 h2 h3 h4 h5 h6 h7 h8 h9 h10 h11 h12 h13 h14 h15 h16 h17 h21 x1 x2 x3 h0f0 h0f1 h0f2 h0f3 h0f4 h0f5 h0f8 h0f9 h0f17 h0f18 h0f19 h0f24 h0f25 h0f30 h0f31 h18f0 h18f1 h18f2 h18f3 h19f0 h19f1 h19f2 h19f3) (v := (-12)) hQ hx hb hr hlocks hS (Nat.le_of_ble_eq_true rfl) (Nat.le_of_ble_eq_true rfl) dX11_put_41 (⟨(by have := li_m12; omega), (by have := li_m12; simp only [FPi, Frow]; (repeat' split) <;> omega), hT⟩)
        · skip
          have hT := J _ hT1
          have hT : TP D A [(h0, ob 8 [.int h0f0, .int h0f1, .int h0f2, .int h0f3, .int h0f4, .int h0f5, .ref h1, .ref h2, .int h0f8, .int h0f9, .ref h3, .ref h4, .ref h5, .ref h6, .ref h7, .ref h8, .ref h9, .int h0f17, .int h0f18, .int h0f19, .ref h10, .ref h11, .ref h12, .ref h13, .int h0f24, .int h0f25, .ref h14, .ref h15, .ref h16, .ref h17, .int h0f30, .int h0f31, .ref h18, .ref h19, .ref h20, .ref h21]), (h18, aI (k 0) 4 (vec4 h18f0 h18f1 h18f2 h18f3)), (h19, aI (k 0) 4 (vec4 h19f0 h19f1 h19f2 h19f3)), (h20, aJ (k 1) 160 anJ)] _ := hT
          refine lv_if_ne (tgt := 42) hx hb dX11_put_36 (by decide) (fun _ => ?_) (fun cc => absurd cc (by decide +kernel))
          refine lv_aload_n hx hb dX11_put_42 rfl (lv_at hl 0 rfl) ?_
          refine tz_get (ci := 8) (v := .ref h20) (C := RX11) (F := TX11) (N := 36) hx hb hU iX11 hown hK hT 0 rfl rfl 34 (by decide) w819 (fun _ h9 => h9) rfl dX11_put_43 ?_
          refine lv_bipush (v := 40) hx hb dX11_put_46 (by decide) ?_
          refine lv_iload_n hx hb dX11_put_48 rfl (lv_at hl 1 rfl) ?_
          refine lv_imul hx hb dX11_put_49 (lv_topi (fun v75 e_v75 => ?_))
          have e_v75 := ai_mul e_v75 li_40 hq7 (by omega)
          refine lv_iload_n hx hb dX11_put_50 rfl (lv_at hl 2 rfl) ?_
          have hq76 : v75.toInt = 120 := by omega
          refine lv_iadd hx hb dX11_put_51 (lv_topi (fun v77 e_v77 => ?_))
          have e_v77 := ai_add e_v77 hq76 rfl (by omega)
          refine lv_aload_n hx hb dX11_put_52 rfl (lv_at hl 0 rfl) ?_
          refine tz_get (ci := 8) (v := .ref h18) (C := RX11) (F := TX11) (N := 36) hx hb hU iX11 hown hK hT 0 rfl rfl 32 (by decide) w817 (fun _ h9 => h9) rfl dX11_put_53 ?_
          refine lv_iload_n hx hb dX11_put_56 rfl (lv_at hl 1 rfl) ?_
          refine tz_iald hx hb hK hT 1 rfl (by omega) dX11_put_57 (fun v78 e_v78 => ?_)
          have e_v78 := x4_g3 e_v78 hq7
          subst e_v78
          refine lv_lload_n hx hb dX11_put_58 rfl (lv_at hl 3 rfl) ?_
          refine tcL (Tc := []) (Tr := [(h0, ob 8 [.int h0f0, .int h0f1, .int h0f2, .int h0f3, .int h0f4, .int h0f5, .ref h1, .ref h2, .int h0f8, .int h0f9, .ref h3, .ref h4, .ref h5, .ref h6, .ref h7, .ref h8, .ref h9, .int h0f17, .int h0f18, .int h0f19, .ref h10, .ref h11, .ref h12, .ref h13, .int h0f24, .int h0f25, .ref h14, .ref h15, .ref h16, .ref h17, .int h0f30, .int h0f31, .ref h18, .ref h19, .ref h20, .ref h21]), (h18, aI (k 0) 4 (vec4 h18f0 h18f1 h18f2 h18f3)), (h19, aI (k 0) 4 (vec4 h19f0 h19f1 h19f2 h19f3)), (h20, aJ (k 1) 160 anJ)]) (as := []) (zcS (As := [.int h18f3, .long x3]) (rest := [.int v77, .ref h20]) (Tc := []) hx hb hml hown hU hK hT [] rfl (by decide) (cX11_cut_e8fb2 l D k _ h18f3 x3 (by omega)) w1189 w1187 w1188 w72 hdX11_cut ⟨rfl, rfl⟩ ⟨Nat.le_of_ble_eq_true rfl, Nat.le_of_ble_eq_true rfl⟩ rfl hl.1 (Nat.le_of_ble_eq_true rfl) dX11_put_59 ⟨Nat.le_of_ble_eq_true rfl, Nat.le_of_ble_eq_true rfl⟩) hT hS hA [] [0, 1, 2, 3] rfl rfl rfl (by decide) (by decide) (fun r79 H locs hB J hS => ?_)
          have hT1 := hB
          have hT := J _ hT1
          have hT : TP D A [(h0, ob 8 [.int h0f0, .int h0f1, .int h0f2, .int h0f3, .int h0f4, .int h0f5, .ref h1, .ref h2, .int h0f8, .int h0f9, .ref h3, .ref h4, .ref h5, .ref h6, .ref h7, .ref h8, .ref h9, .int h0f17, .int h0f18, .int h0f19, .ref h10, .ref h11, .ref h12, .ref h13, .int h0f24, .int h0f25, .ref h14, .ref h15, .ref h16, .ref h17, .int h0f30, .int h0f31, .ref h18, .ref h19, .ref h20, .ref h21]), (h18, aI (k 0) 4 (vec4 h18f0 h18f1 h18f2 h18f3)), (h19, aI (k 0) 4 (vec4 h19f0 h19f1 h19f2 h19f3)), (h20, aJ (k 1) 160 anJ)] _ := hT
          refine tz_last hx hb hK hT hS 3 rfl (by omega) (fun _ _ => trivial) dX11_put_62 (fun H locs hT hS => ?_)
          refine lv_iconst (v := 1) hx hb dX11_put_63 (by decide) ?_
          exact tz_retI (B := B_cX11_put_a6099 D k h0 h18 h19 h20 h1 h2 h3 h4 h5 h6 h7 h8 h9 h10 h11 h12 h13 h14 h15 h16 h17 h21 x1 x2 x3 h0f0 h0f1 h0f2 h0f3 h0f4 h0f5 h0f8 h0f9 h0f17 h0f18 h0f19 h0f24 h0f25 h0f30 h0f31 h18f0 h18f1 h18f2 h18f3 h19f0 h19f1 h19f2 h19f3) (v := 1) hQ hx hb hr hlocks hS (Nat.le_of_ble_eq_true rfl) (Nat.le_of_ble_eq_true rfl) dX11_put_64 (⟨(by have := li_1; omega), (by have := li_1; simp only [FPi, Frow]; (repeat' split) <;> omega), hT⟩)
      · skip
        have c_63 := ni_nle c_63 li_0 rfl
        refine lv_bipush (v := (-11)) hx hb dX11_put_18 (by decide) ?_
        exact tz_retI (B := B_cX11_put_a6099 D k h0 h18 h19 h20 h1 h2 h3 h4 h5 h6 h7 h8 h9 h10 h11 h12 h13 h14 h15 h16 h17 h21 x1 x2 x3 h0f0 h0f1 h0f2 h0f3 h0f4 h0f5 h0f8 h0f9 h0f17 h0f18 h0f19 h0f24 h0f25 h0f30 h0f31 h18f0 h18f1 h18f2 h18f3 h19f0 h19f1 h19f2 h19f3) (v := (-11)) hQ hx hb hr hlocks hS (Nat.le_of_ble_eq_true rfl) (Nat.le_of_ble_eq_true rfl) dX11_put_20 (⟨(by have := li_m11; omega), (by have := li_m11; simp only [FPi, Frow]; (repeat' split) <;> omega), hT⟩)
abbrev Rm_cX10_isSort_a679b : Room := { frames := 0, cells := 0, slots := 0, locals := 0 }
abbrev B_cX10_isSort_a679b (D : va_G) (k : Nat → ClassId) (x0 : Int32) (A : Nat → Prop) (r : Int32) (H : Heap) : Prop := (0 = r ∧ TP D A [] H) ∨ (0 ≤ x0.toInt ∧ x0.toInt ≤ 2 ∧ 1 = r ∧ TP D A [] H)
set_option maxHeartbeats 4000000 in
set_option maxRecDepth 100000 in
theorem cX10_isSort_a679b (l : Launch) (D : va_G) (k : Nat → ClassId) (sz : Nat) (x0 : Int32) : Met l yX10_isSort (Cond.code yX10_isSort cX10_isSort 1 (some .boolean) :: uw) Rm_cX10_isSort_a679b (pT D k sz [.int x0] []) (qI (B_cX10_isSort_a679b D k x0 (zA [] sz)) (zA [] sz)) 0 0 (zA [] sz) := by
  refine tz_begin (as := []) (Qc := fun A => qI (B_cX10_isSort_a679b D k x0 A) A) (by decide +kernel) rfl (Nat.le_of_ble_eq_true rfl) ?_
  intro p e s m args below meth c ls A Q hx hb hr hml hown hlocks hin hU hK hT hS hA hl hQ
  have hl : lv_has ls 1 [(0, .int x0)] := hl
  have hT : TP D A [] s.heap := hT
  refine lv_iload_n hx hb dX10_isSort_0 rfl (lv_at hl 0 rfl) ?_
  refine lv_if_lt (tgt := 13) hx hb dX10_isSort_1 (by decide) (fun c_1 => ?_) (fun c_1 => ?_)
  · skip
    have c_1 := ni_lt c_1 rfl li_0
    refine lv_iconst (v := 0) hx hb dX10_isSort_13 (by decide) ?_
    exact tz_retZ (B := B_cX10_isSort_a679b D k x0) (v := 0) hQ hx hb hr hlocks hS (Nat.le_of_ble_eq_true rfl) (Nat.le_of_ble_eq_true rfl) dX10_isSort_14 (by have := li_0; omega) (Or.inl ⟨rfl, hT⟩)
  · skip
    have c_1 := ni_nlt c_1 rfl li_0
    refine lv_iload_n hx hb dX10_isSort_4 rfl (lv_at hl 0 rfl) ?_
    refine lv_iconst (v := 2) hx hb dX10_isSort_5 (by decide) ?_
    refine lv_icmp_gt (tgt := 13) hx hb dX10_isSort_6 (by decide) (fun c_2 => ?_) (fun c_2 => ?_)
    · skip
      have c_2 := ni_lt c_2 li_2 rfl
      refine lv_iconst (v := 0) hx hb dX10_isSort_13 (by decide) ?_
      exact tz_retZ (B := B_cX10_isSort_a679b D k x0) (v := 0) hQ hx hb hr hlocks hS (Nat.le_of_ble_eq_true rfl) (Nat.le_of_ble_eq_true rfl) dX10_isSort_14 (by have := li_0; omega) (Or.inl ⟨rfl, hT⟩)
    · skip
      have c_2 := ni_nlt c_2 li_2 rfl
      refine lv_iconst (v := 1) hx hb dX10_isSort_9 (by decide) ?_
      refine lv_goto (tgt := 14) hx hb dX10_isSort_10 (by decide) ?_
      exact tz_retZ (B := B_cX10_isSort_a679b D k x0) (v := 1) hQ hx hb hr hlocks hS (Nat.le_of_ble_eq_true rfl) (Nat.le_of_ble_eq_true rfl) dX10_isSort_14 (by have := li_1; omega) (Or.inr (⟨(by have := li_1; omega), (by have := li_1; omega), rfl, hT⟩))
abbrev Rm_cX10_item_eeb52 : Room := { frames := 1, cells := 0, slots := 0, locals := 22 }
abbrev B_cX10_item_eeb52 (D : va_G) (k : Nat → ClassId) (h0 h4 h17 h18 h19 h20 h37 h38 h39 h40 h1 h2 h3 h5 h6 h7 h8 h9 h10 h11 h12 : Nat) (x1 : Int32) (x2 : Int32) (x3 : Int32) (h0f2 : Int32) (h0f6 : Int32) (h0f8 : Int32) (h0f11 : Int32) (h17f0 : Int32) (h17f1 : Int32) (h18f0 : Int32) (h18f1 : Int32) (h19f0 : Int32) (h19f1 : Int32) (h20f0 : Int32) (h20f1 : Int32) (A : Nat → Prop) (r : Int32) (H : Heap) : Prop := TP D A [(h0, ob 7 [.ref h1, .ref h2, .int h0f2, .ref h3, .ref h4, .ref h5, .int h0f6, .ref h6, .int h0f8, .null, .ref h7, .int h0f11, .ref h8, .ref h9, .ref h10, .ref h11, .ref h12]), (h4, aQ (k 3) 4 (q4 h17 h18 h19 h20)), (h17, ob 5 [.int h17f0, .int h17f1, .ref h37]), (h18, ob 5 [.int h18f0, .int h18f1, .ref h38]), (h19, ob 5 [.int h19f0, .int h19f1, .ref h39]), (h20, ob 5 [.int h20f0, .int h20f1, .ref h40]), (h37, aJ (k 1) 40 anJ), (h38, aJ (k 1) 40 anJ), (h39, aJ (k 1) 40 anJ), (h40, aJ (k 1) 40 anJ)] H
set_option maxHeartbeats 4000000 in
set_option maxRecDepth 100000 in
theorem cX10_item_eeb52 (l : Launch) (D : va_G) (k : Nat → ClassId) (sz : Nat) (h0 h4 h17 h18 h19 h20 h37 h38 h39 h40 h1 h2 h3 h5 h6 h7 h8 h9 h10 h11 h12 : Nat) (x1 : Int32) (x2 : Int32) (x3 : Int32) (h0f2 : Int32) (h0f6 : Int32) (h0f8 : Int32) (h0f11 : Int32) (h17f0 : Int32) (h17f1 : Int32) (h18f0 : Int32) (h18f1 : Int32) (h19f0 : Int32) (h19f1 : Int32) (h20f0 : Int32) (h20f1 : Int32) (b_h0f2 : 0 ≤ h0f2.toInt ∧ h0f2.toInt ≤ 1) (b_h0f6 : 0 ≤ h0f6.toInt ∧ h0f6.toInt ≤ 1) (b_h0f8 : 0 ≤ h0f8.toInt ∧ h0f8.toInt ≤ 1) (b_h0f11 : 0 ≤ h0f11.toInt ∧ h0f11.toInt ≤ 200) (b_h17f0 : (-1) ≤ h17f0.toInt ∧ h17f0.toInt ≤ 2) (b_h17f1 : 0 ≤ h17f1.toInt ∧ h17f1.toInt ≤ 40) (b_h18f0 : (-1) ≤ h18f0.toInt ∧ h18f0.toInt ≤ 2) (b_h18f1 : 0 ≤ h18f1.toInt ∧ h18f1.toInt ≤ 40) (b_h19f0 : (-1) ≤ h19f0.toInt ∧ h19f0.toInt ≤ 2) (b_h19f1 : 0 ≤ h19f1.toInt ∧ h19f1.toInt ≤ 40) (b_h20f0 : (-1) ≤ h20f0.toInt ∧ h20f0.toInt ≤ 2) (b_h20f1 : 0 ≤ h20f1.toInt ∧ h20f1.toInt ≤ 40) : Met l yX10_item (Cond.code yX10_item cX10_item 5 (some .int) :: uw) Rm_cX10_item_eeb52 (pT D k sz [.ref h0, .int x1, .int x2, .int x3] [(h0, ob 7 [.ref h1, .ref h2, .int h0f2, .ref h3, .ref h4, .ref h5, .int h0f6, .ref h6, .int h0f8, .null, .ref h7, .int h0f11, .ref h8, .ref h9, .ref h10, .ref h11, .ref h12]), (h4, aQ (k 3) 4 (q4 h17 h18 h19 h20)), (h17, ob 5 [.int h17f0, .int h17f1, .ref h37]), (h18, ob 5 [.int h18f0, .int h18f1, .ref h38]), (h19, ob 5 [.int h19f0, .int h19f1, .ref h39]), (h20, ob 5 [.int h20f0, .int h20f1, .ref h40]), (h37, aJ (k 1) 40 anJ), (h38, aJ (k 1) 40 anJ), (h39, aJ (k 1) 40 anJ), (h40, aJ (k 1) 40 anJ)]) (qI (B_cX10_item_eeb52 D k h0 h4 h17 h18 h19 h20 h37 h38 h39 h40 h1 h2 h3 h5 h6 h7 h8 h9 h10 h11 h12 x1 x2 x3 h0f2 h0f6 h0f8 h0f11 h17f0 h17f1 h18f0 h18f1 h19f0 h19f1 h20f0 h20f1 (zA [h0, h4, h17, h18, h19, h20, h37, h38, h39, h40] sz)) (zA [h0, h4, h17, h18, h19, h20, h37, h38, h39, h40] sz)) 0 0 (zA [h0, h4, h17, h18, h19, h20, h37, h38, h39, h40] sz) := by
  refine tz_begin (as := [h0, h4, h17, h18, h19, h20, h37, h38, h39, h40]) (Qc := fun A => qI (B_cX10_item_eeb52 D k h0 h4 h17 h18 h19 h20 h37 h38 h39 h40 h1 h2 h3 h5 h6 h7 h8 h9 h10 h11 h12 x1 x2 x3 h0f2 h0f6 h0f8 h0f11 h17f0 h17f1 h18f0 h18f1 h19f0 h19f1 h20f0 h20f1 A) A) (by decide +kernel) rfl (Nat.le_of_ble_eq_true rfl) ?_
  intro p e s m args below meth c ls A Q hx hb hr hml hown hlocks hin hU hK hT hS hA hl hQ
  have hl : lv_has ls 5 [(0, .ref h0), (1, .int x1), (2, .int x2), (3, .int x3)] := hl
  have hT : TP D A [(h0, ob 7 [.ref h1, .ref h2, .int h0f2, .ref h3, .ref h4, .ref h5, .int h0f6, .ref h6, .int h0f8, .null, .ref h7, .int h0f11, .ref h8, .ref h9, .ref h10, .ref h11, .ref h12]), (h4, aQ (k 3) 4 (q4 h17 h18 h19 h20)), (h17, ob 5 [.int h17f0, .int h17f1, .ref h37]), (h18, ob 5 [.int h18f0, .int h18f1, .ref h38]), (h19, ob 5 [.int h19f0, .int h19f1, .ref h39]), (h20, ob 5 [.int h20f0, .int h20f1, .ref h40]), (h37, aJ (k 1) 40 anJ), (h38, aJ (k 1) 40 anJ), (h39, aJ (k 1) 40 anJ), (h40, aJ (k 1) 40 anJ)] s.heap := hT
  refine lv_iload_n hx hb dX10_item_0 rfl (lv_at hl 1 rfl) ?_
  refine tcI (Tc := []) (Tr := [(h0, ob 7 [.ref h1, .ref h2, .int h0f2, .ref h3, .ref h4, .ref h5, .int h0f6, .ref h6, .int h0f8, .null, .ref h7, .int h0f11, .ref h8, .ref h9, .ref h10, .ref h11, .ref h12]), (h4, aQ (k 3) 4 (q4 h17 h18 h19 h20)), (h17, ob 5 [.int h17f0, .int h17f1, .ref h37]), (h18, ob 5 [.int h18f0, .int h18f1, .ref h38]), (h19, ob 5 [.int h19f0, .int h19f1, .ref h39]), (h20, ob 5 [.int h20f0, .int h20f1, .ref h40]), (h37, aJ (k 1) 40 anJ), (h38, aJ (k 1) 40 anJ), (h39, aJ (k 1) 40 anJ), (h40, aJ (k 1) 40 anJ)]) (as := []) (zcS (As := [.int x1]) (rest := []) (Tc := []) hx hb hml hown hU hK hT [] rfl (by decide) (cX10_isSheet_f635c l D k _ x1) w640 w638 w639 w63 hdX10_isSheet ⟨rfl, rfl⟩ ⟨Nat.le_of_ble_eq_true rfl, Nat.le_of_ble_eq_true rfl⟩ rfl hl.1 (Nat.le_of_ble_eq_true rfl) dX10_item_1 ⟨Nat.le_of_ble_eq_true rfl, Nat.le_of_ble_eq_true rfl⟩) hT hS hA [] [0, 1, 2, 3, 4, 5, 6, 7, 8, 9] rfl rfl rfl (by decide) (by decide) (fun r1 H locs hB J hS => ?_)
  rcases hB with ⟨rfl, hT1⟩ | ⟨c_2, c_3, rfl, hT1⟩
  · skip
    have hT := J _ hT1
    have hT : TP D A [(h0, ob 7 [.ref h1, .ref h2, .int h0f2, .ref h3, .ref h4, .ref h5, .int h0f6, .ref h6, .int h0f8, .null, .ref h7, .int h0f11, .ref h8, .ref h9, .ref h10, .ref h11, .ref h12]), (h4, aQ (k 3) 4 (q4 h17 h18 h19 h20)), (h17, ob 5 [.int h17f0, .int h17f1, .ref h37]), (h18, ob 5 [.int h18f0, .int h18f1, .ref h38]), (h19, ob 5 [.int h19f0, .int h19f1, .ref h39]), (h20, ob 5 [.int h20f0, .int h20f1, .ref h40]), (h37, aJ (k 1) 40 anJ), (h38, aJ (k 1) 40 anJ), (h39, aJ (k 1) 40 anJ), (h40, aJ (k 1) 40 anJ)] _ := hT
    refine lv_if_eq (tgt := 14) hx hb dX10_item_4 (by decide) (fun _ => ?_) (fun cc => absurd (by decide +kernel) cc)
    refine lv_iconst (v := (-1)) hx hb dX10_item_14 (by decide) ?_
    exact tz_retI (B := B_cX10_item_eeb52 D k h0 h4 h17 h18 h19 h20 h37 h38 h39 h40 h1 h2 h3 h5 h6 h7 h8 h9 h10 h11 h12 x1 x2 x3 h0f2 h0f6 h0f8 h0f11 h17f0 h17f1 h18f0 h18f1 h19f0 h19f1 h20f0 h20f1) (v := (-1)) hQ hx hb hr hlocks hS (Nat.le_of_ble_eq_true rfl) (Nat.le_of_ble_eq_true rfl) dX10_item_15 (hT)
  · skip
    have hT := J _ hT1
    have hT : TP D A [(h0, ob 7 [.ref h1, .ref h2, .int h0f2, .ref h3, .ref h4, .ref h5, .int h0f6, .ref h6, .int h0f8, .null, .ref h7, .int h0f11, .ref h8, .ref h9, .ref h10, .ref h11, .ref h12]), (h4, aQ (k 3) 4 (q4 h17 h18 h19 h20)), (h17, ob 5 [.int h17f0, .int h17f1, .ref h37]), (h18, ob 5 [.int h18f0, .int h18f1, .ref h38]), (h19, ob 5 [.int h19f0, .int h19f1, .ref h39]), (h20, ob 5 [.int h20f0, .int h20f1, .ref h40]), (h37, aJ (k 1) 40 anJ), (h38, aJ (k 1) 40 anJ), (h39, aJ (k 1) 40 anJ), (h40, aJ (k 1) 40 anJ)] _ := hT
    refine lv_if_eq (tgt := 14) hx hb dX10_item_4 (by decide) (fun cc => absurd cc (by decide +kernel)) (fun _ => ?_)
    refine lv_iload_n hx hb dX10_item_7 rfl (lv_at hl 2 rfl) ?_
    refine tcI (Tc := []) (Tr := [(h0, ob 7 [.ref h1, .ref h2, .int h0f2, .ref h3, .ref h4, .ref h5, .int h0f6, .ref h6, .int h0f8, .null, .ref h7, .int h0f11, .ref h8, .ref h9, .ref h10, .ref h11, .ref h12]), (h4, aQ (k 3) 4 (q4 h17 h18 h19 h20)), (h17, ob 5 [.int h17f0, .int h17f1, .ref h37]), (h18, ob 5 [.int h18f0, .int h18f1, .ref h38]), (h19, ob 5 [.int h19f0, .int h19f1, .ref h39]), (h20, ob 5 [.int h20f0, .int h20f1, .ref h40]), (h37, aJ (k 1) 40 anJ), (h38, aJ (k 1) 40 anJ), (h39, aJ (k 1) 40 anJ), (h40, aJ (k 1) 40 anJ)]) (as := []) (zcS (As := [.int x2]) (rest := []) (Tc := []) hx hb hml hown hU hK hT [] rfl (by decide) (cX10_isSort_a679b l D k _ x2) w732 w730 w731 w63 hdX10_isSort ⟨rfl, rfl⟩ ⟨Nat.le_of_ble_eq_true rfl, Nat.le_of_ble_eq_true rfl⟩ rfl hl.1 (Nat.le_of_ble_eq_true rfl) dX10_item_8 ⟨Nat.le_of_ble_eq_true rfl, Nat.le_of_ble_eq_true rfl⟩) hT hS hA [] [0, 1, 2, 3, 4, 5, 6, 7, 8, 9] rfl rfl rfl (by decide) (by decide) (fun r4 H locs hB J hS => ?_)
    rcases hB with ⟨rfl, hT1⟩ | ⟨c_5, c_6, rfl, hT1⟩
    · skip
      have hT := J _ hT1
      have hT : TP D A [(h0, ob 7 [.ref h1, .ref h2, .int h0f2, .ref h3, .ref h4, .ref h5, .int h0f6, .ref h6, .int h0f8, .null, .ref h7, .int h0f11, .ref h8, .ref h9, .ref h10, .ref h11, .ref h12]), (h4, aQ (k 3) 4 (q4 h17 h18 h19 h20)), (h17, ob 5 [.int h17f0, .int h17f1, .ref h37]), (h18, ob 5 [.int h18f0, .int h18f1, .ref h38]), (h19, ob 5 [.int h19f0, .int h19f1, .ref h39]), (h20, ob 5 [.int h20f0, .int h20f1, .ref h40]), (h37, aJ (k 1) 40 anJ), (h38, aJ (k 1) 40 anJ), (h39, aJ (k 1) 40 anJ), (h40, aJ (k 1) 40 anJ)] _ := hT
      refine lv_if_ne (tgt := 16) hx hb dX10_item_11 (by decide) (fun cc => absurd (by decide +kernel) cc) (fun _ => ?_)
      refine lv_iconst (v := (-1)) hx hb dX10_item_14 (by decide) ?_
      exact tz_retI (B := B_cX10_item_eeb52 D k h0 h4 h17 h18 h19 h20 h37 h38 h39 h40 h1 h2 h3 h5 h6 h7 h8 h9 h10 h11 h12 x1 x2 x3 h0f2 h0f6 h0f8 h0f11 h17f0 h17f1 h18f0 h18f1 h19f0 h19f1 h20f0 h20f1) (v := (-1)) hQ hx hb hr hlocks hS (Nat.le_of_ble_eq_true rfl) (Nat.le_of_ble_eq_true rfl) dX10_item_15 (hT)
    · skip
      have hT := J _ hT1
      have hT : TP D A [(h0, ob 7 [.ref h1, .ref h2, .int h0f2, .ref h3, .ref h4, .ref h5, .int h0f6, .ref h6, .int h0f8, .null, .ref h7, .int h0f11, .ref h8, .ref h9, .ref h10, .ref h11, .ref h12]), (h4, aQ (k 3) 4 (q4 h17 h18 h19 h20)), (h17, ob 5 [.int h17f0, .int h17f1, .ref h37]), (h18, ob 5 [.int h18f0, .int h18f1, .ref h38]), (h19, ob 5 [.int h19f0, .int h19f1, .ref h39]), (h20, ob 5 [.int h20f0, .int h20f1, .ref h40]), (h37, aJ (k 1) 40 anJ), (h38, aJ (k 1) 40 anJ), (h39, aJ (k 1) 40 anJ), (h40, aJ (k 1) 40 anJ)] _ := hT
      refine lv_if_ne (tgt := 16) hx hb dX10_item_11 (by decide) (fun _ => ?_) (fun cc => absurd cc (by decide +kernel))
      refine lv_aload_n hx hb dX10_item_16 rfl (lv_at hl 0 rfl) ?_
      refine tz_get (ci := 7) (v := .ref h4) (C := RX10) (F := TX10) (N := 17) hx hb hU iX10 hown hK hT 0 rfl rfl 4 (by decide) w253 (fun _ h9 => h9) rfl dX10_item_17 ?_
      refine lv_iload_n hx hb dX10_item_20 rfl (lv_at hl 1 rfl) ?_
      rcases (show x1.toInt = 0 ∨ x1.toInt = 1 ∨ x1.toInt = 2 ∨ x1.toInt = 3 by omega) with hq7 | hq7 | hq7 | hq7
      · skip
        refine tz_aldq (b := h17) hx hb hK hT 1 rfl (vp_in_iff.mpr (by have := hq7; omega)) (fun f hf => by rw [cl_of hq7]; exact hf.1) dX10_item_21 ?_
        refine lv_astore (lv' := [(4, .ref h17), (0, .ref h0), (1, .int x1), (2, .int x2), (3, .int x3)]) hx hb dX10_item_22 hl (by decide) rfl (fun ls hl => ?_)
        refine lv_aload hx hb dX10_item_24 (lv_at hl 0 rfl) ?_
        refine tcI (Tc := [(h17, ob 5 [.int h17f0, .int h17f1, .ref h37])]) (Tr := [(h0, ob 7 [.ref h1, .ref h2, .int h0f2, .ref h3, .ref h4, .ref h5, .int h0f6, .ref h6, .int h0f8, .null, .ref h7, .int h0f11, .ref h8, .ref h9, .ref h10, .ref h11, .ref h12]), (h4, aQ (k 3) 4 (q4 h17 h18 h19 h20)), (h18, ob 5 [.int h18f0, .int h18f1, .ref h38]), (h19, ob 5 [.int h19f0, .int h19f1, .ref h39]), (h20, ob 5 [.int h20f0, .int h20f1, .ref h40]), (h37, aJ (k 1) 40 anJ), (h38, aJ (k 1) 40 anJ), (h39, aJ (k 1) 40 anJ), (h40, aJ (k 1) 40 anJ)]) (as := [h17]) (zcV (q0 := 2) (ci := 5) (As := []) (rest := []) (Tc := [(h17, ob 5 [.int h17f0, .int h17f1, .ref h37])]) hx hb hml hown hU hK hT rfl rfl [2] rfl (by decide) (cX6_isMissing_56a93 l D k _ h17 h37 h17f0 h17f1 (by omega) (by omega)) w644 w641 w642 w643 w71 hdX6_isMissing ⟨rfl, rfl⟩ ⟨Nat.le_of_ble_eq_true rfl, Nat.le_of_ble_eq_true rfl⟩ rfl hl.1 (Nat.le_of_ble_eq_true rfl) dX10_item_26 ⟨Nat.le_of_ble_eq_true rfl, Nat.le_of_ble_eq_true rfl⟩) hT hS hA [2] [0, 1, 3, 4, 5, 6, 7, 8, 9] rfl rfl rfl (by decide) (by decide) (fun r8 H locs hB J hS => ?_)
        rcases hB with ⟨c_9, rfl, hT1⟩ | ⟨rfl, hT1⟩
        · skip
          have hT := J _ hT1
          have hT : TP D A [(h0, ob 7 [.ref h1, .ref h2, .int h0f2, .ref h3, .ref h4, .ref h5, .int h0f6, .ref h6, .int h0f8, .null, .ref h7, .int h0f11, .ref h8, .ref h9, .ref h10, .ref h11, .ref h12]), (h4, aQ (k 3) 4 (q4 h17 h18 h19 h20)), (h18, ob 5 [.int h18f0, .int h18f1, .ref h38]), (h19, ob 5 [.int h19f0, .int h19f1, .ref h39]), (h20, ob 5 [.int h20f0, .int h20f1, .ref h40]), (h37, aJ (k 1) 40 anJ), (h38, aJ (k 1) 40 anJ), (h39, aJ (k 1) 40 anJ), (h40, aJ (k 1) 40 anJ), (h17, ob 5 [.int h17f0, .int h17f1, .ref h37])] _ := hT
          refine lv_if_eq (tgt := 35) hx hb dX10_item_29 (by decide) (fun _ => ?_) (fun cc => absurd (by decide +kernel) cc)
          refine lv_aload hx hb dX10_item_35 (lv_at hl 0 rfl) ?_
          refine tz_get (ci := 5) (v := .int h17f0) (C := RX6) (F := TX6) (N := 3) hx hb hU iX6 hown hK hT 9 rfl rfl 0 (by decide) w238 (fun _ h9 => h9) rfl dX10_item_37 ?_
          refine lv_iload_n hx hb dX10_item_40 rfl (lv_at hl 3 rfl) ?_
          refine lv_icmp_eq (tgt := 47) hx hb dX10_item_41 (by decide) (fun c_10 => ?_) (fun c_10 => ?_)
          · skip
            have c_10 := ni_eq c_10 rfl rfl
            refine lv_aload hx hb dX10_item_47 (lv_at hl 0 rfl) ?_
            refine lv_iload_n hx hb dX10_item_49 rfl (lv_at hl 4 rfl) ?_
            refine lv_iconst (v := 1) hx hb dX10_item_50 (by decide) ?_
            have q_q12 := li_1
            refine tcI (Tc := [(h17, ob 5 [.int h17f0, .int h17f1, .ref h37])]) (Tr := [(h0, ob 7 [.ref h1, .ref h2, .int h0f2, .ref h3, .ref h4, .ref h5, .int h0f6, .ref h6, .int h0f8, .null, .ref h7, .int h0f11, .ref h8, .ref h9, .ref h10, .ref h11, .ref h12]), (h4, aQ (k 3) 4 (q4 h17 h18 h19 h20)), (h18, ob 5 [.int h18f0, .int h18f1, .ref h38]), (h19, ob 5 [.int h19f0, .int h19f1, .ref h39]), (h20, ob 5 [.int h20f0, .int h20f1, .ref h40]), (h37, aJ (k 1) 40 anJ), (h38, aJ (k 1) 40 anJ), (h39, aJ (k 1) 40 anJ), (h40, aJ (k 1) 40 anJ)]) (as := [h17]) (zcV (q0 := 9) (ci := 5) (As := [.int x3, .int 1]) (rest := []) (Tc := [(h17, ob 5 [.int h17f0, .int h17f1, .ref h37])]) hx hb hml hown hU hK hT rfl rfl [9] rfl (by decide) (cX6_isOutside_cc85b l D k _ h17 h37 x3 (1) h17f0 h17f1 (by omega) (by omega)) w648 w645 w646 w647 w71 hdX6_isOutside ⟨rfl, rfl⟩ ⟨Nat.le_of_ble_eq_true rfl, Nat.le_of_ble_eq_true rfl⟩ rfl hl.1 (Nat.le_of_ble_eq_true rfl) dX10_item_51 ⟨Nat.le_of_ble_eq_true rfl, Nat.le_of_ble_eq_true rfl⟩) hT hS hA [9] [0, 1, 2, 3, 4, 5, 6, 7, 8] rfl rfl rfl (by decide) (by decide) (fun r11 H locs hB J hS => ?_)
            rcases hB with ⟨rfl, hT1⟩ | ⟨c_13, c_14, c_15, rfl, hT1⟩
            · skip
              have hT := J _ hT1
              have hT : TP D A [(h0, ob 7 [.ref h1, .ref h2, .int h0f2, .ref h3, .ref h4, .ref h5, .int h0f6, .ref h6, .int h0f8, .null, .ref h7, .int h0f11, .ref h8, .ref h9, .ref h10, .ref h11, .ref h12]), (h4, aQ (k 3) 4 (q4 h17 h18 h19 h20)), (h18, ob 5 [.int h18f0, .int h18f1, .ref h38]), (h19, ob 5 [.int h19f0, .int h19f1, .ref h39]), (h20, ob 5 [.int h20f0, .int h20f1, .ref h40]), (h37, aJ (k 1) 40 anJ), (h38, aJ (k 1) 40 anJ), (h39, aJ (k 1) 40 anJ), (h40, aJ (k 1) 40 anJ), (h17, ob 5 [.int h17f0, .int h17f1, .ref h37])] _ := hT
              refine lv_if_eq (tgt := 60) hx hb dX10_item_54 (by decide) (fun cc => absurd cc (by decide +kernel)) (fun _ => ?_)
              refine lv_bipush (v := (-12)) hx hb dX10_item_57 (by decide) ?_
              exact tz_retI (B := B_cX10_item_eeb52 D k h0 h4 h17 h18 h19 h20 h37 h38 h39 h40 h1 h2 h3 h5 h6 h7 h8 h9 h10 h11 h12 x1 x2 x3 h0f2 h0f6 h0f8 h0f11 h17f0 h17f1 h18f0 h18f1 h19f0 h19f1 h20f0 h20f1) (v := (-12)) hQ hx hb hr hlocks hS (Nat.le_of_ble_eq_true rfl) (Nat.le_of_ble_eq_true rfl) dX10_item_59 ((hT.sub [0, 1, 9, 2, 3, 4, 5, 6, 7, 8] (by decide) rfl))
            · skip
              have hT := J _ hT1
              have hT : TP D A [(h0, ob 7 [.ref h1, .ref h2, .int h0f2, .ref h3, .ref h4, .ref h5, .int h0f6, .ref h6, .int h0f8, .null, .ref h7, .int h0f11, .ref h8, .ref h9, .ref h10, .ref h11, .ref h12]), (h4, aQ (k 3) 4 (q4 h17 h18 h19 h20)), (h18, ob 5 [.int h18f0, .int h18f1, .ref h38]), (h19, ob 5 [.int h19f0, .int h19f1, .ref h39]), (h20, ob 5 [.int h20f0, .int h20f1, .ref h40]), (h37, aJ (k 1) 40 anJ), (h38, aJ (k 1) 40 anJ), (h39, aJ (k 1) 40 anJ), (h40, aJ (k 1) 40 anJ), (h17, ob 5 [.int h17f0, .int h17f1, .ref h37])] _ := hT
              refine lv_if_eq (tgt := 60) hx hb dX10_item_54 (by decide) (fun _ => ?_) (fun cc => absurd (by decide +kernel) cc)
              refine lv_aload hx hb dX10_item_60 (lv_at hl 0 rfl) ?_
              refine tz_get (ci := 5) (v := .ref h37) (C := RX6) (F := TX6) (N := 3) hx hb hU iX6 hown hK hT 9 rfl rfl 2 (by decide) w241 (fun _ h9 => h9) rfl dX10_item_62 ?_
              refine lv_iload_n hx hb dX10_item_65 rfl (lv_at hl 4 rfl) ?_
              refine tz_lald hx hb hK hT 5 rfl (by omega) dX10_item_66 (fun v16 e_v16 => ?_)
              clear e_v16
              refine lv_l2i hx hb dX10_item_67 rfl (lv_topi (fun v17 _ => ?_))
              exact tz_retI (B := B_cX10_item_eeb52 D k h0 h4 h17 h18 h19 h20 h37 h38 h39 h40 h1 h2 h3 h5 h6 h7 h8 h9 h10 h11 h12 x1 x2 x3 h0f2 h0f6 h0f8 h0f11 h17f0 h17f1 h18f0 h18f1 h19f0 h19f1 h20f0 h20f1) (v := v17) hQ hx hb hr hlocks hS (Nat.le_of_ble_eq_true rfl) (Nat.le_of_ble_eq_true rfl) dX10_item_68 ((hT.sub [0, 1, 9, 2, 3, 4, 5, 6, 7, 8] (by decide) rfl))
          · skip
            have c_10 := ni_ne c_10 rfl rfl
            refine lv_bipush (v := (-13)) hx hb dX10_item_44 (by decide) ?_
            exact tz_retI (B := B_cX10_item_eeb52 D k h0 h4 h17 h18 h19 h20 h37 h38 h39 h40 h1 h2 h3 h5 h6 h7 h8 h9 h10 h11 h12 x1 x2 x3 h0f2 h0f6 h0f8 h0f11 h17f0 h17f1 h18f0 h18f1 h19f0 h19f1 h20f0 h20f1) (v := (-13)) hQ hx hb hr hlocks hS (Nat.le_of_ble_eq_true rfl) (Nat.le_of_ble_eq_true rfl) dX10_item_46 ((hT.sub [0, 1, 9, 2, 3, 4, 5, 6, 7, 8] (by decide) rfl))
        · skip
          have hT := J _ hT1
          have hT : TP D A [(h0, ob 7 [.ref h1, .ref h2, .int h0f2, .ref h3, .ref h4, .ref h5, .int h0f6, .ref h6, .int h0f8, .null, .ref h7, .int h0f11, .ref h8, .ref h9, .ref h10, .ref h11, .ref h12]), (h4, aQ (k 3) 4 (q4 h17 h18 h19 h20)), (h18, ob 5 [.int h18f0, .int h18f1, .ref h38]), (h19, ob 5 [.int h19f0, .int h19f1, .ref h39]), (h20, ob 5 [.int h20f0, .int h20f1, .ref h40]), (h37, aJ (k 1) 40 anJ), (h38, aJ (k 1) 40 anJ), (h39, aJ (k 1) 40 anJ), (h40, aJ (k 1) 40 anJ), (h17, ob 5 [.int h17f0, .int h17f1, .ref h37])] _ := hT
          refine lv_if_eq (tgt := 35) hx hb dX10_item_29 (by decide) (fun cc => absurd cc (by decide +kernel)) (fun _ => ?_)
          refine lv_bipush (v := (-11)) hx hb dX10_item_32 (by decide) ?_
          exact tz_retI (B := B_cX10_item_eeb52 D k h0 h4 h17 h18 h19 h20 h37 h38 h39 h40 h1 h2 h3 h5 h6 h7 h8 h9 h10 h11 h12 x1 x2 x3 h0f2 h0f6 h0f8 h0f11 h17f0 h17f1 h18f0 h18f1 h19f0 h19f1 h20f0 h20f1) (v := (-11)) hQ hx hb hr hlocks hS (Nat.le_of_ble_eq_true rfl) (Nat.le_of_ble_eq_true rfl) dX10_item_34 ((hT.sub [0, 1, 9, 2, 3, 4, 5, 6, 7, 8] (by decide) rfl))
      · skip
        refine tz_aldq (b := h18) hx hb hK hT 1 rfl (vp_in_iff.mpr (by have := hq7; omega)) (fun f hf => by rw [cl_of hq7]; exact hf.2.1) dX10_item_21 ?_
        refine lv_astore (lv' := [(4, .ref h18), (0, .ref h0), (1, .int x1), (2, .int x2), (3, .int x3)]) hx hb dX10_item_22 hl (by decide) rfl (fun ls hl => ?_)
        refine lv_aload hx hb dX10_item_24 (lv_at hl 0 rfl) ?_
        refine tcI (Tc := [(h18, ob 5 [.int h18f0, .int h18f1, .ref h38])]) (Tr := [(h0, ob 7 [.ref h1, .ref h2, .int h0f2, .ref h3, .ref h4, .ref h5, .int h0f6, .ref h6, .int h0f8, .null, .ref h7, .int h0f11, .ref h8, .ref h9, .ref h10, .ref h11, .ref h12]), (h4, aQ (k 3) 4 (q4 h17 h18 h19 h20)), (h17, ob 5 [.int h17f0, .int h17f1, .ref h37]), (h19, ob 5 [.int h19f0, .int h19f1, .ref h39]), (h20, ob 5 [.int h20f0, .int h20f1, .ref h40]), (h37, aJ (k 1) 40 anJ), (h38, aJ (k 1) 40 anJ), (h39, aJ (k 1) 40 anJ), (h40, aJ (k 1) 40 anJ)]) (as := [h18]) (zcV (q0 := 3) (ci := 5) (As := []) (rest := []) (Tc := [(h18, ob 5 [.int h18f0, .int h18f1, .ref h38])]) hx hb hml hown hU hK hT rfl rfl [3] rfl (by decide) (cX6_isMissing_56a93 l D k _ h18 h38 h18f0 h18f1 (by omega) (by omega)) w644 w641 w642 w643 w71 hdX6_isMissing ⟨rfl, rfl⟩ ⟨Nat.le_of_ble_eq_true rfl, Nat.le_of_ble_eq_true rfl⟩ rfl hl.1 (Nat.le_of_ble_eq_true rfl) dX10_item_26 ⟨Nat.le_of_ble_eq_true rfl, Nat.le_of_ble_eq_true rfl⟩) hT hS hA [3] [0, 1, 2, 4, 5, 6, 7, 8, 9] rfl rfl rfl (by decide) (by decide) (fun r18 H locs hB J hS => ?_)
        rcases hB with ⟨c_19, rfl, hT1⟩ | ⟨rfl, hT1⟩
        · skip
          have hT := J _ hT1
          have hT : TP D A [(h0, ob 7 [.ref h1, .ref h2, .int h0f2, .ref h3, .ref h4, .ref h5, .int h0f6, .ref h6, .int h0f8, .null, .ref h7, .int h0f11, .ref h8, .ref h9, .ref h10, .ref h11, .ref h12]), (h4, aQ (k 3) 4 (q4 h17 h18 h19 h20)), (h17, ob 5 [.int h17f0, .int h17f1, .ref h37]), (h19, ob 5 [.int h19f0, .int h19f1, .ref h39]), (h20, ob 5 [.int h20f0, .int h20f1, .ref h40]), (h37, aJ (k 1) 40 anJ), (h38, aJ (k 1) 40 anJ), (h39, aJ (k 1) 40 anJ), (h40, aJ (k 1) 40 anJ), (h18, ob 5 [.int h18f0, .int h18f1, .ref h38])] _ := hT
          refine lv_if_eq (tgt := 35) hx hb dX10_item_29 (by decide) (fun _ => ?_) (fun cc => absurd (by decide +kernel) cc)
          refine lv_aload hx hb dX10_item_35 (lv_at hl 0 rfl) ?_
          refine tz_get (ci := 5) (v := .int h18f0) (C := RX6) (F := TX6) (N := 3) hx hb hU iX6 hown hK hT 9 rfl rfl 0 (by decide) w238 (fun _ h9 => h9) rfl dX10_item_37 ?_
          refine lv_iload_n hx hb dX10_item_40 rfl (lv_at hl 3 rfl) ?_
          refine lv_icmp_eq (tgt := 47) hx hb dX10_item_41 (by decide) (fun c_20 => ?_) (fun c_20 => ?_)
          · skip
            have c_20 := ni_eq c_20 rfl rfl
            refine lv_aload hx hb dX10_item_47 (lv_at hl 0 rfl) ?_
            refine lv_iload_n hx hb dX10_item_49 rfl (lv_at hl 4 rfl) ?_
            refine lv_iconst (v := 1) hx hb dX10_item_50 (by decide) ?_
            have q_q22 := li_1
            refine tcI (Tc := [(h18, ob 5 [.int h18f0, .int h18f1, .ref h38])]) (Tr := [(h0, ob 7 [.ref h1, .ref h2, .int h0f2, .ref h3, .ref h4, .ref h5, .int h0f6, .ref h6, .int h0f8, .null, .ref h7, .int h0f11, .ref h8, .ref h9, .ref h10, .ref h11, .ref h12]), (h4, aQ (k 3) 4 (q4 h17 h18 h19 h20)), (h17, ob 5 [.int h17f0, .int h17f1, .ref h37]), (h19, ob 5 [.int h19f0, .int h19f1, .ref h39]), (h20, ob 5 [.int h20f0, .int h20f1, .ref h40]), (h37, aJ (k 1) 40 anJ), (h38, aJ (k 1) 40 anJ), (h39, aJ (k 1) 40 anJ), (h40, aJ (k 1) 40 anJ)]) (as := [h18]) (zcV (q0 := 9) (ci := 5) (As := [.int x3, .int 1]) (rest := []) (Tc := [(h18, ob 5 [.int h18f0, .int h18f1, .ref h38])]) hx hb hml hown hU hK hT rfl rfl [9] rfl (by decide) (cX6_isOutside_cc85b l D k _ h18 h38 x3 (1) h18f0 h18f1 (by omega) (by omega)) w648 w645 w646 w647 w71 hdX6_isOutside ⟨rfl, rfl⟩ ⟨Nat.le_of_ble_eq_true rfl, Nat.le_of_ble_eq_true rfl⟩ rfl hl.1 (Nat.le_of_ble_eq_true rfl) dX10_item_51 ⟨Nat.le_of_ble_eq_true rfl, Nat.le_of_ble_eq_true rfl⟩) hT hS hA [9] [0, 1, 2, 3, 4, 5, 6, 7, 8] rfl rfl rfl (by decide) (by decide) (fun r21 H locs hB J hS => ?_)
            rcases hB with ⟨rfl, hT1⟩ | ⟨c_23, c_24, c_25, rfl, hT1⟩
            · skip
              have hT := J _ hT1
              have hT : TP D A [(h0, ob 7 [.ref h1, .ref h2, .int h0f2, .ref h3, .ref h4, .ref h5, .int h0f6, .ref h6, .int h0f8, .null, .ref h7, .int h0f11, .ref h8, .ref h9, .ref h10, .ref h11, .ref h12]), (h4, aQ (k 3) 4 (q4 h17 h18 h19 h20)), (h17, ob 5 [.int h17f0, .int h17f1, .ref h37]), (h19, ob 5 [.int h19f0, .int h19f1, .ref h39]), (h20, ob 5 [.int h20f0, .int h20f1, .ref h40]), (h37, aJ (k 1) 40 anJ), (h38, aJ (k 1) 40 anJ), (h39, aJ (k 1) 40 anJ), (h40, aJ (k 1) 40 anJ), (h18, ob 5 [.int h18f0, .int h18f1, .ref h38])] _ := hT
              refine lv_if_eq (tgt := 60) hx hb dX10_item_54 (by decide) (fun cc => absurd cc (by decide +kernel)) (fun _ => ?_)
              refine lv_bipush (v := (-12)) hx hb dX10_item_57 (by decide) ?_
              exact tz_retI (B := B_cX10_item_eeb52 D k h0 h4 h17 h18 h19 h20 h37 h38 h39 h40 h1 h2 h3 h5 h6 h7 h8 h9 h10 h11 h12 x1 x2 x3 h0f2 h0f6 h0f8 h0f11 h17f0 h17f1 h18f0 h18f1 h19f0 h19f1 h20f0 h20f1) (v := (-12)) hQ hx hb hr hlocks hS (Nat.le_of_ble_eq_true rfl) (Nat.le_of_ble_eq_true rfl) dX10_item_59 ((hT.sub [0, 1, 2, 9, 3, 4, 5, 6, 7, 8] (by decide) rfl))
            · skip
              have hT := J _ hT1
              have hT : TP D A [(h0, ob 7 [.ref h1, .ref h2, .int h0f2, .ref h3, .ref h4, .ref h5, .int h0f6, .ref h6, .int h0f8, .null, .ref h7, .int h0f11, .ref h8, .ref h9, .ref h10, .ref h11, .ref h12]), (h4, aQ (k 3) 4 (q4 h17 h18 h19 h20)), (h17, ob 5 [.int h17f0, .int h17f1, .ref h37]), (h19, ob 5 [.int h19f0, .int h19f1, .ref h39]), (h20, ob 5 [.int h20f0, .int h20f1, .ref h40]), (h37, aJ (k 1) 40 anJ), (h38, aJ (k 1) 40 anJ), (h39, aJ (k 1) 40 anJ), (h40, aJ (k 1) 40 anJ), (h18, ob 5 [.int h18f0, .int h18f1, .ref h38])] _ := hT
              refine lv_if_eq (tgt := 60) hx hb dX10_item_54 (by decide) (fun _ => ?_) (fun cc => absurd (by decide +kernel) cc)
              refine lv_aload hx hb dX10_item_60 (lv_at hl 0 rfl) ?_
              refine tz_get (ci := 5) (v := .ref h38) (C := RX6) (F := TX6) (N := 3) hx hb hU iX6 hown hK hT 9 rfl rfl 2 (by decide) w241 (fun _ h9 => h9) rfl dX10_item_62 ?_
              refine lv_iload_n hx hb dX10_item_65 rfl (lv_at hl 4 rfl) ?_
              refine tz_lald hx hb hK hT 6 rfl (by omega) dX10_item_66 (fun v26 e_v26 => ?_)
              clear e_v26
              refine lv_l2i hx hb dX10_item_67 rfl (lv_topi (fun v27 _ => ?_))
              exact tz_retI (B := B_cX10_item_eeb52 D k h0 h4 h17 h18 h19 h20 h37 h38 h39 h40 h1 h2 h3 h5 h6 h7 h8 h9 h10 h11 h12 x1 x2 x3 h0f2 h0f6 h0f8 h0f11 h17f0 h17f1 h18f0 h18f1 h19f0 h19f1 h20f0 h20f1) (v := v27) hQ hx hb hr hlocks hS (Nat.le_of_ble_eq_true rfl) (Nat.le_of_ble_eq_true rfl) dX10_item_68 ((hT.sub [0, 1, 2, 9, 3, 4, 5, 6, 7, 8] (by decide) rfl))
          · skip
            have c_20 := ni_ne c_20 rfl rfl
            refine lv_bipush (v := (-13)) hx hb dX10_item_44 (by decide) ?_
            exact tz_retI (B := B_cX10_item_eeb52 D k h0 h4 h17 h18 h19 h20 h37 h38 h39 h40 h1 h2 h3 h5 h6 h7 h8 h9 h10 h11 h12 x1 x2 x3 h0f2 h0f6 h0f8 h0f11 h17f0 h17f1 h18f0 h18f1 h19f0 h19f1 h20f0 h20f1) (v := (-13)) hQ hx hb hr hlocks hS (Nat.le_of_ble_eq_true rfl) (Nat.le_of_ble_eq_true rfl) dX10_item_46 ((hT.sub [0, 1, 2, 9, 3, 4, 5, 6, 7, 8] (by decide) rfl))
        · skip
          have hT := J _ hT1
          have hT : TP D A [(h0, ob 7 [.ref h1, .ref h2, .int h0f2, .ref h3, .ref h4, .ref h5, .int h0f6, .ref h6, .int h0f8, .null, .ref h7, .int h0f11, .ref h8, .ref h9, .ref h10, .ref h11, .ref h12]), (h4, aQ (k 3) 4 (q4 h17 h18 h19 h20)), (h17, ob 5 [.int h17f0, .int h17f1, .ref h37]), (h19, ob 5 [.int h19f0, .int h19f1, .ref h39]), (h20, ob 5 [.int h20f0, .int h20f1, .ref h40]), (h37, aJ (k 1) 40 anJ), (h38, aJ (k 1) 40 anJ), (h39, aJ (k 1) 40 anJ), (h40, aJ (k 1) 40 anJ), (h18, ob 5 [.int h18f0, .int h18f1, .ref h38])] _ := hT
          refine lv_if_eq (tgt := 35) hx hb dX10_item_29 (by decide) (fun cc => absurd cc (by decide +kernel)) (fun _ => ?_)
          refine lv_bipush (v := (-11)) hx hb dX10_item_32 (by decide) ?_
          exact tz_retI (B := B_cX10_item_eeb52 D k h0 h4 h17 h18 h19 h20 h37 h38 h39 h40 h1 h2 h3 h5 h6 h7 h8 h9 h10 h11 h12 x1 x2 x3 h0f2 h0f6 h0f8 h0f11 h17f0 h17f1 h18f0 h18f1 h19f0 h19f1 h20f0 h20f1) (v := (-11)) hQ hx hb hr hlocks hS (Nat.le_of_ble_eq_true rfl) (Nat.le_of_ble_eq_true rfl) dX10_item_34 ((hT.sub [0, 1, 2, 9, 3, 4, 5, 6, 7, 8] (by decide) rfl))
      · skip
        refine tz_aldq (b := h19) hx hb hK hT 1 rfl (vp_in_iff.mpr (by have := hq7; omega)) (fun f hf => by rw [cl_of hq7]; exact hf.2.2.1) dX10_item_21 ?_
        refine lv_astore (lv' := [(4, .ref h19), (0, .ref h0), (1, .int x1), (2, .int x2), (3, .int x3)]) hx hb dX10_item_22 hl (by decide) rfl (fun ls hl => ?_)
        refine lv_aload hx hb dX10_item_24 (lv_at hl 0 rfl) ?_
        refine tcI (Tc := [(h19, ob 5 [.int h19f0, .int h19f1, .ref h39])]) (Tr := [(h0, ob 7 [.ref h1, .ref h2, .int h0f2, .ref h3, .ref h4, .ref h5, .int h0f6, .ref h6, .int h0f8, .null, .ref h7, .int h0f11, .ref h8, .ref h9, .ref h10, .ref h11, .ref h12]), (h4, aQ (k 3) 4 (q4 h17 h18 h19 h20)), (h17, ob 5 [.int h17f0, .int h17f1, .ref h37]), (h18, ob 5 [.int h18f0, .int h18f1, .ref h38]), (h20, ob 5 [.int h20f0, .int h20f1, .ref h40]), (h37, aJ (k 1) 40 anJ), (h38, aJ (k 1) 40 anJ), (h39, aJ (k 1) 40 anJ), (h40, aJ (k 1) 40 anJ)]) (as := [h19]) (zcV (q0 := 4) (ci := 5) (As := []) (rest := []) (Tc := [(h19, ob 5 [.int h19f0, .int h19f1, .ref h39])]) hx hb hml hown hU hK hT rfl rfl [4] rfl (by decide) (cX6_isMissing_56a93 l D k _ h19 h39 h19f0 h19f1 (by omega) (by omega)) w644 w641 w642 w643 w71 hdX6_isMissing ⟨rfl, rfl⟩ ⟨Nat.le_of_ble_eq_true rfl, Nat.le_of_ble_eq_true rfl⟩ rfl hl.1 (Nat.le_of_ble_eq_true rfl) dX10_item_26 ⟨Nat.le_of_ble_eq_true rfl, Nat.le_of_ble_eq_true rfl⟩) hT hS hA [4] [0, 1, 2, 3, 5, 6, 7, 8, 9] rfl rfl rfl (by decide) (by decide) (fun r28 H locs hB J hS => ?_)
        rcases hB with ⟨c_29, rfl, hT1⟩ | ⟨rfl, hT1⟩
        · skip
          have hT := J _ hT1
          have hT : TP D A [(h0, ob 7 [.ref h1, .ref h2, .int h0f2, .ref h3, .ref h4, .ref h5, .int h0f6, .ref h6, .int h0f8, .null, .ref h7, .int h0f11, .ref h8, .ref h9, .ref h10, .ref h11, .ref h12]), (h4, aQ (k 3) 4 (q4 h17 h18 h19 h20)), (h17, ob 5 [.int h17f0, .int h17f1, .ref h37]), (h18, ob 5 [.int h18f0, .int h18f1, .ref h38]), (h20, ob 5 [.int h20f0, .int h20f1, .ref h40]), (h37, aJ (k 1) 40 anJ), (h38, aJ (k 1) 40 anJ), (h39, aJ (k 1) 40 anJ), (h40, aJ (k 1) 40 anJ), (h19, ob 5 [.int h19f0, .int h19f1, .ref h39])] _ := hT
          refine lv_if_eq (tgt := 35) hx hb dX10_item_29 (by decide) (fun _ => ?_) (fun cc => absurd (by decide +kernel) cc)
          refine lv_aload hx hb dX10_item_35 (lv_at hl 0 rfl) ?_
          refine tz_get (ci := 5) (v := .int h19f0) (C := RX6) (F := TX6) (N := 3) hx hb hU iX6 hown hK hT 9 rfl rfl 0 (by decide) w238 (fun _ h9 => h9) rfl dX10_item_37 ?_
          refine lv_iload_n hx hb dX10_item_40 rfl (lv_at hl 3 rfl) ?_
          refine lv_icmp_eq (tgt := 47) hx hb dX10_item_41 (by decide) (fun c_30 => ?_) (fun c_30 => ?_)
          · skip
            have c_30 := ni_eq c_30 rfl rfl
            refine lv_aload hx hb dX10_item_47 (lv_at hl 0 rfl) ?_
            refine lv_iload_n hx hb dX10_item_49 rfl (lv_at hl 4 rfl) ?_
            refine lv_iconst (v := 1) hx hb dX10_item_50 (by decide) ?_
            have q_q32 := li_1
            refine tcI (Tc := [(h19, ob 5 [.int h19f0, .int h19f1, .ref h39])]) (Tr := [(h0, ob 7 [.ref h1, .ref h2, .int h0f2, .ref h3, .ref h4, .ref h5, .int h0f6, .ref h6, .int h0f8, .null, .ref h7, .int h0f11, .ref h8, .ref h9, .ref h10, .ref h11, .ref h12]), (h4, aQ (k 3) 4 (q4 h17 h18 h19 h20)), (h17, ob 5 [.int h17f0, .int h17f1, .ref h37]), (h18, ob 5 [.int h18f0, .int h18f1, .ref h38]), (h20, ob 5 [.int h20f0, .int h20f1, .ref h40]), (h37, aJ (k 1) 40 anJ), (h38, aJ (k 1) 40 anJ), (h39, aJ (k 1) 40 anJ), (h40, aJ (k 1) 40 anJ)]) (as := [h19]) (zcV (q0 := 9) (ci := 5) (As := [.int x3, .int 1]) (rest := []) (Tc := [(h19, ob 5 [.int h19f0, .int h19f1, .ref h39])]) hx hb hml hown hU hK hT rfl rfl [9] rfl (by decide) (cX6_isOutside_cc85b l D k _ h19 h39 x3 (1) h19f0 h19f1 (by omega) (by omega)) w648 w645 w646 w647 w71 hdX6_isOutside ⟨rfl, rfl⟩ ⟨Nat.le_of_ble_eq_true rfl, Nat.le_of_ble_eq_true rfl⟩ rfl hl.1 (Nat.le_of_ble_eq_true rfl) dX10_item_51 ⟨Nat.le_of_ble_eq_true rfl, Nat.le_of_ble_eq_true rfl⟩) hT hS hA [9] [0, 1, 2, 3, 4, 5, 6, 7, 8] rfl rfl rfl (by decide) (by decide) (fun r31 H locs hB J hS => ?_)
            rcases hB with ⟨rfl, hT1⟩ | ⟨c_33, c_34, c_35, rfl, hT1⟩
            · skip
              have hT := J _ hT1
              have hT : TP D A [(h0, ob 7 [.ref h1, .ref h2, .int h0f2, .ref h3, .ref h4, .ref h5, .int h0f6, .ref h6, .int h0f8, .null, .ref h7, .int h0f11, .ref h8, .ref h9, .ref h10, .ref h11, .ref h12]), (h4, aQ (k 3) 4 (q4 h17 h18 h19 h20)), (h17, ob 5 [.int h17f0, .int h17f1, .ref h37]), (h18, ob 5 [.int h18f0, .int h18f1, .ref h38]), (h20, ob 5 [.int h20f0, .int h20f1, .ref h40]), (h37, aJ (k 1) 40 anJ), (h38, aJ (k 1) 40 anJ), (h39, aJ (k 1) 40 anJ), (h40, aJ (k 1) 40 anJ), (h19, ob 5 [.int h19f0, .int h19f1, .ref h39])] _ := hT
              refine lv_if_eq (tgt := 60) hx hb dX10_item_54 (by decide) (fun cc => absurd cc (by decide +kernel)) (fun _ => ?_)
              refine lv_bipush (v := (-12)) hx hb dX10_item_57 (by decide) ?_
              exact tz_retI (B := B_cX10_item_eeb52 D k h0 h4 h17 h18 h19 h20 h37 h38 h39 h40 h1 h2 h3 h5 h6 h7 h8 h9 h10 h11 h12 x1 x2 x3 h0f2 h0f6 h0f8 h0f11 h17f0 h17f1 h18f0 h18f1 h19f0 h19f1 h20f0 h20f1) (v := (-12)) hQ hx hb hr hlocks hS (Nat.le_of_ble_eq_true rfl) (Nat.le_of_ble_eq_true rfl) dX10_item_59 ((hT.sub [0, 1, 2, 3, 9, 4, 5, 6, 7, 8] (by decide) rfl))
            · skip
              have hT := J _ hT1
              have hT : TP D A [(h0, ob 7 [.ref h1, .ref h2, .int h0f2, .ref h3, .ref h4, .ref h5, .int h0f6, .ref h6, .int h0f8, .null, .ref h7, .int h0f11, .ref h8, .ref h9, .ref h10, .ref h11, .ref h12]), (h4, aQ (k 3) 4 (q4 h17 h18 h19 h20)), (h17, ob 5 [.int h17f0, .int h17f1, .ref h37]), (h18, ob 5 [.int h18f0, .int h18f1, .ref h38]), (h20, ob 5 [.int h20f0, .int h20f1, .ref h40]), (h37, aJ (k 1) 40 anJ), (h38, aJ (k 1) 40 anJ), (h39, aJ (k 1) 40 anJ), (h40, aJ (k 1) 40 anJ), (h19, ob 5 [.int h19f0, .int h19f1, .ref h39])] _ := hT
              refine lv_if_eq (tgt := 60) hx hb dX10_item_54 (by decide) (fun _ => ?_) (fun cc => absurd (by decide +kernel) cc)
              refine lv_aload hx hb dX10_item_60 (lv_at hl 0 rfl) ?_
              refine tz_get (ci := 5) (v := .ref h39) (C := RX6) (F := TX6) (N := 3) hx hb hU iX6 hown hK hT 9 rfl rfl 2 (by decide) w241 (fun _ h9 => h9) rfl dX10_item_62 ?_
              refine lv_iload_n hx hb dX10_item_65 rfl (lv_at hl 4 rfl) ?_
              refine tz_lald hx hb hK hT 7 rfl (by omega) dX10_item_66 (fun v36 e_v36 => ?_)
              clear e_v36
              refine lv_l2i hx hb dX10_item_67 rfl (lv_topi (fun v37 _ => ?_))
              exact tz_retI (B := B_cX10_item_eeb52 D k h0 h4 h17 h18 h19 h20 h37 h38 h39 h40 h1 h2 h3 h5 h6 h7 h8 h9 h10 h11 h12 x1 x2 x3 h0f2 h0f6 h0f8 h0f11 h17f0 h17f1 h18f0 h18f1 h19f0 h19f1 h20f0 h20f1) (v := v37) hQ hx hb hr hlocks hS (Nat.le_of_ble_eq_true rfl) (Nat.le_of_ble_eq_true rfl) dX10_item_68 ((hT.sub [0, 1, 2, 3, 9, 4, 5, 6, 7, 8] (by decide) rfl))
          · skip
            have c_30 := ni_ne c_30 rfl rfl
            refine lv_bipush (v := (-13)) hx hb dX10_item_44 (by decide) ?_
            exact tz_retI (B := B_cX10_item_eeb52 D k h0 h4 h17 h18 h19 h20 h37 h38 h39 h40 h1 h2 h3 h5 h6 h7 h8 h9 h10 h11 h12 x1 x2 x3 h0f2 h0f6 h0f8 h0f11 h17f0 h17f1 h18f0 h18f1 h19f0 h19f1 h20f0 h20f1) (v := (-13)) hQ hx hb hr hlocks hS (Nat.le_of_ble_eq_true rfl) (Nat.le_of_ble_eq_true rfl) dX10_item_46 ((hT.sub [0, 1, 2, 3, 9, 4, 5, 6, 7, 8] (by decide) rfl))
        · skip
          have hT := J _ hT1
          have hT : TP D A [(h0, ob 7 [.ref h1, .ref h2, .int h0f2, .ref h3, .ref h4, .ref h5, .int h0f6, .ref h6, .int h0f8, .null, .ref h7, .int h0f11, .ref h8, .ref h9, .ref h10, .ref h11, .ref h12]), (h4, aQ (k 3) 4 (q4 h17 h18 h19 h20)), (h17, ob 5 [.int h17f0, .int h17f1, .ref h37]), (h18, ob 5 [.int h18f0, .int h18f1, .ref h38]), (h20, ob 5 [.int h20f0, .int h20f1, .ref h40]), (h37, aJ (k 1) 40 anJ), (h38, aJ (k 1) 40 anJ), (h39, aJ (k 1) 40 anJ), (h40, aJ (k 1) 40 anJ), (h19, ob 5 [.int h19f0, .int h19f1, .ref h39])] _ := hT
          refine lv_if_eq (tgt := 35) hx hb dX10_item_29 (by decide) (fun cc => absurd cc (by decide +kernel)) (fun _ => ?_)
          refine lv_bipush (v := (-11)) hx hb dX10_item_32 (by decide) ?_
          exact tz_retI (B := B_cX10_item_eeb52 D k h0 h4 h17 h18 h19 h20 h37 h38 h39 h40 h1 h2 h3 h5 h6 h7 h8 h9 h10 h11 h12 x1 x2 x3 h0f2 h0f6 h0f8 h0f11 h17f0 h17f1 h18f0 h18f1 h19f0 h19f1 h20f0 h20f1) (v := (-11)) hQ hx hb hr hlocks hS (Nat.le_of_ble_eq_true rfl) (Nat.le_of_ble_eq_true rfl) dX10_item_34 ((hT.sub [0, 1, 2, 3, 9, 4, 5, 6, 7, 8] (by decide) rfl))
      · skip
        refine tz_aldq (b := h20) hx hb hK hT 1 rfl (vp_in_iff.mpr (by have := hq7; omega)) (fun f hf => by rw [cl_of hq7]; exact hf.2.2.2) dX10_item_21 ?_
        refine lv_astore (lv' := [(4, .ref h20), (0, .ref h0), (1, .int x1), (2, .int x2), (3, .int x3)]) hx hb dX10_item_22 hl (by decide) rfl (fun ls hl => ?_)
        refine lv_aload hx hb dX10_item_24 (lv_at hl 0 rfl) ?_
        refine tcI (Tc := [(h20, ob 5 [.int h20f0, .int h20f1, .ref h40])]) (Tr := [(h0, ob 7 [.ref h1, .ref h2, .int h0f2, .ref h3, .ref h4, .ref h5, .int h0f6, .ref h6, .int h0f8, .null, .ref h7, .int h0f11, .ref h8, .ref h9, .ref h10, .ref h11, .ref h12]), (h4, aQ (k 3) 4 (q4 h17 h18 h19 h20)), (h17, ob 5 [.int h17f0, .int h17f1, .ref h37]), (h18, ob 5 [.int h18f0, .int h18f1, .ref h38]), (h19, ob 5 [.int h19f0, .int h19f1, .ref h39]), (h37, aJ (k 1) 40 anJ), (h38, aJ (k 1) 40 anJ), (h39, aJ (k 1) 40 anJ), (h40, aJ (k 1) 40 anJ)]) (as := [h20]) (zcV (q0 := 5) (ci := 5) (As := []) (rest := []) (Tc := [(h20, ob 5 [.int h20f0, .int h20f1, .ref h40])]) hx hb hml hown hU hK hT rfl rfl [5] rfl (by decide) (cX6_isMissing_56a93 l D k _ h20 h40 h20f0 h20f1 (by omega) (by omega)) w644 w641 w642 w643 w71 hdX6_isMissing ⟨rfl, rfl⟩ ⟨Nat.le_of_ble_eq_true rfl, Nat.le_of_ble_eq_true rfl⟩ rfl hl.1 (Nat.le_of_ble_eq_true rfl) dX10_item_26 ⟨Nat.le_of_ble_eq_true rfl, Nat.le_of_ble_eq_true rfl⟩) hT hS hA [5] [0, 1, 2, 3, 4, 6, 7, 8, 9] rfl rfl rfl (by decide) (by decide) (fun r38 H locs hB J hS => ?_)
        rcases hB with ⟨c_39, rfl, hT1⟩ | ⟨rfl, hT1⟩
        · skip
          have hT := J _ hT1
          have hT : TP D A [(h0, ob 7 [.ref h1, .ref h2, .int h0f2, .ref h3, .ref h4, .ref h5, .int h0f6, .ref h6, .int h0f8, .null, .ref h7, .int h0f11, .ref h8, .ref h9, .ref h10, .ref h11, .ref h12]), (h4, aQ (k 3) 4 (q4 h17 h18 h19 h20)), (h17, ob 5 [.int h17f0, .int h17f1, .ref h37]), (h18, ob 5 [.int h18f0, .int h18f1, .ref h38]), (h19, ob 5 [.int h19f0, .int h19f1, .ref h39]), (h37, aJ (k 1) 40 anJ), (h38, aJ (k 1) 40 anJ), (h39, aJ (k 1) 40 anJ), (h40, aJ (k 1) 40 anJ), (h20, ob 5 [.int h20f0, .int h20f1, .ref h40])] _ := hT
          refine lv_if_eq (tgt := 35) hx hb dX10_item_29 (by decide) (fun _ => ?_) (fun cc => absurd (by decide +kernel) cc)
          refine lv_aload hx hb dX10_item_35 (lv_at hl 0 rfl) ?_
          refine tz_get (ci := 5) (v := .int h20f0) (C := RX6) (F := TX6) (N := 3) hx hb hU iX6 hown hK hT 9 rfl rfl 0 (by decide) w238 (fun _ h9 => h9) rfl dX10_item_37 ?_
          refine lv_iload_n hx hb dX10_item_40 rfl (lv_at hl 3 rfl) ?_
          refine lv_icmp_eq (tgt := 47) hx hb dX10_item_41 (by decide) (fun c_40 => ?_) (fun c_40 => ?_)
          · skip
            have c_40 := ni_eq c_40 rfl rfl
            refine lv_aload hx hb dX10_item_47 (lv_at hl 0 rfl) ?_
            refine lv_iload_n hx hb dX10_item_49 rfl (lv_at hl 4 rfl) ?_
            refine lv_iconst (v := 1) hx hb dX10_item_50 (by decide) ?_
            have q_q42 := li_1
            refine tcI (Tc := [(h20, ob 5 [.int h20f0, .int h20f1, .ref h40])]) (Tr := [(h0, ob 7 [.ref h1, .ref h2, .int h0f2, .ref h3, .ref h4, .ref h5, .int h0f6, .ref h6, .int h0f8, .null, .ref h7, .int h0f11, .ref h8, .ref h9, .ref h10, .ref h11, .ref h12]), (h4, aQ (k 3) 4 (q4 h17 h18 h19 h20)), (h17, ob 5 [.int h17f0, .int h17f1, .ref h37]), (h18, ob 5 [.int h18f0, .int h18f1, .ref h38]), (h19, ob 5 [.int h19f0, .int h19f1, .ref h39]), (h37, aJ (k 1) 40 anJ), (h38, aJ (k 1) 40 anJ), (h39, aJ (k 1) 40 anJ), (h40, aJ (k 1) 40 anJ)]) (as := [h20]) (zcV (q0 := 9) (ci := 5) (As := [.int x3, .int 1]) (rest := []) (Tc := [(h20, ob 5 [.int h20f0, .int h20f1, .ref h40])]) hx hb hml hown hU hK hT rfl rfl [9] rfl (by decide) (cX6_isOutside_cc85b l D k _ h20 h40 x3 (1) h20f0 h20f1 (by omega) (by omega)) w648 w645 w646 w647 w71 hdX6_isOutside ⟨rfl, rfl⟩ ⟨Nat.le_of_ble_eq_true rfl, Nat.le_of_ble_eq_true rfl⟩ rfl hl.1 (Nat.le_of_ble_eq_true rfl) dX10_item_51 ⟨Nat.le_of_ble_eq_true rfl, Nat.le_of_ble_eq_true rfl⟩) hT hS hA [9] [0, 1, 2, 3, 4, 5, 6, 7, 8] rfl rfl rfl (by decide) (by decide) (fun r41 H locs hB J hS => ?_)
            rcases hB with ⟨rfl, hT1⟩ | ⟨c_43, c_44, c_45, rfl, hT1⟩
            · skip
              have hT := J _ hT1
              have hT : TP D A [(h0, ob 7 [.ref h1, .ref h2, .int h0f2, .ref h3, .ref h4, .ref h5, .int h0f6, .ref h6, .int h0f8, .null, .ref h7, .int h0f11, .ref h8, .ref h9, .ref h10, .ref h11, .ref h12]), (h4, aQ (k 3) 4 (q4 h17 h18 h19 h20)), (h17, ob 5 [.int h17f0, .int h17f1, .ref h37]), (h18, ob 5 [.int h18f0, .int h18f1, .ref h38]), (h19, ob 5 [.int h19f0, .int h19f1, .ref h39]), (h37, aJ (k 1) 40 anJ), (h38, aJ (k 1) 40 anJ), (h39, aJ (k 1) 40 anJ), (h40, aJ (k 1) 40 anJ), (h20, ob 5 [.int h20f0, .int h20f1, .ref h40])] _ := hT
              refine lv_if_eq (tgt := 60) hx hb dX10_item_54 (by decide) (fun cc => absurd cc (by decide +kernel)) (fun _ => ?_)
              refine lv_bipush (v := (-12)) hx hb dX10_item_57 (by decide) ?_
              exact tz_retI (B := B_cX10_item_eeb52 D k h0 h4 h17 h18 h19 h20 h37 h38 h39 h40 h1 h2 h3 h5 h6 h7 h8 h9 h10 h11 h12 x1 x2 x3 h0f2 h0f6 h0f8 h0f11 h17f0 h17f1 h18f0 h18f1 h19f0 h19f1 h20f0 h20f1) (v := (-12)) hQ hx hb hr hlocks hS (Nat.le_of_ble_eq_true rfl) (Nat.le_of_ble_eq_true rfl) dX10_item_59 ((hT.sub [0, 1, 2, 3, 4, 9, 5, 6, 7, 8] (by decide) rfl))
            · skip
              have hT := J _ hT1
              have hT : TP D A [(h0, ob 7 [.ref h1, .ref h2, .int h0f2, .ref h3, .ref h4, .ref h5, .int h0f6, .ref h6, .int h0f8, .null, .ref h7, .int h0f11, .ref h8, .ref h9, .ref h10, .ref h11, .ref h12]), (h4, aQ (k 3) 4 (q4 h17 h18 h19 h20)), (h17, ob 5 [.int h17f0, .int h17f1, .ref h37]), (h18, ob 5 [.int h18f0, .int h18f1, .ref h38]), (h19, ob 5 [.int h19f0, .int h19f1, .ref h39]), (h37, aJ (k 1) 40 anJ), (h38, aJ (k 1) 40 anJ), (h39, aJ (k 1) 40 anJ), (h40, aJ (k 1) 40 anJ), (h20, ob 5 [.int h20f0, .int h20f1, .ref h40])] _ := hT
              refine lv_if_eq (tgt := 60) hx hb dX10_item_54 (by decide) (fun _ => ?_) (fun cc => absurd (by decide +kernel) cc)
              refine lv_aload hx hb dX10_item_60 (lv_at hl 0 rfl) ?_
              refine tz_get (ci := 5) (v := .ref h40) (C := RX6) (F := TX6) (N := 3) hx hb hU iX6 hown hK hT 9 rfl rfl 2 (by decide) w241 (fun _ h9 => h9) rfl dX10_item_62 ?_
              refine lv_iload_n hx hb dX10_item_65 rfl (lv_at hl 4 rfl) ?_
              refine tz_lald hx hb hK hT 8 rfl (by omega) dX10_item_66 (fun v46 e_v46 => ?_)
              clear e_v46
              refine lv_l2i hx hb dX10_item_67 rfl (lv_topi (fun v47 _ => ?_))
              exact tz_retI (B := B_cX10_item_eeb52 D k h0 h4 h17 h18 h19 h20 h37 h38 h39 h40 h1 h2 h3 h5 h6 h7 h8 h9 h10 h11 h12 x1 x2 x3 h0f2 h0f6 h0f8 h0f11 h17f0 h17f1 h18f0 h18f1 h19f0 h19f1 h20f0 h20f1) (v := v47) hQ hx hb hr hlocks hS (Nat.le_of_ble_eq_true rfl) (Nat.le_of_ble_eq_true rfl) dX10_item_68 ((hT.sub [0, 1, 2, 3, 4, 9, 5, 6, 7, 8] (by decide) rfl))
          · skip
            have c_40 := ni_ne c_40 rfl rfl
            refine lv_bipush (v := (-13)) hx hb dX10_item_44 (by decide) ?_
            exact tz_retI (B := B_cX10_item_eeb52 D k h0 h4 h17 h18 h19 h20 h37 h38 h39 h40 h1 h2 h3 h5 h6 h7 h8 h9 h10 h11 h12 x1 x2 x3 h0f2 h0f6 h0f8 h0f11 h17f0 h17f1 h18f0 h18f1 h19f0 h19f1 h20f0 h20f1) (v := (-13)) hQ hx hb hr hlocks hS (Nat.le_of_ble_eq_true rfl) (Nat.le_of_ble_eq_true rfl) dX10_item_46 ((hT.sub [0, 1, 2, 3, 4, 9, 5, 6, 7, 8] (by decide) rfl))
        · skip
          have hT := J _ hT1
          have hT : TP D A [(h0, ob 7 [.ref h1, .ref h2, .int h0f2, .ref h3, .ref h4, .ref h5, .int h0f6, .ref h6, .int h0f8, .null, .ref h7, .int h0f11, .ref h8, .ref h9, .ref h10, .ref h11, .ref h12]), (h4, aQ (k 3) 4 (q4 h17 h18 h19 h20)), (h17, ob 5 [.int h17f0, .int h17f1, .ref h37]), (h18, ob 5 [.int h18f0, .int h18f1, .ref h38]), (h19, ob 5 [.int h19f0, .int h19f1, .ref h39]), (h37, aJ (k 1) 40 anJ), (h38, aJ (k 1) 40 anJ), (h39, aJ (k 1) 40 anJ), (h40, aJ (k 1) 40 anJ), (h20, ob 5 [.int h20f0, .int h20f1, .ref h40])] _ := hT
          refine lv_if_eq (tgt := 35) hx hb dX10_item_29 (by decide) (fun cc => absurd cc (by decide +kernel)) (fun _ => ?_)
          refine lv_bipush (v := (-11)) hx hb dX10_item_32 (by decide) ?_
          exact tz_retI (B := B_cX10_item_eeb52 D k h0 h4 h17 h18 h19 h20 h37 h38 h39 h40 h1 h2 h3 h5 h6 h7 h8 h9 h10 h11 h12 x1 x2 x3 h0f2 h0f6 h0f8 h0f11 h17f0 h17f1 h18f0 h18f1 h19f0 h19f1 h20f0 h20f1) (v := (-11)) hQ hx hb hr hlocks hS (Nat.le_of_ble_eq_true rfl) (Nat.le_of_ble_eq_true rfl) dX10_item_34 ((hT.sub [0, 1, 2, 3, 4, 9, 5, 6, 7, 8] (by decide) rfl))
