abbrev Rm_cX5_has_64567 : Room := { frames := 0, cells := 0, slots := 0, locals := 0 }
abbrev B_cX5_has_64567 (D : va_G) (k : Nat → ClassId) (h0 h1 : Nat) (x1 : Int32) (h0f0 : Int32) (h0f1 : Int32) (h0f2 : Int32) (A : Nat → Prop) (r : Int32) (H : Heap) : Prop := (0 = r ∧ TP D A [(h0, ob 4 [.int h0f0, .int h0f1, .int h0f2, .ref h1])] H) ∨ (0 ≤ x1.toInt ∧ x1.toInt < h0f1.toInt ∧ 1 = r ∧ TP D A [(h0, ob 4 [.int h0f0, .int h0f1, .int h0f2, .ref h1])] H)
set_option maxHeartbeats 4000000 in
set_option maxRecDepth 100000 in
theorem cX5_has_64567 (l : Launch) (D : va_G) (k : Nat → ClassId) (sz : Nat) (h0 h1 : Nat) (x1 : Int32) (h0f0 : Int32) (h0f1 : Int32) (h0f2 : Int32) (b_h0f0 : 1 ≤ h0f0.toInt ∧ h0f0.toInt ≤ 3) (b_h0f1 : 0 ≤ h0f1.toInt ∧ h0f1.toInt ≤ 4) : Met l yX5_has (Cond.code yX5_has cX5_has 2 (some .boolean) :: uw) Rm_cX5_has_64567 (pT D k sz [.ref h0, .int x1] [(h0, ob 4 [.int h0f0, .int h0f1, .int h0f2, .ref h1])]) (qI (B_cX5_has_64567 D k h0 h1 x1 h0f0 h0f1 h0f2 (zA [h0] sz)) (zA [h0] sz)) 0 0 (zA [h0] sz) := by
  refine tz_begin (as := [h0]) (Qc := fun A => qI (B_cX5_has_64567 D k h0 h1 x1 h0f0 h0f1 h0f2 A) A) (by decide +kernel) rfl (Nat.le_of_ble_eq_true rfl) ?_
  intro p e s m args below meth c ls A Q hx hb hr hml hown hlocks hin hU hK hT hS hA hl hQ
  have hl : lv_has ls 2 [(0, .ref h0), (1, .int x1)] := hl
  have hT : TP D A [(h0, ob 4 [.int h0f0, .int h0f1, .int h0f2, .ref h1])] s.heap := hT
  refine lv_iload_n hx hb dX5_has_0 rfl (lv_at hl 1 rfl) ?_
  refine lv_if_lt (tgt := 16) hx hb dX5_has_1 (by decide) (fun c_1 => ?_) (fun c_1 => ?_)
  · skip
    have c_1 := ni_lt c_1 rfl li_0
    refine lv_iconst (v := 0) hx hb dX5_has_16 (by decide) ?_
    exact tz_retZ (B := B_cX5_has_64567 D k h0 h1 x1 h0f0 h0f1 h0f2) (v := 0) hQ hx hb hr hlocks hS (Nat.le_of_ble_eq_true rfl) (Nat.le_of_ble_eq_true rfl) dX5_has_17 (by have := li_0; omega) (Or.inl ⟨rfl, hT⟩)
  · skip
    have c_1 := ni_nlt c_1 rfl li_0
    refine lv_iload_n hx hb dX5_has_4 rfl (lv_at hl 1 rfl) ?_
    refine lv_aload_n hx hb dX5_has_5 rfl (lv_at hl 0 rfl) ?_
    refine tz_get (ci := 4) (v := .int h0f1) (C := RX5) (F := TX5) (N := 4) hx hb hU iX5 hown hK hT 0 rfl rfl 1 (by decide) w96 (fun _ h9 => h9) rfl dX5_has_6 ?_
    refine lv_icmp_ge (tgt := 16) hx hb dX5_has_9 (by decide) (fun c_2 => ?_) (fun c_2 => ?_)
    · skip
      have c_2 := ni_le c_2 rfl rfl
      refine lv_iconst (v := 0) hx hb dX5_has_16 (by decide) ?_
      exact tz_retZ (B := B_cX5_has_64567 D k h0 h1 x1 h0f0 h0f1 h0f2) (v := 0) hQ hx hb hr hlocks hS (Nat.le_of_ble_eq_true rfl) (Nat.le_of_ble_eq_true rfl) dX5_has_17 (by have := li_0; omega) (Or.inl ⟨rfl, hT⟩)
    · skip
      have c_2 := ni_nle c_2 rfl rfl
      refine lv_iconst (v := 1) hx hb dX5_has_12 (by decide) ?_
      refine lv_goto (tgt := 17) hx hb dX5_has_13 (by decide) ?_
      exact tz_retZ (B := B_cX5_has_64567 D k h0 h1 x1 h0f0 h0f1 h0f2) (v := 1) hQ hx hb hr hlocks hS (Nat.le_of_ble_eq_true rfl) (Nat.le_of_ble_eq_true rfl) dX5_has_17 (by have := li_1; omega) (Or.inr (⟨(by have := li_1; omega), (by have := li_1; omega), rfl, hT⟩))
abbrev Rm_cX3_isFactor_83bd3 : Room := { frames := 0, cells := 0, slots := 0, locals := 0 }
abbrev B_cX3_isFactor_83bd3 (D : va_G) (k : Nat → ClassId) (x0 : Int32) (A : Nat → Prop) (r : Int32) (H : Heap) : Prop := (0 = r ∧ TP D A [] H) ∨ (∃ o0 : Int32, (1 ≤ o0.toInt ∧ o0.toInt ≤ 2) ∧ 0 ≤ x0.toInt ∧ x0.toInt < 7 ∧ 0 < o0.toInt ∧ 1 = r ∧ TP D A [] H)
set_option maxHeartbeats 4000000 in
set_option maxRecDepth 100000 in
theorem cX3_isFactor_83bd3 (l : Launch) (D : va_G) (k : Nat → ClassId) (sz : Nat) (t0 t1 t2 : Nat) (x0 : Int32) : Met l yX3_isFactor (Cond.code yX3_isFactor cX3_isFactor 1 (some .boolean) :: uw) Rm_cX3_isFactor_83bd3 (pTs D k t0 t1 t2 [] sz [.int x0] []) (qI (B_cX3_isFactor_83bd3 D k x0 (zA [] sz)) (zA [] sz)) 0 0 (zA [] sz) := by
  refine tz_beginS (as := []) (Qc := fun A => qI (B_cX3_isFactor_83bd3 D k x0 A) A) (by decide +kernel) rfl (Nat.le_of_ble_eq_true rfl) ?_
  intro p e s m args below meth c ls A Q hx hb hr hml hown hlocks hin hU hK hT hS hA hl hQ hZ
  have hl : lv_has ls 1 [(0, .int x0)] := hl
  have hT : TP D A [] s.heap := hT
  refine lv_iload_n hx hb dX3_isFactor_0 rfl (lv_at hl 0 rfl) ?_
  refine lv_if_lt (tgt := 24) hx hb dX3_isFactor_1 (by decide) (fun c_1 => ?_) (fun c_1 => ?_)
  · skip
    have c_1 := ni_lt c_1 rfl li_0
    refine lv_iconst (v := 0) hx hb dX3_isFactor_24 (by decide) ?_
    exact tz_retZ (B := B_cX3_isFactor_83bd3 D k x0) (v := 0) hQ hx hb hr hlocks hS (Nat.le_of_ble_eq_true rfl) (Nat.le_of_ble_eq_true rfl) dX3_isFactor_25 (by have := li_0; omega) (Or.inl ⟨rfl, hT⟩)
  · skip
    have c_1 := ni_nlt c_1 rfl li_0
    refine lv_iload_n hx hb dX3_isFactor_4 rfl (lv_at hl 0 rfl) ?_
    refine va_gets hx hb hZ.1.1 hS hown (hU _ w433) (fun _ h9 => h9) dX3_isFactor_5 ?_
    refine va_tlen (v := 7) hx hb hZ.1.2 hS (by decide +kernel) dX3_isFactor_8 ?_
    refine lv_icmp_ge (tgt := 24) hx hb dX3_isFactor_9 (by decide) (fun c_2 => ?_) (fun c_2 => ?_)
    · skip
      have c_2 := ni_le c_2 li_7 rfl
      refine lv_iconst (v := 0) hx hb dX3_isFactor_24 (by decide) ?_
      exact tz_retZ (B := B_cX3_isFactor_83bd3 D k x0) (v := 0) hQ hx hb hr hlocks hS (Nat.le_of_ble_eq_true rfl) (Nat.le_of_ble_eq_true rfl) dX3_isFactor_25 (by have := li_0; omega) (Or.inl ⟨rfl, hT⟩)
    · skip
      have c_2 := ni_nle c_2 li_7 rfl
      refine va_gets hx hb hZ.1.1 hS hown (hU _ w433) (fun _ h9 => h9) dX3_isFactor_12 ?_
      refine lv_iload_n hx hb dX3_isFactor_15 rfl (lv_at hl 0 rfl) ?_
      refine tz_ti hx hb hZ.1.2 hS (by omega) dX3_isFactor_16 (fun v3 e_v3 => ?_)
      have e_v3 : 0 ≤ v3.toInt ∧ v3.toInt ≤ 2 := by rw [e_v3]; exact fd0_rg _
      refine lv_if_le (tgt := 24) hx hb dX3_isFactor_17 (by decide) (fun c_4 => ?_) (fun c_4 => ?_)
      · skip
        have c_4 := ni_le c_4 rfl li_0
        refine lv_iconst (v := 0) hx hb dX3_isFactor_24 (by decide) ?_
        exact tz_retZ (B := B_cX3_isFactor_83bd3 D k x0) (v := 0) hQ hx hb hr hlocks hS (Nat.le_of_ble_eq_true rfl) (Nat.le_of_ble_eq_true rfl) dX3_isFactor_25 (by have := li_0; omega) (Or.inl ⟨rfl, hT⟩)
      · skip
        have c_4 := ni_nle c_4 rfl li_0
        refine lv_iconst (v := 1) hx hb dX3_isFactor_20 (by decide) ?_
        refine lv_goto (tgt := 25) hx hb dX3_isFactor_21 (by decide) ?_
        exact tz_retZ (B := B_cX3_isFactor_83bd3 D k x0) (v := 1) hQ hx hb hr hlocks hS (Nat.le_of_ble_eq_true rfl) (Nat.le_of_ble_eq_true rfl) dX3_isFactor_25 (by have := li_1; omega) (Or.inr (⟨v3, (by have := li_1; omega), (by have := li_1; omega), (by have := li_1; omega), (by have := li_1; omega), rfl, hT⟩))
abbrev Rm_cX7_cofactor_006a1 : Room := { frames := 0, cells := 0, slots := 0, locals := 0 }
abbrev B_cX7_cofactor_006a1 (D : va_G) (k : Nat → ClassId) (h0 : Nat) (x1 : Int32) (x4 : Int32) (A : Nat → Prop) (r : Int64) (H : Heap) : Prop := TP D A [(h0, aJ (k 1) 36 anJ)] H
set_option maxHeartbeats 4000000 in
set_option maxRecDepth 100000 in
theorem cX7_cofactor_006a1 (l : Launch) (D : va_G) (k : Nat → ClassId) (sz : Nat) (h0 : Nat) (x1 : Int32) (x4 : Int32) (b_x1 : 0 ≤ x1.toInt ∧ x1.toInt ≤ 27) (b_x4 : 0 ≤ x4.toInt ∧ x4.toInt ≤ 2) : Met l yX7_cofactor (Cond.code yX7_cofactor cX7_cofactor 9 (some .long) :: uw) Rm_cX7_cofactor_006a1 (pT D k sz [.ref h0, .int x1, .int 3, .int 0, .int x4] [(h0, aJ (k 1) 36 anJ)]) (qL (B_cX7_cofactor_006a1 D k h0 x1 x4 (zA [h0] sz)) (zA [h0] sz)) 0 0 (zA [h0] sz) := by
  refine tz_begin (as := [h0]) (Qc := fun A => qL (B_cX7_cofactor_006a1 D k h0 x1 x4 A) A) (by decide +kernel) rfl (Nat.le_of_ble_eq_true rfl) ?_
  intro p e s m args below meth c ls A Q hx hb hr hml hown hlocks hin hU hK hT hS hA hl hQ
  have hl : lv_has ls 9 [(0, .ref h0), (1, .int x1), (2, .int 3), (3, .int 0), (4, .int x4)] := hl
  have hT : TP D A [(h0, aJ (k 1) 36 anJ)] s.heap := hT
  refine lv_iload_n hx hb dX7_cofactor_0 rfl (lv_at hl 2 rfl) ?_
  refine lv_iconst (v := 1) hx hb dX7_cofactor_1 (by decide) ?_
  refine lv_icmp_ne (tgt := 7) hx hb dX7_cofactor_2 (by decide) (fun _ => ?_) (fun cc => absurd cc (by decide +kernel))
  refine lv_iload_n hx hb dX7_cofactor_7 rfl (lv_at hl 2 rfl) ?_
  refine lv_iconst (v := 2) hx hb dX7_cofactor_8 (by decide) ?_
  refine lv_icmp_ne (tgt := 43) hx hb dX7_cofactor_9 (by decide) (fun _ => ?_) (fun cc => absurd cc (by decide +kernel))
  refine lv_iload_n hx hb dX7_cofactor_43 rfl (lv_at hl 1 rfl) ?_
  refine lv_iload_n hx hb dX7_cofactor_44 rfl (lv_at hl 3 rfl) ?_
  refine lv_iconst (v := 1) hx hb dX7_cofactor_45 (by decide) ?_
  refine lv_iadd hx hb dX7_cofactor_46 (sv_i (v := 1) (by decide +kernel) ?_)
  refine lv_iconst (v := 3) hx hb dX7_cofactor_47 (by decide) ?_
  refine lv_irem hx hb dX7_cofactor_48 (by decide +kernel) (sv_i (v := 1) (by decide +kernel) ?_)
  refine lv_iconst (v := 3) hx hb dX7_cofactor_49 (by decide) ?_
  refine lv_imul hx hb dX7_cofactor_50 (sv_i (v := 3) (by decide +kernel) ?_)
  refine lv_iadd hx hb dX7_cofactor_51 (lv_topi (fun v1 e_v1 => ?_))
  have e_v1 := ai_add e_v1 rfl li_3 (by omega)
  refine lv_istore (lv' := [(5, .int v1), (0, .ref h0), (1, .int x1), (2, .int 3), (3, .int 0), (4, .int x4)]) hx hb dX7_cofactor_52 hl (by decide) rfl (fun ls hl => ?_)
  refine lv_iload_n hx hb dX7_cofactor_54 rfl (lv_at hl 2 rfl) ?_
  refine lv_iload_n hx hb dX7_cofactor_55 rfl (lv_at hl 4 rfl) ?_
  refine lv_iconst (v := 2) hx hb dX7_cofactor_56 (by decide) ?_
  refine lv_iadd hx hb dX7_cofactor_57 (sv_i (v := 2) (by decide +kernel) ?_)
  refine lv_iconst (v := 3) hx hb dX7_cofactor_58 (by decide) ?_
  refine lv_irem hx hb dX7_cofactor_59 (by decide +kernel) (sv_i (v := 2) (by decide +kernel) ?_)
  refine lv_iconst (v := 3) hx hb dX7_cofactor_60 (by decide) ?_
  refine lv_imul hx hb dX7_cofactor_61 (sv_i (v := 6) (by decide +kernel) ?_)
  refine lv_iadd hx hb dX7_cofactor_62 (lv_topi (fun v2 e_v2 => ?_))
  have e_v2 := ai_add e_v2 rfl li_6 (by omega)
  refine lv_istore (lv' := [(6, .int v2), (5, .int v1), (0, .ref h0), (1, .int x1), (2, .int 3), (3, .int 0), (4, .int x4)]) hx hb dX7_cofactor_63 hl (by decide) rfl (fun ls hl => ?_)
  refine lv_iload hx hb dX7_cofactor_65 (lv_at hl 6 rfl) ?_
  refine lv_iconst (v := 1) hx hb dX7_cofactor_67 (by decide) ?_
  refine lv_iadd hx hb dX7_cofactor_68 (lv_topi (fun v3 e_v3 => ?_))
  have e_v3 := ai_add e_v3 rfl li_1 (by omega)
  refine lv_iconst (v := 3) hx hb dX7_cofactor_69 (by decide) ?_
  refine lv_irem hx hb dX7_cofactor_70 (by decide +kernel) (lv_topi (fun v4 e_v4 => ?_))
  have e_v4 := ai_rem e_v4 rfl li_3 (by omega)
  refine lv_istore (lv' := [(7, .int v4), (6, .int v2), (5, .int v1), (0, .ref h0), (1, .int x1), (2, .int 3), (3, .int 0), (4, .int x4)]) hx hb dX7_cofactor_71 hl (by decide) rfl (fun ls hl => ?_)
  refine lv_iload hx hb dX7_cofactor_73 (lv_at hl 7 rfl) ?_
  refine lv_iconst (v := 2) hx hb dX7_cofactor_75 (by decide) ?_
  refine lv_iadd hx hb dX7_cofactor_76 (lv_topi (fun v5 e_v5 => ?_))
  have e_v5 := ai_add e_v5 rfl li_2 (by omega)
  refine lv_iconst (v := 3) hx hb dX7_cofactor_77 (by decide) ?_
  refine lv_irem hx hb dX7_cofactor_78 (by decide +kernel) (lv_topi (fun v6 e_v6 => ?_))
  have e_v6 := ai_rem e_v6 rfl li_3 (by omega)
  refine lv_istore (lv' := [(8, .int v6), (7, .int v4), (6, .int v2), (5, .int v1), (0, .ref h0), (1, .int x1), (2, .int 3), (3, .int 0), (4, .int x4)]) hx hb dX7_cofactor_79 hl (by decide) rfl (fun ls hl => ?_)
  refine lv_aload_n hx hb dX7_cofactor_81 rfl (lv_at hl 4 rfl) ?_
  refine lv_iload hx hb dX7_cofactor_82 (lv_at hl 3 rfl) ?_
  refine lv_iload hx hb dX7_cofactor_84 (lv_at hl 1 rfl) ?_
  refine lv_iadd hx hb dX7_cofactor_86 (lv_topi (fun v7 e_v7 => ?_))
  have e_v7 := ai_add e_v7 rfl rfl (by omega)
  refine tz_lald hx hb hK hT 0 rfl (by omega) dX7_cofactor_87 (fun v8 e_v8 => ?_)
  clear e_v8
  refine lv_aload_n hx hb dX7_cofactor_88 rfl (lv_at hl 4 rfl) ?_
  refine lv_iload hx hb dX7_cofactor_89 (lv_at hl 2 rfl) ?_
  refine lv_iload hx hb dX7_cofactor_91 (lv_at hl 0 rfl) ?_
  refine lv_iadd hx hb dX7_cofactor_93 (lv_topi (fun v9 e_v9 => ?_))
  have e_v9 := ai_add e_v9 rfl rfl (by omega)
  refine tz_lald hx hb hK hT 0 rfl (by omega) dX7_cofactor_94 (fun v10 e_v10 => ?_)
  clear e_v10
  refine lv_lmul hx hb dX7_cofactor_95 (lv_topl (fun v11 e_v11 => ?_))
  refine lv_aload_n hx hb dX7_cofactor_96 rfl (lv_at hl 4 rfl) ?_
  refine lv_iload hx hb dX7_cofactor_97 (lv_at hl 3 rfl) ?_
  refine lv_iload hx hb dX7_cofactor_99 (lv_at hl 0 rfl) ?_
  refine lv_iadd hx hb dX7_cofactor_101 (lv_topi (fun v12 e_v12 => ?_))
  have e_v12 := ai_add e_v12 rfl rfl (by omega)
  refine tz_lald hx hb hK hT 0 rfl (by omega) dX7_cofactor_102 (fun v13 e_v13 => ?_)
  clear e_v13
  refine lv_aload_n hx hb dX7_cofactor_103 rfl (lv_at hl 4 rfl) ?_
  refine lv_iload hx hb dX7_cofactor_104 (lv_at hl 2 rfl) ?_
  refine lv_iload hx hb dX7_cofactor_106 (lv_at hl 1 rfl) ?_
  refine lv_iadd hx hb dX7_cofactor_108 (lv_topi (fun v14 e_v14 => ?_))
  have e_v14 := ai_add e_v14 rfl rfl (by omega)
  refine tz_lald hx hb hK hT 0 rfl (by omega) dX7_cofactor_109 (fun v15 e_v15 => ?_)
  clear e_v15
  refine lv_lmul hx hb dX7_cofactor_110 (lv_topl (fun v16 e_v16 => ?_))
  refine lv_lsub hx hb dX7_cofactor_111 (lv_topl (fun v17 e_v17 => ?_))
  exact tz_retL (B := B_cX7_cofactor_006a1 D k h0 x1 x4) (v := v17) hQ hx hb hr hlocks hS (Nat.le_of_ble_eq_true rfl) (Nat.le_of_ble_eq_true rfl) dX7_cofactor_112 (hT)
abbrev Rm_cX7_determinant_05929 : Room := { frames := 1, cells := 0, slots := 0, locals := 28 }
abbrev B_cX7_determinant_05929 (D : va_G) (k : Nat → ClassId) (h0 : Nat) (x1 : Int32) (x2 : Int32) (x3 : Int32) (A : Nat → Prop) (r : Int64) (H : Heap) : Prop := TP D A [(h0, aJ (k 1) 36 anJ)] H
set_option maxHeartbeats 4000000 in
set_option maxRecDepth 100000 in
theorem cX7_determinant_05929 (l : Launch) (D : va_G) (k : Nat → ClassId) (sz : Nat) (h0 : Nat) (x1 : Int32) (x2 : Int32) (x3 : Int32) (b_x1 : 0 ≤ x1.toInt ∧ x1.toInt ≤ 27) (b_x2 : 1 ≤ x2.toInt ∧ x2.toInt ≤ 3) (b_x3 : 1 ≤ x3.toInt ∧ x3.toInt ≤ 3) : Met l yX7_determinant (Cond.code yX7_determinant cX7_determinant 7 (some .long) :: uw) Rm_cX7_determinant_05929 (pT D k sz [.ref h0, .int x1, .int x2, .int x3] [(h0, aJ (k 1) 36 anJ)]) (qL (B_cX7_determinant_05929 D k h0 x1 x2 x3 (zA [h0] sz)) (zA [h0] sz)) 0 0 (zA [h0] sz) := by
  refine tz_begin (as := [h0]) (Qc := fun A => qL (B_cX7_determinant_05929 D k h0 x1 x2 x3 A) A) (by decide +kernel) rfl (Nat.le_of_ble_eq_true rfl) ?_
  intro p e s m args below meth c ls A Q hx hb hr hml hown hlocks hin hU hK hT hS hA hl hQ
  have hl : lv_has ls 7 [(0, .ref h0), (1, .int x1), (2, .int x2), (3, .int x3)] := hl
  have hT : TP D A [(h0, aJ (k 1) 36 anJ)] s.heap := hT
  refine lv_iload_n hx hb dX7_determinant_0 rfl (lv_at hl 3 rfl) ?_
  refine lv_iconst (v := 1) hx hb dX7_determinant_1 (by decide) ?_
  refine lv_icmp_ne (tgt := 9) hx hb dX7_determinant_2 (by decide) (fun c_1 => ?_) (fun c_1 => ?_)
  · skip
    have c_1 := ni_ne c_1 rfl li_1
    refine lv_iload_n hx hb dX7_determinant_9 rfl (lv_at hl 3 rfl) ?_
    refine lv_iconst (v := 2) hx hb dX7_determinant_10 (by decide) ?_
    refine lv_icmp_ne (tgt := 38) hx hb dX7_determinant_11 (by decide) (fun c_2 => ?_) (fun c_2 => ?_)
    · skip
      have c_2 := ni_ne c_2 rfl li_2
      refine lv_lconst (v := 0) hx hb dX7_determinant_38 (by decide) ?_
      refine lv_lstore (lv' := [(4, .long 0), (0, .ref h0), (1, .int x1), (2, .int x2), (3, .int x3)]) hx hb dX7_determinant_39 hl (by decide) rfl (fun ls hl => ?_)
      refine lv_iconst (v := 0) hx hb dX7_determinant_41 (by decide) ?_
      refine lv_istore (lv' := [(6, .int 0), (4, .long 0), (0, .ref h0), (1, .int x1), (2, .int x2), (3, .int x3)]) hx hb dX7_determinant_42 hl (by decide) rfl (fun ls hl => ?_)
      have lp44_9 : ∀ (n : Nat) (y7 : Int32) (y8 : Int64) (H : Heap) (locs : List Loc) (ls : Array Slot), (0 ≤ y7.toInt ∧ y7.toInt ≤ 3) → ((-1) * y7.toInt + 3 + 1).toNat < n → TP D A [(h0, aJ (k 1) 36 anJ)] H → va_S A s.heap H locs → lv_has ls 7 [(0, .ref h0), (1, .int x1), (4, .long y8), (6, .int y7)] → W p l e Rm_cX7_determinant_05929 s m args below meth c H locs 0 0 Q (F0 m 44 ls []) := by
        intro n
        induction n with
        | zero => intro y7 y8 H locs ls b_y7 hm hT hS hl; exact absurd hm (Nat.not_lt_zero _)
        | succ n ih =>
          intro y7 y8 H locs ls b_y7 hm hT hS hl
          have ih44_9 := ih
          clear ih
          refine lv_iload hx hb dX7_determinant_44 (lv_at hl 3 rfl) ?_
          refine lv_iconst (v := 3) hx hb dX7_determinant_46 (by decide) ?_
          refine lv_icmp_ge (tgt := 77) hx hb dX7_determinant_47 (by decide) (fun c_10 => ?_) (fun c_10 => ?_)
          · skip
            have c_10 := ni_le c_10 li_3 rfl
            refine lv_lload hx hb dX7_determinant_77 (lv_at hl 2 rfl) ?_
            exact tz_retL (B := B_cX7_determinant_05929 D k h0 x1 x2 x3) (v := y8) hQ hx hb hr hlocks hS (Nat.le_of_ble_eq_true rfl) (Nat.le_of_ble_eq_true rfl) dX7_determinant_79 (hT)
          · skip
            have c_10 := ni_nle c_10 li_3 rfl
            refine lv_lload hx hb dX7_determinant_50 (lv_at hl 2 rfl) ?_
            refine lv_aload_n hx hb dX7_determinant_52 rfl (lv_at hl 0 rfl) ?_
            refine lv_iload_n hx hb dX7_determinant_53 rfl (lv_at hl 1 rfl) ?_
            refine lv_iload hx hb dX7_determinant_54 (lv_at hl 3 rfl) ?_
            refine lv_iadd hx hb dX7_determinant_56 (lv_topi (fun v11 e_v11 => ?_))
            have e_v11 := ai_add e_v11 rfl rfl (by omega)
            refine tz_lald hx hb hK hT 0 rfl (by omega) dX7_determinant_57 (fun v12 e_v12 => ?_)
            clear e_v12
            refine lv_aload_n hx hb dX7_determinant_58 rfl (lv_at hl 0 rfl) ?_
            refine lv_iload_n hx hb dX7_determinant_59 rfl (lv_at hl 1 rfl) ?_
            refine lv_iconst (v := 3) hx hb dX7_determinant_60 (by decide) ?_
            refine lv_iconst (v := 0) hx hb dX7_determinant_61 (by decide) ?_
            refine lv_iload hx hb dX7_determinant_62 (lv_at hl 3 rfl) ?_
            refine tcL (Tc := [(h0, aJ (k 1) 36 anJ)]) (Tr := []) (as := [h0]) (zcS (As := [.ref h0, .int x1, .int 3, .int 0, .int y7]) (rest := [.long v12, .long y8]) (Tc := [(h0, aJ (k 1) 36 anJ)]) hx hb hml hown hU hK hT [0] rfl (by decide) (cX7_cofactor_006a1 l D k _ h0 x1 y7 (by omega) (by omega)) w375 w373 w374 w74 hdX7_cofactor ⟨rfl, rfl⟩ ⟨Nat.le_of_ble_eq_true rfl, Nat.le_of_ble_eq_true rfl⟩ rfl hl.1 (Nat.le_of_ble_eq_true rfl) dX7_determinant_64 ⟨Nat.le_of_ble_eq_true rfl, Nat.le_of_ble_eq_true rfl⟩) hT hS hA [0] [] rfl rfl rfl (by decide) (by decide) (fun r13 H locs hB J hS => ?_)
            have hT1 := hB
            have hT := J _ hT1
            have hT : TP D A [(h0, aJ (k 1) 36 anJ)] H := hT
            refine lv_lmul hx hb dX7_determinant_67 (lv_topl (fun v14 e_v14 => ?_))
            refine lv_ladd hx hb dX7_determinant_68 (lv_topl (fun v15 e_v15 => ?_))
            refine lv_lstore (lv' := [(4, .long v15), (0, .ref h0), (1, .int x1), (6, .int y7)]) hx hb dX7_determinant_69 hl (by decide) rfl (fun ls hl => ?_)
            obtain ⟨v16, e_v16⟩ : ∃ x : Int32, x = y7 + Int32.ofInt 1 := ⟨_, rfl⟩
            have f_v16 := e_v16.symm
            have e_v16 : v16.toInt = y7.toInt + 1 := ai_add e_v16 rfl (show (Int32.ofInt 1).toInt = 1 from (by decide +kernel)) (by omega)
            refine lv_iinc (v := v16) (lv' := [(6, .int v16), (4, .long v15), (0, .ref h0), (1, .int x1)]) hx hb dX7_determinant_71 hl (k := 3) rfl f_v16 (by decide) rfl (fun ls hl => ?_)
            refine lv_goto (tgt := 44) hx hb dX7_determinant_74 (by decide) ?_
            exact ih44_9 v16 v15 _ _ _ (by omega)  (by omega) hT hS (lv_sub hl [2, 3, 1, 0] rfl)
      exact lp44_9 (((-1) * (0 : Int32).toInt + 3 + 1).toNat + 1) (0) (0) _ _ _ (by have := li_0; have := ll_0; omega)  (Nat.lt_succ_self _) hT hS (lv_sub hl [2, 3, 1, 0] rfl)
    · skip
      have c_2 := ni_eq c_2 rfl li_2
      refine lv_aload_n hx hb dX7_determinant_14 rfl (lv_at hl 0 rfl) ?_
      refine lv_iload_n hx hb dX7_determinant_15 rfl (lv_at hl 1 rfl) ?_
      refine tz_lald hx hb hK hT 0 rfl (by omega) dX7_determinant_16 (fun v17 e_v17 => ?_)
      clear e_v17
      refine lv_aload_n hx hb dX7_determinant_17 rfl (lv_at hl 0 rfl) ?_
      refine lv_iload_n hx hb dX7_determinant_18 rfl (lv_at hl 1 rfl) ?_
      refine lv_iload_n hx hb dX7_determinant_19 rfl (lv_at hl 2 rfl) ?_
      refine lv_iadd hx hb dX7_determinant_20 (lv_topi (fun v18 e_v18 => ?_))
      have e_v18 := ai_add e_v18 rfl rfl (by omega)
      refine lv_iconst (v := 1) hx hb dX7_determinant_21 (by decide) ?_
      refine lv_iadd hx hb dX7_determinant_22 (lv_topi (fun v19 e_v19 => ?_))
      have e_v19 := ai_add e_v19 rfl li_1 (by omega)
      refine tz_lald hx hb hK hT 0 rfl (by omega) dX7_determinant_23 (fun v20 e_v20 => ?_)
      clear e_v20
      refine lv_lmul hx hb dX7_determinant_24 (lv_topl (fun v21 e_v21 => ?_))
      refine lv_aload_n hx hb dX7_determinant_25 rfl (lv_at hl 0 rfl) ?_
      refine lv_iload_n hx hb dX7_determinant_26 rfl (lv_at hl 1 rfl) ?_
      refine lv_iconst (v := 1) hx hb dX7_determinant_27 (by decide) ?_
      refine lv_iadd hx hb dX7_determinant_28 (lv_topi (fun v22 e_v22 => ?_))
      have e_v22 := ai_add e_v22 rfl li_1 (by omega)
      refine tz_lald hx hb hK hT 0 rfl (by omega) dX7_determinant_29 (fun v23 e_v23 => ?_)
      clear e_v23
      refine lv_aload_n hx hb dX7_determinant_30 rfl (lv_at hl 0 rfl) ?_
      refine lv_iload_n hx hb dX7_determinant_31 rfl (lv_at hl 1 rfl) ?_
      refine lv_iload_n hx hb dX7_determinant_32 rfl (lv_at hl 2 rfl) ?_
      refine lv_iadd hx hb dX7_determinant_33 (lv_topi (fun v24 e_v24 => ?_))
      have e_v24 := ai_add e_v24 rfl rfl (by omega)
      refine tz_lald hx hb hK hT 0 rfl (by omega) dX7_determinant_34 (fun v25 e_v25 => ?_)
      clear e_v25
      refine lv_lmul hx hb dX7_determinant_35 (lv_topl (fun v26 e_v26 => ?_))
      refine lv_lsub hx hb dX7_determinant_36 (lv_topl (fun v27 e_v27 => ?_))
      exact tz_retL (B := B_cX7_determinant_05929 D k h0 x1 x2 x3) (v := v27) hQ hx hb hr hlocks hS (Nat.le_of_ble_eq_true rfl) (Nat.le_of_ble_eq_true rfl) dX7_determinant_37 (hT)
  · skip
    have c_1 := ni_eq c_1 rfl li_1
    refine lv_aload_n hx hb dX7_determinant_5 rfl (lv_at hl 0 rfl) ?_
    refine lv_iload_n hx hb dX7_determinant_6 rfl (lv_at hl 1 rfl) ?_
    refine tz_lald hx hb hK hT 0 rfl (by omega) dX7_determinant_7 (fun v28 e_v28 => ?_)
    clear e_v28
    exact tz_retL (B := B_cX7_determinant_05929 D k h0 x1 x2 x3) (v := v28) hQ hx hb hr hlocks hS (Nat.le_of_ble_eq_true rfl) (Nat.le_of_ble_eq_true rfl) dX7_determinant_8 (hT)
abbrev Rm_cX7_trace_e2d54 : Room := { frames := 0, cells := 0, slots := 0, locals := 0 }
abbrev B_cX7_trace_e2d54 (D : va_G) (k : Nat → ClassId) (h0 : Nat) (x1 : Int32) (x2 : Int32) (A : Nat → Prop) (r : Int64) (H : Heap) : Prop := TP D A [(h0, aJ (k 1) 36 anJ)] H
set_option maxHeartbeats 4000000 in
set_option maxRecDepth 100000 in
theorem cX7_trace_e2d54 (l : Launch) (D : va_G) (k : Nat → ClassId) (sz : Nat) (h0 : Nat) (x1 : Int32) (x2 : Int32) (b_x1 : 0 ≤ x1.toInt ∧ x1.toInt ≤ 27) (b_x2 : 2 ≤ x2.toInt ∧ x2.toInt ≤ 3) : Met l yX7_trace (Cond.code yX7_trace cX7_trace 6 (some .long) :: uw) Rm_cX7_trace_e2d54 (pT D k sz [.ref h0, .int x1, .int x2] [(h0, aJ (k 1) 36 anJ)]) (qL (B_cX7_trace_e2d54 D k h0 x1 x2 (zA [h0] sz)) (zA [h0] sz)) 0 0 (zA [h0] sz) := by
  refine tz_begin (as := [h0]) (Qc := fun A => qL (B_cX7_trace_e2d54 D k h0 x1 x2 A) A) (by decide +kernel) rfl (Nat.le_of_ble_eq_true rfl) ?_
  intro p e s m args below meth c ls A Q hx hb hr hml hown hlocks hin hU hK hT hS hA hl hQ
  have hl : lv_has ls 6 [(0, .ref h0), (1, .int x1), (2, .int x2)] := hl
  have hT : TP D A [(h0, aJ (k 1) 36 anJ)] s.heap := hT
  refine lv_lconst (v := 0) hx hb dX7_trace_0 (by decide) ?_
  refine lv_lstore_n (lv' := [(3, .long 0), (0, .ref h0), (1, .int x1), (2, .int x2)]) hx hb dX7_trace_1 rfl hl (by decide) rfl (fun ls hl => ?_)
  refine lv_iconst (v := 0) hx hb dX7_trace_2 (by decide) ?_
  refine lv_istore (lv' := [(5, .int 0), (3, .long 0), (0, .ref h0), (1, .int x1), (2, .int x2)]) hx hb dX7_trace_3 hl (by decide) rfl (fun ls hl => ?_)
  have lp5_7 : ∀ (n : Nat) (y5 : Int32) (y6 : Int64) (H : Heap) (locs : List Loc) (ls : Array Slot), (0 ≤ y5.toInt ∧ y5.toInt ≤ 3) → (x2.toInt + (-1) * y5.toInt + 1).toNat < n → TP D A [(h0, aJ (k 1) 36 anJ)] H → va_S A s.heap H locs → lv_has ls 6 [(0, .ref h0), (1, .int x1), (2, .int x2), (3, .long y6), (5, .int y5)] → W p l e Rm_cX7_trace_e2d54 s m args below meth c H locs 0 0 Q (F0 m 5 ls []) := by
    intro n
    induction n with
    | zero => intro y5 y6 H locs ls b_y5 hm hT hS hl; exact absurd hm (Nat.not_lt_zero _)
    | succ n ih =>
      intro y5 y6 H locs ls b_y5 hm hT hS hl
      have ih5_7 := ih
      clear ih
      refine lv_iload hx hb dX7_trace_5 (lv_at hl 4 rfl) ?_
      refine lv_iload_n hx hb dX7_trace_7 rfl (lv_at hl 2 rfl) ?_
      refine lv_icmp_ge (tgt := 31) hx hb dX7_trace_8 (by decide) (fun c_8 => ?_) (fun c_8 => ?_)
      · skip
        have c_8 := ni_le c_8 rfl rfl
        refine lv_lload_n hx hb dX7_trace_31 rfl (lv_at hl 3 rfl) ?_
        exact tz_retL (B := B_cX7_trace_e2d54 D k h0 x1 x2) (v := y6) hQ hx hb hr hlocks hS (Nat.le_of_ble_eq_true rfl) (Nat.le_of_ble_eq_true rfl) dX7_trace_32 (hT)
      · skip
        have c_8 := ni_nle c_8 rfl rfl
        refine lv_lload_n hx hb dX7_trace_11 rfl (lv_at hl 3 rfl) ?_
        refine lv_aload_n hx hb dX7_trace_12 rfl (lv_at hl 0 rfl) ?_
        refine lv_iload_n hx hb dX7_trace_13 rfl (lv_at hl 1 rfl) ?_
        refine lv_iload hx hb dX7_trace_14 (lv_at hl 4 rfl) ?_
        refine lv_iload_n hx hb dX7_trace_16 rfl (lv_at hl 2 rfl) ?_
        refine lv_imul hx hb dX7_trace_17 (lv_topi (fun v9 e_v9 => ?_))
        have e_v9 := ai_mm (la := 0) (ua := 2) (lb := 2) (ub := 3) e_v9 rfl rfl (by omega) (by decide)
        refine lv_iadd hx hb dX7_trace_18 (lv_topi (fun v10 e_v10 => ?_))
        have e_v10 := ai_add e_v10 rfl rfl (by omega)
        refine lv_iload hx hb dX7_trace_19 (lv_at hl 4 rfl) ?_
        refine lv_iadd hx hb dX7_trace_21 (lv_topi (fun v11 e_v11 => ?_))
        have e_v11 := ai_add e_v11 rfl rfl (by omega)
        refine tz_lald hx hb hK hT 0 rfl (by omega) dX7_trace_22 (fun v12 e_v12 => ?_)
        clear e_v12
        refine lv_ladd hx hb dX7_trace_23 (lv_topl (fun v13 e_v13 => ?_))
        refine lv_lstore_n (lv' := [(3, .long v13), (0, .ref h0), (1, .int x1), (2, .int x2), (5, .int y5)]) hx hb dX7_trace_24 rfl hl (by decide) rfl (fun ls hl => ?_)
        obtain ⟨v14, e_v14⟩ : ∃ x : Int32, x = y5 + Int32.ofInt 1 := ⟨_, rfl⟩
        have f_v14 := e_v14.symm
        have e_v14 : v14.toInt = y5.toInt + 1 := ai_add e_v14 rfl (show (Int32.ofInt 1).toInt = 1 from (by decide +kernel)) (by omega)
        refine lv_iinc (v := v14) (lv' := [(5, .int v14), (3, .long v13), (0, .ref h0), (1, .int x1), (2, .int x2)]) hx hb dX7_trace_25 hl (k := 4) rfl f_v14 (by decide) rfl (fun ls hl => ?_)
        refine lv_goto (tgt := 5) hx hb dX7_trace_28 (by decide) ?_
        exact ih5_7 v14 v13 _ _ _ (by omega)  (by omega) hT hS (lv_sub hl [2, 3, 4, 1, 0] rfl)
  exact lp5_7 ((x2.toInt + (-1) * (0 : Int32).toInt + 1).toNat + 1) (0) (0) _ _ _ (by have := li_0; have := ll_0; omega)  (Nat.lt_succ_self _) hT hS (lv_sub hl [2, 3, 4, 1, 0] rfl)
abbrev Rm_cX7_cofactor_42523 : Room := { frames := 0, cells := 0, slots := 0, locals := 0 }
abbrev B_cX7_cofactor_42523 (D : va_G) (k : Nat → ClassId) (h0 : Nat) (x1 : Int32) (x3 : Int32) (x4 : Int32) (A : Nat → Prop) (r : Int64) (H : Heap) : Prop := TP D A [(h0, aJ (k 1) 36 anJ)] H
set_option maxHeartbeats 4000000 in
set_option maxRecDepth 100000 in
theorem cX7_cofactor_42523 (l : Launch) (D : va_G) (k : Nat → ClassId) (sz : Nat) (h0 : Nat) (x1 : Int32) (x3 : Int32) (x4 : Int32) (b_x1 : 0 ≤ x1.toInt ∧ x1.toInt ≤ 27) (b_x3 : 0 ≤ x3.toInt ∧ x3.toInt ≤ 2) (b_x4 : 0 ≤ x4.toInt ∧ x4.toInt ≤ 2) : Met l yX7_cofactor (Cond.code yX7_cofactor cX7_cofactor 9 (some .long) :: uw) Rm_cX7_cofactor_42523 (pT D k sz [.ref h0, .int x1, .int 3, .int x3, .int x4] [(h0, aJ (k 1) 36 anJ)]) (qL (B_cX7_cofactor_42523 D k h0 x1 x3 x4 (zA [h0] sz)) (zA [h0] sz)) 0 0 (zA [h0] sz) := by
  refine tz_begin (as := [h0]) (Qc := fun A => qL (B_cX7_cofactor_42523 D k h0 x1 x3 x4 A) A) (by decide +kernel) rfl (Nat.le_of_ble_eq_true rfl) ?_
  intro p e s m args below meth c ls A Q hx hb hr hml hown hlocks hin hU hK hT hS hA hl hQ
  have hl : lv_has ls 9 [(0, .ref h0), (1, .int x1), (2, .int 3), (3, .int x3), (4, .int x4)] := hl
  have hT : TP D A [(h0, aJ (k 1) 36 anJ)] s.heap := hT
  refine lv_iload_n hx hb dX7_cofactor_0 rfl (lv_at hl 2 rfl) ?_
  refine lv_iconst (v := 1) hx hb dX7_cofactor_1 (by decide) ?_
  refine lv_icmp_ne (tgt := 7) hx hb dX7_cofactor_2 (by decide) (fun _ => ?_) (fun cc => absurd cc (by decide +kernel))
  refine lv_iload_n hx hb dX7_cofactor_7 rfl (lv_at hl 2 rfl) ?_
  refine lv_iconst (v := 2) hx hb dX7_cofactor_8 (by decide) ?_
  refine lv_icmp_ne (tgt := 43) hx hb dX7_cofactor_9 (by decide) (fun _ => ?_) (fun cc => absurd cc (by decide +kernel))
  refine lv_iload_n hx hb dX7_cofactor_43 rfl (lv_at hl 1 rfl) ?_
  refine lv_iload_n hx hb dX7_cofactor_44 rfl (lv_at hl 3 rfl) ?_
  refine lv_iconst (v := 1) hx hb dX7_cofactor_45 (by decide) ?_
  refine lv_iadd hx hb dX7_cofactor_46 (lv_topi (fun v1 e_v1 => ?_))
  have e_v1 := ai_add e_v1 rfl li_1 (by omega)
  refine lv_iconst (v := 3) hx hb dX7_cofactor_47 (by decide) ?_
  refine lv_irem hx hb dX7_cofactor_48 (by decide +kernel) (lv_topi (fun v2 e_v2 => ?_))
  have e_v2 := ai_rem e_v2 rfl li_3 (by omega)
  refine lv_iconst (v := 3) hx hb dX7_cofactor_49 (by decide) ?_
  refine lv_imul hx hb dX7_cofactor_50 (lv_topi (fun v3 e_v3 => ?_))
  have e_v3 := ai_mul e_v3 rfl li_3 (by omega)
  refine lv_iadd hx hb dX7_cofactor_51 (lv_topi (fun v4 e_v4 => ?_))
  have e_v4 := ai_add e_v4 rfl rfl (by omega)
  refine lv_istore (lv' := [(5, .int v4), (0, .ref h0), (1, .int x1), (2, .int 3), (3, .int x3), (4, .int x4)]) hx hb dX7_cofactor_52 hl (by decide) rfl (fun ls hl => ?_)
  refine lv_iload_n hx hb dX7_cofactor_54 rfl (lv_at hl 2 rfl) ?_
  refine lv_iload_n hx hb dX7_cofactor_55 rfl (lv_at hl 4 rfl) ?_
  refine lv_iconst (v := 2) hx hb dX7_cofactor_56 (by decide) ?_
  refine lv_iadd hx hb dX7_cofactor_57 (lv_topi (fun v5 e_v5 => ?_))
  have e_v5 := ai_add e_v5 rfl li_2 (by omega)
  refine lv_iconst (v := 3) hx hb dX7_cofactor_58 (by decide) ?_
  refine lv_irem hx hb dX7_cofactor_59 (by decide +kernel) (lv_topi (fun v6 e_v6 => ?_))
  have e_v6 := ai_rem e_v6 rfl li_3 (by omega)
  refine lv_iconst (v := 3) hx hb dX7_cofactor_60 (by decide) ?_
  refine lv_imul hx hb dX7_cofactor_61 (lv_topi (fun v7 e_v7 => ?_))
  have e_v7 := ai_mul e_v7 rfl li_3 (by omega)
  refine lv_iadd hx hb dX7_cofactor_62 (lv_topi (fun v8 e_v8 => ?_))
  have e_v8 := ai_add e_v8 rfl rfl (by omega)
  refine lv_istore (lv' := [(6, .int v8), (5, .int v4), (0, .ref h0), (1, .int x1), (2, .int 3), (3, .int x3), (4, .int x4)]) hx hb dX7_cofactor_63 hl (by decide) rfl (fun ls hl => ?_)
  refine lv_iload hx hb dX7_cofactor_65 (lv_at hl 6 rfl) ?_
  refine lv_iconst (v := 1) hx hb dX7_cofactor_67 (by decide) ?_
  refine lv_iadd hx hb dX7_cofactor_68 (lv_topi (fun v9 e_v9 => ?_))
  have e_v9 := ai_add e_v9 rfl li_1 (by omega)
  refine lv_iconst (v := 3) hx hb dX7_cofactor_69 (by decide) ?_
  refine lv_irem hx hb dX7_cofactor_70 (by decide +kernel) (lv_topi (fun v10 e_v10 => ?_))
  have e_v10 := ai_rem e_v10 rfl li_3 (by omega)
  refine lv_istore (lv' := [(7, .int v10), (6, .int v8), (5, .int v4), (0, .ref h0), (1, .int x1), (2, .int 3), (3, .int x3), (4, .int x4)]) hx hb dX7_cofactor_71 hl (by decide) rfl (fun ls hl => ?_)
  refine lv_iload hx hb dX7_cofactor_73 (lv_at hl 7 rfl) ?_
  refine lv_iconst (v := 2) hx hb dX7_cofactor_75 (by decide) ?_
  refine lv_iadd hx hb dX7_cofactor_76 (lv_topi (fun v11 e_v11 => ?_))
  have e_v11 := ai_add e_v11 rfl li_2 (by omega)
  refine lv_iconst (v := 3) hx hb dX7_cofactor_77 (by decide) ?_
  refine lv_irem hx hb dX7_cofactor_78 (by decide +kernel) (lv_topi (fun v12 e_v12 => ?_))
  have e_v12 := ai_rem e_v12 rfl li_3 (by omega)
  refine lv_istore (lv' := [(8, .int v12), (7, .int v10), (6, .int v8), (5, .int v4), (0, .ref h0), (1, .int x1), (2, .int 3), (3, .int x3), (4, .int x4)]) hx hb dX7_cofactor_79 hl (by decide) rfl (fun ls hl => ?_)
  refine lv_aload_n hx hb dX7_cofactor_81 rfl (lv_at hl 4 rfl) ?_
  refine lv_iload hx hb dX7_cofactor_82 (lv_at hl 3 rfl) ?_
  refine lv_iload hx hb dX7_cofactor_84 (lv_at hl 1 rfl) ?_
  refine lv_iadd hx hb dX7_cofactor_86 (lv_topi (fun v13 e_v13 => ?_))
  have e_v13 := ai_add e_v13 rfl rfl (by omega)
  refine tz_lald hx hb hK hT 0 rfl (by omega) dX7_cofactor_87 (fun v14 e_v14 => ?_)
  clear e_v14
  refine lv_aload_n hx hb dX7_cofactor_88 rfl (lv_at hl 4 rfl) ?_
  refine lv_iload hx hb dX7_cofactor_89 (lv_at hl 2 rfl) ?_
  refine lv_iload hx hb dX7_cofactor_91 (lv_at hl 0 rfl) ?_
  refine lv_iadd hx hb dX7_cofactor_93 (lv_topi (fun v15 e_v15 => ?_))
  have e_v15 := ai_add e_v15 rfl rfl (by omega)
  refine tz_lald hx hb hK hT 0 rfl (by omega) dX7_cofactor_94 (fun v16 e_v16 => ?_)
  clear e_v16
  refine lv_lmul hx hb dX7_cofactor_95 (lv_topl (fun v17 e_v17 => ?_))
  refine lv_aload_n hx hb dX7_cofactor_96 rfl (lv_at hl 4 rfl) ?_
  refine lv_iload hx hb dX7_cofactor_97 (lv_at hl 3 rfl) ?_
  refine lv_iload hx hb dX7_cofactor_99 (lv_at hl 0 rfl) ?_
  refine lv_iadd hx hb dX7_cofactor_101 (lv_topi (fun v18 e_v18 => ?_))
  have e_v18 := ai_add e_v18 rfl rfl (by omega)
  refine tz_lald hx hb hK hT 0 rfl (by omega) dX7_cofactor_102 (fun v19 e_v19 => ?_)
  clear e_v19
  refine lv_aload_n hx hb dX7_cofactor_103 rfl (lv_at hl 4 rfl) ?_
  refine lv_iload hx hb dX7_cofactor_104 (lv_at hl 2 rfl) ?_
  refine lv_iload hx hb dX7_cofactor_106 (lv_at hl 1 rfl) ?_
  refine lv_iadd hx hb dX7_cofactor_108 (lv_topi (fun v20 e_v20 => ?_))
  have e_v20 := ai_add e_v20 rfl rfl (by omega)
  refine tz_lald hx hb hK hT 0 rfl (by omega) dX7_cofactor_109 (fun v21 e_v21 => ?_)
  clear e_v21
  refine lv_lmul hx hb dX7_cofactor_110 (lv_topl (fun v22 e_v22 => ?_))
  refine lv_lsub hx hb dX7_cofactor_111 (lv_topl (fun v23 e_v23 => ?_))
  exact tz_retL (B := B_cX7_cofactor_42523 D k h0 x1 x3 x4) (v := v23) hQ hx hb hr hlocks hS (Nat.le_of_ble_eq_true rfl) (Nat.le_of_ble_eq_true rfl) dX7_cofactor_112 (hT)
abbrev Rm_cX3_characterOf_18d92 : Room := { frames := 2, cells := 1, slots := 4, locals := 54 }
abbrev B_cX3_characterOf_18d92 (D : va_G) (k : Nat → ClassId) (h0 : Nat) (x1 : Int32) (x2 : Int32) (A : Nat → Prop) (r : Nat) (H : Heap) : Prop := ∃ n0 : Nat, n0 = r ∧ TP D A [(h0, aJ (k 1) 36 anJ), (n0, aJ (k 1) 4 anJ)] H
set_option maxHeartbeats 4000000 in
set_option maxRecDepth 100000 in
theorem cX3_characterOf_18d92 (l : Launch) (D : va_G) (k : Nat → ClassId) (sz : Nat) (h0 : Nat) (x1 : Int32) (x2 : Int32) (b_x1 : 0 ≤ x1.toInt ∧ x1.toInt ≤ 27) (b_x2 : 1 ≤ x2.toInt ∧ x2.toInt ≤ 3) : Met l yX3_characterOf (Cond.code yX3_characterOf cX3_characterOf 7 (some (.array .long)) :: uw) Rm_cX3_characterOf_18d92 (pT D k sz [.ref h0, .int x1, .int x2] [(h0, aJ (k 1) 36 anJ)]) (qR (B_cX3_characterOf_18d92 D k h0 x1 x2 (zA [h0] sz)) (zA [h0] sz)) 1 4 (zA [h0] sz) := by
  refine tz_begin (as := [h0]) (Qc := fun A => qR (B_cX3_characterOf_18d92 D k h0 x1 x2 A) A) (by decide +kernel) rfl (Nat.le_of_ble_eq_true rfl) ?_
  intro p e s m args below meth c ls A Q hx hb hr hml hown hlocks hin hU hK hT hS hA hl hQ
  have hl : lv_has ls 7 [(0, .ref h0), (1, .int x1), (2, .int x2)] := hl
  have hT : TP D A [(h0, aJ (k 1) 36 anJ)] s.heap := hT
  refine lv_iconst (v := 4) hx hb dX3_characterOf_0 (by decide) ?_
  refine tz_nal (N := 4) hx hb hU w113 hK hT hS hA (by decide +kernel) (by decide +kernel) (Nat.le_of_ble_eq_true rfl) (Nat.le_of_ble_eq_true rfl) (Nat.le_of_ble_eq_true rfl) dX3_characterOf_1 (fun q1 H hT hS => ?_)
  have hT : TP D A [(h0, aJ (k 1) 36 anJ), (q1, aJ (k 1) 4 anJ)] H := hT
  refine lv_astore_n (lv' := [(3, .ref q1), (0, .ref h0), (1, .int x1), (2, .int x2)]) hx hb dX3_characterOf_3 rfl hl (by decide) rfl (fun ls hl => ?_)
  refine lv_aload_n hx hb dX3_characterOf_4 rfl (lv_at hl 1 rfl) ?_
  refine lv_iload_n hx hb dX3_characterOf_5 rfl (lv_at hl 2 rfl) ?_
  refine lv_iload_n hx hb dX3_characterOf_6 rfl (lv_at hl 3 rfl) ?_
  refine lv_iload_n hx hb dX3_characterOf_7 rfl (lv_at hl 3 rfl) ?_
  refine tcL (Tc := [(h0, aJ (k 1) 36 anJ)]) (Tr := [(q1, aJ (k 1) 4 anJ)]) (as := [h0]) (zcS (As := [.ref h0, .int x1, .int x2, .int x2]) (rest := []) (Tc := [(h0, aJ (k 1) 36 anJ)]) hx hb hml hown hU hK hT [0] rfl (by decide) (cX7_determinant_05929 l D k _ h0 x1 x2 x2 (by omega) (by omega) (by omega)) w372 w423 w371 w74 hdX7_determinant ⟨rfl, rfl⟩ ⟨Nat.le_of_ble_eq_true rfl, Nat.le_of_ble_eq_true rfl⟩ rfl hl.1 (Nat.le_of_ble_eq_true rfl) dX3_characterOf_8 ⟨Nat.le_of_ble_eq_true rfl, Nat.le_of_ble_eq_true rfl⟩) hT hS hA [0] [1] rfl rfl rfl (by decide) (by decide) (fun r2 H locs hB J hS => ?_)
  have hT1 := hB
  have hT := J _ hT1
  have hT : TP D A [(q1, aJ (k 1) 4 anJ), (h0, aJ (k 1) 36 anJ)] H := hT
  refine lv_lstore (lv' := [(4, .long r2), (3, .ref q1), (0, .ref h0), (1, .int x1), (2, .int x2)]) hx hb dX3_characterOf_11 hl (by decide) rfl (fun ls hl => ?_)
  refine lv_aload_n hx hb dX3_characterOf_13 rfl (lv_at hl 1 rfl) ?_
  refine lv_iconst (v := 0) hx hb dX3_characterOf_14 (by decide) ?_
  refine lv_iload_n hx hb dX3_characterOf_15 rfl (lv_at hl 4 rfl) ?_
  refine lv_iconst (v := 2) hx hb dX3_characterOf_16 (by decide) ?_
  refine lv_icmp_ne (tgt := 25) hx hb dX3_characterOf_17 (by decide) (fun c_3 => ?_) (fun c_3 => ?_)
  · skip
    have c_3 := ni_ne c_3 rfl li_2
    refine lv_lload hx hb dX3_characterOf_25 (lv_at hl 0 rfl) ?_
    refine lv_lneg hx hb dX3_characterOf_27 (lv_topl (fun v4 e_v4 => ?_))
    have e_v4 := al_negz e_v4
    refine tz_last hx hb hK hT hS 0 rfl (by have := li_0; omega) (fun _ _ => trivial) dX3_characterOf_28 (fun H locs hT hS => ?_)
    refine lv_iload_n hx hb dX3_characterOf_29 rfl (lv_at hl 4 rfl) ?_
    refine lv_iconst (v := 3) hx hb dX3_characterOf_30 (by decide) ?_
    refine lv_icmp_ne (tgt := 65) hx hb dX3_characterOf_31 (by decide) (fun c_5 => ?_) (fun c_5 => ?_)
    · skip
      have c_5 := ni_ne c_5 rfl li_3
      refine lv_iload_n hx hb dX3_characterOf_65 rfl (lv_at hl 4 rfl) ?_
      refine lv_iconst (v := 1) hx hb dX3_characterOf_66 (by decide) ?_
      refine lv_icmp_le (tgt := 82) hx hb dX3_characterOf_67 (by decide) (fun c_6 => ?_) (fun c_6 => ?_)
      · skip
        have c_6 := ni_le c_6 rfl li_1
        refine lv_aload_n hx hb dX3_characterOf_82 rfl (lv_at hl 1 rfl) ?_
        refine lv_iload_n hx hb dX3_characterOf_83 rfl (lv_at hl 4 rfl) ?_
        refine lv_lconst (v := 1) hx hb dX3_characterOf_84 (by decide) ?_
        refine tz_last hx hb hK hT hS 0 rfl (by omega) (fun _ _ => trivial) dX3_characterOf_85 (fun H locs hT hS => ?_)
        refine lv_aload_n hx hb dX3_characterOf_86 rfl (lv_at hl 1 rfl) ?_
        exact tz_retA (B := B_cX3_characterOf_18d92 D k h0 x1 x2) (v := q1) hQ hx hb hr hlocks hS (Nat.le_of_ble_eq_true rfl) (Nat.le_of_ble_eq_true rfl) dX3_characterOf_87 (⟨q1, rfl, (hT.sub [1, 0] (by decide) rfl)⟩)
      · skip
        have c_6 := ni_nle c_6 rfl li_1
        exfalso; omega
    · skip
      have c_5 := ni_eq c_5 rfl li_3
      refine lv_iconst (v := 0) hx hb dX3_characterOf_34 (by decide) ?_
      refine lv_istore (lv' := [(6, .int 0), (4, .long r2), (3, .ref q1), (0, .ref h0), (1, .int x1), (2, .int x2)]) hx hb dX3_characterOf_35 hl (by decide) rfl (fun ls hl => ?_)
      have lp37_10 : ∀ (n : Nat) (y9 : Int32) (H : Heap) (locs : List Loc) (ls : Array Slot), (0 ≤ y9.toInt ∧ y9.toInt ≤ 3) → ((-1) * y9.toInt + 3 + 1).toNat < n → TP D A [(q1, aJ (k 1) 4 anJ), (h0, aJ (k 1) 36 anJ)] H → va_S A s.heap H locs → lv_has ls 7 [(0, .ref h0), (1, .int x1), (2, .int x2), (3, .ref q1), (6, .int y9)] → W p l e Rm_cX3_characterOf_18d92 s m args below meth c H locs 1 4 Q (F0 m 37 ls []) := by
        intro n
        induction n with
        | zero => intro y9 H locs ls b_y9 hm hT hS hl; exact absurd hm (Nat.not_lt_zero _)
        | succ n ih =>
          intro y9 H locs ls b_y9 hm hT hS hl
          have ih37_10 := ih
          clear ih
          refine lv_iload hx hb dX3_characterOf_37 (lv_at hl 4 rfl) ?_
          refine lv_iconst (v := 3) hx hb dX3_characterOf_39 (by decide) ?_
          refine lv_icmp_ge (tgt := 65) hx hb dX3_characterOf_40 (by decide) (fun c_11 => ?_) (fun c_11 => ?_)
          · skip
            have c_11 := ni_le c_11 li_3 rfl
            refine lv_iload_n hx hb dX3_characterOf_65 rfl (lv_at hl 2 rfl) ?_
            refine lv_iconst (v := 1) hx hb dX3_characterOf_66 (by decide) ?_
            refine lv_icmp_le (tgt := 82) hx hb dX3_characterOf_67 (by decide) (fun c_12 => ?_) (fun c_12 => ?_)
            · skip
              have c_12 := ni_le c_12 rfl li_1
              exfalso; omega
            · skip
              have c_12 := ni_nle c_12 rfl li_1
              refine lv_aload_n hx hb dX3_characterOf_70 rfl (lv_at hl 3 rfl) ?_
              refine lv_iload_n hx hb dX3_characterOf_71 rfl (lv_at hl 2 rfl) ?_
              refine lv_iconst (v := 1) hx hb dX3_characterOf_72 (by decide) ?_
              have hq13 : x2.toInt = 3 := by omega
              refine lv_isub hx hb dX3_characterOf_73 (lv_topi (fun v14 e_v14 => ?_))
              have e_v14 := ai_sub e_v14 hq13 li_1 (by omega)
              refine lv_aload_n hx hb dX3_characterOf_74 rfl (lv_at hl 0 rfl) ?_
              refine lv_iload_n hx hb dX3_characterOf_75 rfl (lv_at hl 1 rfl) ?_
              refine lv_iload_n hx hb dX3_characterOf_76 rfl (lv_at hl 2 rfl) ?_
              refine tcL (Tc := [(h0, aJ (k 1) 36 anJ)]) (Tr := [(q1, aJ (k 1) 4 anJ)]) (as := [h0]) (zcS (As := [.ref h0, .int x1, .int x2]) (rest := [.int v14, .ref q1]) (Tc := [(h0, aJ (k 1) 36 anJ)]) hx hb hml hown hU hK hT [1] rfl (by decide) (cX7_trace_e2d54 l D k _ h0 x1 x2 (by omega) (by omega)) w405 w425 w404 w74 hdX7_trace ⟨rfl, rfl⟩ ⟨Nat.le_of_ble_eq_true rfl, Nat.le_of_ble_eq_true rfl⟩ rfl hl.1 (Nat.le_of_ble_eq_true rfl) dX3_characterOf_77 ⟨Nat.le_of_ble_eq_true rfl, Nat.le_of_ble_eq_true rfl⟩) hT hS hA [1] [0] rfl rfl rfl (by decide) (by decide) (fun r15 H locs hB J hS => ?_)
              have hT1 := hB
              have hT := J _ hT1
              have hT : TP D A [(q1, aJ (k 1) 4 anJ), (h0, aJ (k 1) 36 anJ)] H := hT
              refine lv_lneg hx hb dX3_characterOf_80 (lv_topl (fun v16 e_v16 => ?_))
              have e_v16 := al_negz e_v16
              refine tz_last hx hb hK hT hS 0 rfl (by omega) (fun _ _ => trivial) dX3_characterOf_81 (fun H locs hT hS => ?_)
              refine lv_aload_n hx hb dX3_characterOf_82 rfl (lv_at hl 3 rfl) ?_
              refine lv_iload_n hx hb dX3_characterOf_83 rfl (lv_at hl 2 rfl) ?_
              refine lv_lconst (v := 1) hx hb dX3_characterOf_84 (by decide) ?_
              refine tz_last hx hb hK hT hS 0 rfl (by omega) (fun _ _ => trivial) dX3_characterOf_85 (fun H locs hT hS => ?_)
              refine lv_aload_n hx hb dX3_characterOf_86 rfl (lv_at hl 3 rfl) ?_
              exact tz_retA (B := B_cX3_characterOf_18d92 D k h0 x1 x2) (v := q1) hQ hx hb hr hlocks hS (Nat.le_of_ble_eq_true rfl) (Nat.le_of_ble_eq_true rfl) dX3_characterOf_87 (⟨q1, rfl, (hT.sub [1, 0] (by decide) rfl)⟩)
          · skip
            have c_11 := ni_nle c_11 li_3 rfl
            refine lv_aload_n hx hb dX3_characterOf_43 rfl (lv_at hl 3 rfl) ?_
            refine lv_iconst (v := 1) hx hb dX3_characterOf_44 (by decide) ?_
            refine lv_dup2_11 hx hb dX3_characterOf_45 rfl rfl ?_
            refine tz_lald hx hb hK hT 0 rfl (by have := li_1; omega) dX3_characterOf_46 (fun v17 e_v17 => ?_)
            clear e_v17
            refine lv_aload_n hx hb dX3_characterOf_47 rfl (lv_at hl 0 rfl) ?_
            refine lv_iload_n hx hb dX3_characterOf_48 rfl (lv_at hl 1 rfl) ?_
            refine lv_iconst (v := 3) hx hb dX3_characterOf_49 (by decide) ?_
            refine lv_iload hx hb dX3_characterOf_50 (lv_at hl 4 rfl) ?_
            refine lv_iload hx hb dX3_characterOf_52 (lv_at hl 4 rfl) ?_
            refine tcL (Tc := [(h0, aJ (k 1) 36 anJ)]) (Tr := [(q1, aJ (k 1) 4 anJ)]) (as := [h0]) (zcS (As := [.ref h0, .int x1, .int 3, .int y9, .int y9]) (rest := [.long v17, .int 1, .ref q1]) (Tc := [(h0, aJ (k 1) 36 anJ)]) hx hb hml hown hU hK hT [1] rfl (by decide) (cX7_cofactor_42523 l D k _ h0 x1 y9 y9 (by omega) (by omega) (by omega)) w375 w424 w374 w74 hdX7_cofactor ⟨rfl, rfl⟩ ⟨Nat.le_of_ble_eq_true rfl, Nat.le_of_ble_eq_true rfl⟩ rfl hl.1 (Nat.le_of_ble_eq_true rfl) dX3_characterOf_54 ⟨Nat.le_of_ble_eq_true rfl, Nat.le_of_ble_eq_true rfl⟩) hT hS hA [1] [0] rfl rfl rfl (by decide) (by decide) (fun r18 H locs hB J hS => ?_)
            have hT1 := hB
            have hT := J _ hT1
            have hT : TP D A [(q1, aJ (k 1) 4 anJ), (h0, aJ (k 1) 36 anJ)] H := hT
            refine lv_ladd hx hb dX3_characterOf_57 (lv_topl (fun v19 e_v19 => ?_))
            refine tz_last hx hb hK hT hS 0 rfl (by have := li_1; omega) (fun _ _ => trivial) dX3_characterOf_58 (fun H locs hT hS => ?_)
            obtain ⟨v20, e_v20⟩ : ∃ x : Int32, x = y9 + Int32.ofInt 1 := ⟨_, rfl⟩
            have f_v20 := e_v20.symm
            have e_v20 : v20.toInt = y9.toInt + 1 := ai_add e_v20 rfl (show (Int32.ofInt 1).toInt = 1 from (by decide +kernel)) (by omega)
            refine lv_iinc (v := v20) (lv' := [(6, .int v20), (0, .ref h0), (1, .int x1), (2, .int x2), (3, .ref q1)]) hx hb dX3_characterOf_59 hl (k := 4) rfl f_v20 (by decide) rfl (fun ls hl => ?_)
            refine lv_goto (tgt := 37) hx hb dX3_characterOf_62 (by decide) ?_
            exact ih37_10 v20 _ _ _ (by omega)  (by omega) hT hS (lv_sub hl [1, 2, 3, 4, 0] rfl)
      exact lp37_10 (((-1) * (0 : Int32).toInt + 3 + 1).toNat + 1) (0) _ _ _ (by have := li_0; omega)  (Nat.lt_succ_self _) hT hS (lv_sub hl [3, 4, 5, 2, 0] rfl)
  · skip
    have c_3 := ni_eq c_3 rfl li_2
    refine lv_lload hx hb dX3_characterOf_20 (lv_at hl 0 rfl) ?_
    refine lv_goto (tgt := 28) hx hb dX3_characterOf_22 (by decide) ?_
    refine tz_last hx hb hK hT hS 0 rfl (by have := li_0; omega) (fun _ _ => trivial) dX3_characterOf_28 (fun H locs hT hS => ?_)
    refine lv_iload_n hx hb dX3_characterOf_29 rfl (lv_at hl 4 rfl) ?_
    refine lv_iconst (v := 3) hx hb dX3_characterOf_30 (by decide) ?_
    refine lv_icmp_ne (tgt := 65) hx hb dX3_characterOf_31 (by decide) (fun c_21 => ?_) (fun c_21 => ?_)
    · skip
      have c_21 := ni_ne c_21 rfl li_3
      refine lv_iload_n hx hb dX3_characterOf_65 rfl (lv_at hl 4 rfl) ?_
      refine lv_iconst (v := 1) hx hb dX3_characterOf_66 (by decide) ?_
      refine lv_icmp_le (tgt := 82) hx hb dX3_characterOf_67 (by decide) (fun c_22 => ?_) (fun c_22 => ?_)
      · skip
        have c_22 := ni_le c_22 rfl li_1
        exfalso; omega
      · skip
        have c_22 := ni_nle c_22 rfl li_1
        refine lv_aload_n hx hb dX3_characterOf_70 rfl (lv_at hl 1 rfl) ?_
        refine lv_iload_n hx hb dX3_characterOf_71 rfl (lv_at hl 4 rfl) ?_
        refine lv_iconst (v := 1) hx hb dX3_characterOf_72 (by decide) ?_
        have hq23 : x2.toInt = 2 := by omega
        refine lv_isub hx hb dX3_characterOf_73 (lv_topi (fun v24 e_v24 => ?_))
        have e_v24 := ai_sub e_v24 hq23 li_1 (by omega)
        refine lv_aload_n hx hb dX3_characterOf_74 rfl (lv_at hl 2 rfl) ?_
        refine lv_iload_n hx hb dX3_characterOf_75 rfl (lv_at hl 3 rfl) ?_
        refine lv_iload_n hx hb dX3_characterOf_76 rfl (lv_at hl 4 rfl) ?_
        refine tcL (Tc := [(h0, aJ (k 1) 36 anJ)]) (Tr := [(q1, aJ (k 1) 4 anJ)]) (as := [h0]) (zcS (As := [.ref h0, .int x1, .int x2]) (rest := [.int v24, .ref q1]) (Tc := [(h0, aJ (k 1) 36 anJ)]) hx hb hml hown hU hK hT [1] rfl (by decide) (cX7_trace_e2d54 l D k _ h0 x1 x2 (by omega) (by omega)) w405 w425 w404 w74 hdX7_trace ⟨rfl, rfl⟩ ⟨Nat.le_of_ble_eq_true rfl, Nat.le_of_ble_eq_true rfl⟩ rfl hl.1 (Nat.le_of_ble_eq_true rfl) dX3_characterOf_77 ⟨Nat.le_of_ble_eq_true rfl, Nat.le_of_ble_eq_true rfl⟩) hT hS hA [1] [0] rfl rfl rfl (by decide) (by decide) (fun r25 H locs hB J hS => ?_)
        have hT1 := hB
        have hT := J _ hT1
        have hT : TP D A [(q1, aJ (k 1) 4 anJ), (h0, aJ (k 1) 36 anJ)] H := hT
        refine lv_lneg hx hb dX3_characterOf_80 (lv_topl (fun v26 e_v26 => ?_))
        have e_v26 := al_negz e_v26
        refine tz_last hx hb hK hT hS 0 rfl (by omega) (fun _ _ => trivial) dX3_characterOf_81 (fun H locs hT hS => ?_)
        refine lv_aload_n hx hb dX3_characterOf_82 rfl (lv_at hl 1 rfl) ?_
        refine lv_iload_n hx hb dX3_characterOf_83 rfl (lv_at hl 4 rfl) ?_
        refine lv_lconst (v := 1) hx hb dX3_characterOf_84 (by decide) ?_
        refine tz_last hx hb hK hT hS 0 rfl (by omega) (fun _ _ => trivial) dX3_characterOf_85 (fun H locs hT hS => ?_)
        refine lv_aload_n hx hb dX3_characterOf_86 rfl (lv_at hl 1 rfl) ?_
        exact tz_retA (B := B_cX3_characterOf_18d92 D k h0 x1 x2) (v := q1) hQ hx hb hr hlocks hS (Nat.le_of_ble_eq_true rfl) (Nat.le_of_ble_eq_true rfl) dX3_characterOf_87 (⟨q1, rfl, (hT.sub [1, 0] (by decide) rfl)⟩)
    · skip
      have c_21 := ni_eq c_21 rfl li_3
      exfalso; omega
abbrev Rm_cX3_takeOut_60979 : Room := { frames := 0, cells := 0, slots := 0, locals := 0 }
abbrev B_cX3_takeOut_60979 (D : va_G) (k : Nat → ClassId) (h0 : Nat) (x1 : Int32) (x2 : Int32) (A : Nat → Prop) (r : Int32) (H : Heap) : Prop := (0 ≤ r.toInt ∧ r.toInt ≤ 1) ∧ TP D A [(h0, aJ (k 1) 4 anJ)] H
set_option maxHeartbeats 4000000 in
set_option maxRecDepth 100000 in
theorem cX3_takeOut_60979 (l : Launch) (D : va_G) (k : Nat → ClassId) (sz : Nat) (t0 t1 t2 : Nat) (h0 : Nat) (x1 : Int32) (x2 : Int32) (b_x1 : (-4) ≤ x1.toInt ∧ x1.toInt ≤ 3) (b_x2 : 0 ≤ x2.toInt ∧ x2.toInt ≤ 6) : Met l yX3_takeOut (Cond.code yX3_takeOut cX3_takeOut 5 (some .boolean) :: uw) Rm_cX3_takeOut_60979 (pTs D k t0 t1 t2 [h0] sz [.ref h0, .int x1, .int x2] [(h0, aJ (k 1) 4 anJ)]) (qI (B_cX3_takeOut_60979 D k h0 x1 x2 (zA [h0] sz)) (zA [h0] sz)) 0 0 (zA [h0] sz) := by
  refine tz_beginS (as := [h0]) (Qc := fun A => qI (B_cX3_takeOut_60979 D k h0 x1 x2 A) A) (by decide +kernel) rfl (Nat.le_of_ble_eq_true rfl) ?_
  intro p e s m args below meth c ls A Q hx hb hr hml hown hlocks hin hU hK hT hS hA hl hQ hZ
  have hl : lv_has ls 5 [(0, .ref h0), (1, .int x1), (2, .int x2)] := hl
  have hT : TP D A [(h0, aJ (k 1) 4 anJ)] s.heap := hT
  refine va_gets hx hb hZ.1.1 hS hown (hU _ w433) (fun _ h9 => h9) dX3_takeOut_0 ?_
  refine lv_iload_n hx hb dX3_takeOut_3 rfl (lv_at hl 2 rfl) ?_
  refine tz_ti hx hb hZ.1.2 hS (by omega) dX3_takeOut_4 (fun v1 e_v1 => ?_)
  have e_v1 : 0 ≤ v1.toInt ∧ v1.toInt ≤ 2 := by rw [e_v1]; exact fd0_rg _
  refine lv_istore_n (lv' := [(3, .int v1), (0, .ref h0), (1, .int x1), (2, .int x2)]) hx hb dX3_takeOut_5 rfl hl (by decide) rfl (fun ls hl => ?_)
  refine lv_iload_n hx hb dX3_takeOut_6 rfl (lv_at hl 2 rfl) ?_
  refine lv_iload_n hx hb dX3_takeOut_7 rfl (lv_at hl 0 rfl) ?_
  refine lv_icmp_ge (tgt := 13) hx hb dX3_takeOut_8 (by decide) (fun c_2 => ?_) (fun c_2 => ?_)
  · skip
    have c_2 := ni_le c_2 rfl rfl
    refine lv_iload_n hx hb dX3_takeOut_13 rfl (lv_at hl 2 rfl) ?_
    refine lv_istore (lv' := [(4, .int x1), (3, .int v1), (0, .ref h0), (1, .int x1), (2, .int x2)]) hx hb dX3_takeOut_14 hl (by decide) rfl (fun ls hl => ?_)
    have lp16_4 : ∀ (n : Nat) (y3 : Int32) (H : Heap) (locs : List Loc) (ls : Array Slot), ((-1) ≤ y3.toInt ∧ y3.toInt ≤ 3) → (y3.toInt + (-1) * v1.toInt + 1).toNat < n → TP D A [(h0, aJ (k 1) 4 anJ)] H → va_S A s.heap H locs → lv_has ls 5 [(0, .ref h0), (1, .int x1), (2, .int x2), (3, .int v1), (4, .int y3)] → W p l e Rm_cX3_takeOut_60979 s m args below meth c H locs 0 0 Q (F0 m 16 ls []) := by
      intro n
      induction n with
      | zero => intro y3 H locs ls b_y3 hm hT hS hl; exact absurd hm (Nat.not_lt_zero _)
      | succ n ih =>
        intro y3 H locs ls b_y3 hm hT hS hl
        have ih16_4 := ih
        clear ih
        refine lv_iload hx hb dX3_takeOut_16 (lv_at hl 4 rfl) ?_
        refine lv_iload_n hx hb dX3_takeOut_18 rfl (lv_at hl 3 rfl) ?_
        refine lv_icmp_lt (tgt := 73) hx hb dX3_takeOut_19 (by decide) (fun c_5 => ?_) (fun c_5 => ?_)
        · skip
          have c_5 := ni_lt c_5 rfl rfl
          refine lv_iconst (v := 0) hx hb dX3_takeOut_73 (by decide) ?_
          refine lv_istore (lv' := [(4, .int 0), (0, .ref h0), (1, .int x1), (2, .int x2), (3, .int v1)]) hx hb dX3_takeOut_74 hl (by decide) rfl (fun ls hl => ?_)
          have lp76_8 : ∀ (n : Nat) (y7 : Int32) (H : Heap) (locs : List Loc) (ls : Array Slot), (0 ≤ y7.toInt ∧ y7.toInt ≤ 2) → (v1.toInt + (-1) * y7.toInt + 1).toNat < n → TP D A [(h0, aJ (k 1) 4 anJ)] H → va_S A s.heap H locs → lv_has ls 5 [(0, .ref h0), (1, .int x1), (3, .int v1), (4, .int y7)] → W p l e Rm_cX3_takeOut_60979 s m args below meth c H locs 0 0 Q (F0 m 76 ls []) := by
            intro n
            induction n with
            | zero => intro y7 H locs ls b_y7 hm hT hS hl; exact absurd hm (Nat.not_lt_zero _)
            | succ n ih =>
              intro y7 H locs ls b_y7 hm hT hS hl
              have ih76_8 := ih
              clear ih
              refine lv_iload hx hb dX3_takeOut_76 (lv_at hl 3 rfl) ?_
              refine lv_iload_n hx hb dX3_takeOut_78 rfl (lv_at hl 2 rfl) ?_
              refine lv_icmp_ge (tgt := 99) hx hb dX3_takeOut_79 (by decide) (fun c_9 => ?_) (fun c_9 => ?_)
              · skip
                have c_9 := ni_le c_9 rfl rfl
                refine lv_iload_n hx hb dX3_takeOut_99 rfl (lv_at hl 2 rfl) ?_
                refine lv_istore (lv' := [(4, .int v1), (0, .ref h0), (1, .int x1), (3, .int v1)]) hx hb dX3_takeOut_100 hl (by decide) rfl (fun ls hl => ?_)
                have lp102_12 : ∀ (n : Nat) (y11 : Int32) (H : Heap) (locs : List Loc) (ls : Array Slot), (0 ≤ y11.toInt ∧ y11.toInt ≤ 4) → (v1.toInt ≤ y11.toInt) → (x1.toInt + (-1) * y11.toInt + 1).toNat < n → TP D A [(h0, aJ (k 1) 4 anJ)] H → va_S A s.heap H locs → lv_has ls 5 [(0, .ref h0), (1, .int x1), (3, .int v1), (4, .int y11)] → W p l e Rm_cX3_takeOut_60979 s m args below meth c H locs 0 0 Q (F0 m 102 ls []) := by
                  intro n
                  induction n with
                  | zero => intro y11 H locs ls b_y11 x_0 hm hT hS hl; exact absurd hm (Nat.not_lt_zero _)
                  | succ n ih =>
                    intro y11 H locs ls b_y11 x_0 hm hT hS hl
                    have ih102_12 := ih
                    clear ih
                    refine lv_iload hx hb dX3_takeOut_102 (lv_at hl 3 rfl) ?_
                    refine lv_iload_n hx hb dX3_takeOut_104 rfl (lv_at hl 1 rfl) ?_
                    refine lv_icmp_gt (tgt := 124) hx hb dX3_takeOut_105 (by decide) (fun c_13 => ?_) (fun c_13 => ?_)
                    · skip
                      have c_13 := ni_lt c_13 rfl rfl
                      refine lv_iconst (v := 1) hx hb dX3_takeOut_124 (by decide) ?_
                      exact tz_retZ (B := B_cX3_takeOut_60979 D k h0 x1 x2) (v := 1) hQ hx hb hr hlocks hS (Nat.le_of_ble_eq_true rfl) (Nat.le_of_ble_eq_true rfl) dX3_takeOut_125 (by have := li_1; omega) (⟨(by have := li_1; omega), hT⟩)
                    · skip
                      have c_13 := ni_nlt c_13 rfl rfl
                      refine lv_aload_n hx hb dX3_takeOut_108 rfl (lv_at hl 0 rfl) ?_
                      refine lv_iload hx hb dX3_takeOut_109 (lv_at hl 3 rfl) ?_
                      refine lv_iload_n hx hb dX3_takeOut_111 rfl (lv_at hl 2 rfl) ?_
                      refine lv_isub hx hb dX3_takeOut_112 (lv_topi (fun v14 e_v14 => ?_))
                      have e_v14 := ai_sub e_v14 rfl rfl (by omega)
                      refine lv_aload_n hx hb dX3_takeOut_113 rfl (lv_at hl 0 rfl) ?_
                      refine lv_iload hx hb dX3_takeOut_114 (lv_at hl 3 rfl) ?_
                      refine tz_lald hx hb hK hT 0 rfl (by omega) dX3_takeOut_116 (fun v15 e_v15 => ?_)
                      clear e_v15
                      refine tz_last hx hb hK hT hS 0 rfl (by omega) (fun _ _ => trivial) dX3_takeOut_117 (fun H locs hT hS => ?_)
                      obtain ⟨v16, e_v16⟩ : ∃ x : Int32, x = y11 + Int32.ofInt 1 := ⟨_, rfl⟩
                      have f_v16 := e_v16.symm
                      have e_v16 : v16.toInt = y11.toInt + 1 := ai_add e_v16 rfl (show (Int32.ofInt 1).toInt = 1 from (by decide +kernel)) (by omega)
                      refine lv_iinc (v := v16) (lv' := [(4, .int v16), (0, .ref h0), (1, .int x1), (3, .int v1)]) hx hb dX3_takeOut_118 hl (k := 3) rfl f_v16 (by decide) rfl (fun ls hl => ?_)
                      refine lv_goto (tgt := 102) hx hb dX3_takeOut_121 (by decide) ?_
                      exact ih102_12 v16 _ _ _ (by omega) (by omega) (by omega) hT hS (lv_sub hl [1, 2, 3, 0] rfl)
                exact lp102_12 ((x1.toInt + (-1) * v1.toInt + 1).toNat + 1) v1 _ _ _ (by omega) (by omega) (Nat.lt_succ_self _) hT hS (lv_sub hl [1, 2, 3, 0] rfl)
              · skip
                have c_9 := ni_nle c_9 rfl rfl
                refine lv_aload_n hx hb dX3_takeOut_82 rfl (lv_at hl 0 rfl) ?_
                refine lv_iload hx hb dX3_takeOut_83 (lv_at hl 3 rfl) ?_
                refine tz_lald hx hb hK hT 0 rfl (by omega) dX3_takeOut_85 (fun v17 e_v17 => ?_)
                clear e_v17
                refine lv_lconst (v := 0) hx hb dX3_takeOut_86 (by decide) ?_
                refine W.lcmp hx hb dX3_takeOut_87 ?_
                refine lv_if_eq (tgt := 93) hx hb dX3_takeOut_88 (by decide) (fun c_18 => ?_) (fun c_18 => ?_)
                · skip
                  have c_18 := nl_eq c_18 rfl ll_0
                  obtain ⟨v19, e_v19⟩ : ∃ x : Int32, x = y7 + Int32.ofInt 1 := ⟨_, rfl⟩
                  have f_v19 := e_v19.symm
                  have e_v19 : v19.toInt = y7.toInt + 1 := ai_add e_v19 rfl (show (Int32.ofInt 1).toInt = 1 from (by decide +kernel)) (by omega)
                  refine lv_iinc (v := v19) (lv' := [(4, .int v19), (0, .ref h0), (1, .int x1), (3, .int v1)]) hx hb dX3_takeOut_93 hl (k := 3) rfl f_v19 (by decide) rfl (fun ls hl => ?_)
                  refine lv_goto (tgt := 76) hx hb dX3_takeOut_96 (by decide) ?_
                  exact ih76_8 v19 _ _ _ (by omega)  (by omega) hT hS (lv_sub hl [1, 2, 3, 0] rfl)
                · skip
                  have c_18 := nl_ne c_18 rfl ll_0
                  refine lv_iconst (v := 0) hx hb dX3_takeOut_91 (by decide) ?_
                  exact tz_retZ (B := B_cX3_takeOut_60979 D k h0 x1 x2) (v := 0) hQ hx hb hr hlocks hS (Nat.le_of_ble_eq_true rfl) (Nat.le_of_ble_eq_true rfl) dX3_takeOut_92 (by have := li_0; omega) (⟨(by have := li_0; omega), hT⟩)
          exact lp76_8 ((v1.toInt + (-1) * (0 : Int32).toInt + 1).toNat + 1) (0) _ _ _ (by have := li_0; omega)  (Nat.lt_succ_self _) hT hS (lv_sub hl [1, 2, 4, 0] rfl)
        · skip
          have c_5 := ni_nlt c_5 rfl rfl
          refine lv_aload_n hx hb dX3_takeOut_22 rfl (lv_at hl 0 rfl) ?_
          refine lv_iload hx hb dX3_takeOut_23 (lv_at hl 4 rfl) ?_
          refine lv_iload_n hx hb dX3_takeOut_25 rfl (lv_at hl 3 rfl) ?_
          refine lv_isub hx hb dX3_takeOut_26 (lv_topi (fun v20 e_v20 => ?_))
          have e_v20 := ai_sub e_v20 rfl rfl (by omega)
          refine lv_dup2_11 hx hb dX3_takeOut_27 rfl rfl ?_
          refine tz_lald hx hb hK hT 0 rfl (by omega) dX3_takeOut_28 (fun v21 e_v21 => ?_)
          clear e_v21
          refine lv_aload_n hx hb dX3_takeOut_29 rfl (lv_at hl 0 rfl) ?_
          refine lv_iload hx hb dX3_takeOut_30 (lv_at hl 4 rfl) ?_
          refine tz_lald hx hb hK hT 0 rfl (by omega) dX3_takeOut_32 (fun v22 e_v22 => ?_)
          clear e_v22
          refine va_gets hx hb hZ.2.1.1 hS hown (hU _ w441) (fun _ h9 => h9) dX3_takeOut_33 ?_
          refine lv_iload_n hx hb dX3_takeOut_36 rfl (lv_at hl 2 rfl) ?_
          refine tz_ti hx hb hZ.2.1.2 hS (by omega) dX3_takeOut_37 (fun v23 e_v23 => ?_)
          obtain ⟨v24, e_v24⟩ : ∃ x : Int64, v23.toInt64 = x := ⟨_, rfl⟩
          refine lv_i2l (v := v24) hx hb dX3_takeOut_38 e_v24 ?_
          have e_v24 := ai_i2l e_v24 rfl
          refine lv_lmul hx hb dX3_takeOut_39 (lv_topl (fun v25 e_v25 => ?_))
          refine lv_lsub hx hb dX3_takeOut_40 (lv_topl (fun v26 e_v26 => ?_))
          refine tz_last hx hb hK hT hS 0 rfl (by omega) (fun _ _ => trivial) dX3_takeOut_41 (fun H locs hT hS => ?_)
          refine lv_iload_n hx hb dX3_takeOut_42 rfl (lv_at hl 3 rfl) ?_
          refine lv_iconst (v := 2) hx hb dX3_takeOut_43 (by decide) ?_
          refine lv_icmp_ne (tgt := 67) hx hb dX3_takeOut_44 (by decide) (fun c_27 => ?_) (fun c_27 => ?_)
          · skip
            have c_27 := ni_ne c_27 rfl li_2
            obtain ⟨v28, e_v28⟩ : ∃ x : Int32, x = y3 + Int32.ofInt (-1) := ⟨_, rfl⟩
            have f_v28 := e_v28.symm
            have e_v28 : v28.toInt = y3.toInt + (-1) := ai_add e_v28 rfl (show (Int32.ofInt (-1)).toInt = (-1) from (by decide +kernel)) (by omega)
            refine lv_iinc (v := v28) (lv' := [(4, .int v28), (0, .ref h0), (1, .int x1), (2, .int x2), (3, .int v1)]) hx hb dX3_takeOut_67 hl (k := 4) rfl f_v28 (by decide) rfl (fun ls hl => ?_)
            refine lv_goto (tgt := 16) hx hb dX3_takeOut_70 (by decide) ?_
            exact ih16_4 v28 _ _ _ (by omega)  (by omega) hT hS (lv_sub hl [1, 2, 3, 4, 0] rfl)
          · skip
            have c_27 := ni_eq c_27 rfl li_2
            refine lv_aload_n hx hb dX3_takeOut_47 rfl (lv_at hl 0 rfl) ?_
            refine lv_iload hx hb dX3_takeOut_48 (lv_at hl 4 rfl) ?_
            refine lv_iconst (v := 1) hx hb dX3_takeOut_50 (by decide) ?_
            refine lv_isub hx hb dX3_takeOut_51 (lv_topi (fun v29 e_v29 => ?_))
            have e_v29 := ai_sub e_v29 rfl li_1 (by omega)
            refine lv_dup2_11 hx hb dX3_takeOut_52 rfl rfl ?_
            refine tz_lald hx hb hK hT 0 rfl (by omega) dX3_takeOut_53 (fun v30 e_v30 => ?_)
            clear e_v30
            refine lv_aload_n hx hb dX3_takeOut_54 rfl (lv_at hl 0 rfl) ?_
            refine lv_iload hx hb dX3_takeOut_55 (lv_at hl 4 rfl) ?_
            refine tz_lald hx hb hK hT 0 rfl (by omega) dX3_takeOut_57 (fun v31 e_v31 => ?_)
            clear e_v31
            refine va_gets hx hb hZ.2.2.1 hS hown (hU _ w443) (fun _ h9 => h9) dX3_takeOut_58 ?_
            refine lv_iload_n hx hb dX3_takeOut_61 rfl (lv_at hl 2 rfl) ?_
            refine tz_ti hx hb hZ.2.2.2 hS (by omega) dX3_takeOut_62 (fun v32 e_v32 => ?_)
            obtain ⟨v33, e_v33⟩ : ∃ x : Int64, v32.toInt64 = x := ⟨_, rfl⟩
            refine lv_i2l (v := v33) hx hb dX3_takeOut_63 e_v33 ?_
            have e_v33 := ai_i2l e_v33 rfl
            refine lv_lmul hx hb dX3_takeOut_64 (lv_topl (fun v34 e_v34 => ?_))
            refine lv_lsub hx hb dX3_takeOut_65 (lv_topl (fun v35 e_v35 => ?_))
            refine tz_last hx hb hK hT hS 0 rfl (by omega) (fun _ _ => trivial) dX3_takeOut_66 (fun H locs hT hS => ?_)
            obtain ⟨v36, e_v36⟩ : ∃ x : Int32, x = y3 + Int32.ofInt (-1) := ⟨_, rfl⟩
            have f_v36 := e_v36.symm
            have e_v36 : v36.toInt = y3.toInt + (-1) := ai_add e_v36 rfl (show (Int32.ofInt (-1)).toInt = (-1) from (by decide +kernel)) (by omega)
            refine lv_iinc (v := v36) (lv' := [(4, .int v36), (0, .ref h0), (1, .int x1), (2, .int x2), (3, .int v1)]) hx hb dX3_takeOut_67 hl (k := 4) rfl f_v36 (by decide) rfl (fun ls hl => ?_)
            refine lv_goto (tgt := 16) hx hb dX3_takeOut_70 (by decide) ?_
            exact ih16_4 v36 _ _ _ (by omega)  (by omega) hT hS (lv_sub hl [1, 2, 3, 4, 0] rfl)
    exact lp16_4 ((x1.toInt + (-1) * v1.toInt + 1).toNat + 1) x1 _ _ _ (by omega)  (Nat.lt_succ_self _) hT hS (lv_sub hl [2, 3, 4, 1, 0] rfl)
  · skip
    have c_2 := ni_nle c_2 rfl rfl
    refine lv_iconst (v := 0) hx hb dX3_takeOut_11 (by decide) ?_
    exact tz_retZ (B := B_cX3_takeOut_60979 D k h0 x1 x2) (v := 0) hQ hx hb hr hlocks hS (Nat.le_of_ble_eq_true rfl) (Nat.le_of_ble_eq_true rfl) dX3_takeOut_12 (by have := li_0; omega) (⟨(by have := li_0; omega), hT⟩)
abbrev Rm_cX3_howOften_70e47 : Room := { frames := 1, cells := 0, slots := 0, locals := 24 }
abbrev B_cX3_howOften_70e47 (D : va_G) (k : Nat → ClassId) (h0 : Nat) (x1 : Int32) (x2 : Int32) (A : Nat → Prop) (r : Int32) (H : Heap) : Prop := (0 ≤ r.toInt ∧ r.toInt ≤ 3) ∧ TP D A [(h0, aJ (k 1) 4 anJ)] H
set_option maxHeartbeats 4000000 in
set_option maxRecDepth 100000 in
theorem cX3_howOften_70e47 (l : Launch) (D : va_G) (k : Nat → ClassId) (sz : Nat) (t0 t1 t2 : Nat) (h0 : Nat) (x1 : Int32) (x2 : Int32) (b_x1 : 1 ≤ x1.toInt ∧ x1.toInt ≤ 3) (b_x2 : 0 ≤ x2.toInt ∧ x2.toInt ≤ 6) : Met l yX3_howOften (Cond.code yX3_howOften cX3_howOften 5 (some .int) :: uw) Rm_cX3_howOften_70e47 (pTs D k t0 t1 t2 [h0] sz [.ref h0, .int x1, .int x2] [(h0, aJ (k 1) 4 anJ)]) (qI (B_cX3_howOften_70e47 D k h0 x1 x2 (zA [h0] sz)) (zA [h0] sz)) 0 0 (zA [h0] sz) := by
  refine tz_beginS (as := [h0]) (Qc := fun A => qI (B_cX3_howOften_70e47 D k h0 x1 x2 A) A) (by decide +kernel) rfl (Nat.le_of_ble_eq_true rfl) ?_
  intro p e s m args below meth c ls A Q hx hb hr hml hown hlocks hin hU hK hT hS hA hl hQ hZ
  have hl : lv_has ls 5 [(0, .ref h0), (1, .int x1), (2, .int x2)] := hl
  have hT : TP D A [(h0, aJ (k 1) 4 anJ)] s.heap := hT
  refine lv_iconst (v := 0) hx hb dX3_howOften_0 (by decide) ?_
  refine lv_istore_n (lv' := [(3, .int 0), (0, .ref h0), (1, .int x1), (2, .int x2)]) hx hb dX3_howOften_1 rfl hl (by decide) rfl (fun ls hl => ?_)
  refine lv_iload_n hx hb dX3_howOften_2 rfl (lv_at hl 2 rfl) ?_
  refine lv_istore (lv' := [(4, .int x1), (3, .int 0), (0, .ref h0), (1, .int x1), (2, .int x2)]) hx hb dX3_howOften_3 hl (by decide) rfl (fun ls hl => ?_)
  have lp5_7 : ∀ (n : Nat) (y5 : Int32) (y6 : Int32) (H : Heap) (locs : List Loc) (ls : Array Slot), ((-6) ≤ y5.toInt ∧ y5.toInt ≤ 3) → (0 ≤ y6.toInt ∧ y6.toInt ≤ 3) → (0 ≤ y5.toInt + 2 * y6.toInt) → (x1.toInt + (-1) * y6.toInt + 1).toNat < n → TP D A [(h0, aJ (k 1) 4 anJ)] H → va_S A s.heap H locs → lv_has ls 5 [(0, .ref h0), (1, .int x1), (2, .int x2), (3, .int y6), (4, .int y5)] → W p l e Rm_cX3_howOften_70e47 s m args below meth c H locs 0 0 Q (F0 m 5 ls []) := by
    intro n
    induction n with
    | zero => intro y5 y6 H locs ls b_y5 b_y6 x_0 hm hT hS hl; exact absurd hm (Nat.not_lt_zero _)
    | succ n ih =>
      intro y5 y6 H locs ls b_y5 b_y6 x_0 hm hT hS hl
      have ih5_7 := ih
      clear ih
      refine lv_iload_n hx hb dX3_howOften_5 rfl (lv_at hl 3 rfl) ?_
      refine lv_iload_n hx hb dX3_howOften_6 rfl (lv_at hl 1 rfl) ?_
      refine lv_icmp_ge (tgt := 36) hx hb dX3_howOften_7 (by decide) (fun c_8 => ?_) (fun c_8 => ?_)
      · skip
        have c_8 := ni_le c_8 rfl rfl
        refine lv_iload_n hx hb dX3_howOften_36 rfl (lv_at hl 3 rfl) ?_
        exact tz_retI (B := B_cX3_howOften_70e47 D k h0 x1 x2) (v := y6) hQ hx hb hr hlocks hS (Nat.le_of_ble_eq_true rfl) (Nat.le_of_ble_eq_true rfl) dX3_howOften_37 (⟨(by omega), hT⟩)
      · skip
        have c_8 := ni_nle c_8 rfl rfl
        refine lv_aload_n hx hb dX3_howOften_10 rfl (lv_at hl 0 rfl) ?_
        refine lv_iload hx hb dX3_howOften_11 (lv_at hl 4 rfl) ?_
        refine lv_iload_n hx hb dX3_howOften_13 rfl (lv_at hl 2 rfl) ?_
        refine tcI (Tc := [(h0, aJ (k 1) 4 anJ)]) (Tr := []) (as := [h0]) (zcSs (As := [.ref h0, .int y5, .int x2]) (rest := []) (Tc := [(h0, aJ (k 1) 4 anJ)]) hx hb hml hown hU hK hT hZ hS hA [0] rfl rfl (by decide) (cX3_takeOut_60979 l D k _ t0 t1 t2 h0 y5 x2 (by omega) (by omega)) w440 w438 w439 w76 hdX3_takeOut ⟨rfl, rfl⟩ ⟨Nat.le_of_ble_eq_true rfl, Nat.le_of_ble_eq_true rfl⟩ rfl hl.1 (Nat.le_of_ble_eq_true rfl) dX3_howOften_14 ⟨Nat.le_of_ble_eq_true rfl, Nat.le_of_ble_eq_true rfl⟩) hT hS hA [0] [] rfl rfl rfl (by decide) (by decide) (fun r9 H locs hB J hS => ?_)
        obtain ⟨b_r9, hT1⟩ := hB
        have hT := J _ hT1
        have hT : TP D A [(h0, aJ (k 1) 4 anJ)] H := hT
        refine lv_if_eq (tgt := 36) hx hb dX3_howOften_17 (by decide) (fun c_10 => ?_) (fun c_10 => ?_)
        · skip
          have c_10 := ni_eq c_10 rfl li_0
          refine lv_iload_n hx hb dX3_howOften_36 rfl (lv_at hl 3 rfl) ?_
          exact tz_retI (B := B_cX3_howOften_70e47 D k h0 x1 x2) (v := y6) hQ hx hb hr hlocks hS (Nat.le_of_ble_eq_true rfl) (Nat.le_of_ble_eq_true rfl) dX3_howOften_37 (⟨(by omega), hT⟩)
        · skip
          have c_10 := ni_ne c_10 rfl li_0
          refine lv_iload hx hb dX3_howOften_20 (lv_at hl 4 rfl) ?_
          refine va_gets hx hb hZ.1.1 hS hown (hU _ w433) (fun _ h9 => h9) dX3_howOften_22 ?_
          refine lv_iload_n hx hb dX3_howOften_25 rfl (lv_at hl 2 rfl) ?_
          refine tz_ti hx hb hZ.1.2 hS (by omega) dX3_howOften_26 (fun v11 e_v11 => ?_)
          have e_v11 : 0 ≤ v11.toInt ∧ v11.toInt ≤ 2 := by rw [e_v11]; exact fd0_rg _
          refine lv_isub hx hb dX3_howOften_27 (lv_topi (fun v12 e_v12 => ?_))
          have e_v12 := ai_sub e_v12 rfl rfl (by omega)
          refine lv_istore (lv' := [(4, .int v12), (0, .ref h0), (1, .int x1), (2, .int x2), (3, .int y6)]) hx hb dX3_howOften_28 hl (by decide) rfl (fun ls hl => ?_)
          obtain ⟨v13, e_v13⟩ : ∃ x : Int32, x = y6 + Int32.ofInt 1 := ⟨_, rfl⟩
          have f_v13 := e_v13.symm
          have e_v13 : v13.toInt = y6.toInt + 1 := ai_add e_v13 rfl (show (Int32.ofInt 1).toInt = 1 from (by decide +kernel)) (by omega)
          refine lv_iinc (v := v13) (lv' := [(3, .int v13), (4, .int v12), (0, .ref h0), (1, .int x1), (2, .int x2)]) hx hb dX3_howOften_30 hl (k := 4) rfl f_v13 (by decide) rfl (fun ls hl => ?_)
          refine lv_goto (tgt := 5) hx hb dX3_howOften_33 (by decide) ?_
          exact ih5_7 v12 v13 _ _ _ (by omega) (by omega) (by omega) (by omega) hT hS (lv_sub hl [2, 3, 4, 0, 1] rfl)
  exact lp5_7 ((x1.toInt + (-1) * (0 : Int32).toInt + 1).toNat + 1) x1 (0) _ _ _ (by have := li_0; omega) (by have := li_0; omega) (by have := li_0; omega) (Nat.lt_succ_self _) hT hS (lv_sub hl [2, 3, 4, 1, 0] rfl)
abbrev Rm_cX10_factor_87299 : Room := { frames := 3, cells := 1, slots := 4, locals := 80 }
abbrev B_cX10_factor_87299 (D : va_G) (k : Nat → ClassId) (h0 h1 h13 h2 h3 h4 h5 h6 h7 h8 h9 h10 h11 h12 : Nat) (x1 : Int32) (x2 : Int32) (h0f2 : Int32) (h0f6 : Int32) (h0f8 : Int32) (h0f11 : Int32) (h1f0 : Int32) (h1f1 : Int32) (h1f2 : Int32) (A : Nat → Prop) (r : Int32) (H : Heap) : Prop := ((-1) ≤ r.toInt ∧ r.toInt ≤ 3) ∧ TP D A [(h0, ob 7 [.ref h1, .ref h2, .int h0f2, .ref h3, .ref h4, .ref h5, .int h0f6, .ref h6, .int h0f8, .null, .ref h7, .int h0f11, .ref h8, .ref h9, .ref h10, .ref h11, .ref h12]), (h1, ob 4 [.int h1f0, .int h1f1, .int h1f2, .ref h13]), (h13, aJ (k 1) 36 anJ)] H
set_option maxHeartbeats 4000000 in
set_option maxRecDepth 100000 in
theorem cX10_factor_87299 (l : Launch) (D : va_G) (k : Nat → ClassId) (sz : Nat) (t0 t1 t2 : Nat) (h0 h1 h13 h2 h3 h4 h5 h6 h7 h8 h9 h10 h11 h12 : Nat) (x1 : Int32) (x2 : Int32) (h0f2 : Int32) (h0f6 : Int32) (h0f8 : Int32) (h0f11 : Int32) (h1f0 : Int32) (h1f1 : Int32) (h1f2 : Int32) (b_h0f2 : 0 ≤ h0f2.toInt ∧ h0f2.toInt ≤ 1) (b_h0f6 : 0 ≤ h0f6.toInt ∧ h0f6.toInt ≤ 1) (b_h0f8 : 0 ≤ h0f8.toInt ∧ h0f8.toInt ≤ 1) (b_h0f11 : 0 ≤ h0f11.toInt ∧ h0f11.toInt ≤ 200) (b_h1f0 : 1 ≤ h1f0.toInt ∧ h1f0.toInt ≤ 3) (b_h1f1 : 0 ≤ h1f1.toInt ∧ h1f1.toInt ≤ 4) : Met l yX10_factor (Cond.code yX10_factor cX10_factor 4 (some .int) :: uw) Rm_cX10_factor_87299 (pTs D k t0 t1 t2 [h0, h1, h13] sz [.ref h0, .int x1, .int x2] [(h0, ob 7 [.ref h1, .ref h2, .int h0f2, .ref h3, .ref h4, .ref h5, .int h0f6, .ref h6, .int h0f8, .null, .ref h7, .int h0f11, .ref h8, .ref h9, .ref h10, .ref h11, .ref h12]), (h1, ob 4 [.int h1f0, .int h1f1, .int h1f2, .ref h13]), (h13, aJ (k 1) 36 anJ)]) (qI (B_cX10_factor_87299 D k h0 h1 h13 h2 h3 h4 h5 h6 h7 h8 h9 h10 h11 h12 x1 x2 h0f2 h0f6 h0f8 h0f11 h1f0 h1f1 h1f2 (zA [h0, h1, h13] sz)) (zA [h0, h1, h13] sz)) 1 4 (zA [h0, h1, h13] sz) := by
  refine tz_beginS (as := [h0, h1, h13]) (Qc := fun A => qI (B_cX10_factor_87299 D k h0 h1 h13 h2 h3 h4 h5 h6 h7 h8 h9 h10 h11 h12 x1 x2 h0f2 h0f6 h0f8 h0f11 h1f0 h1f1 h1f2 A) A) (by decide +kernel) rfl (Nat.le_of_ble_eq_true rfl) ?_
  intro p e s m args below meth c ls A Q hx hb hr hml hown hlocks hin hU hK hT hS hA hl hQ hZ
  have hl : lv_has ls 4 [(0, .ref h0), (1, .int x1), (2, .int x2)] := hl
  have hT : TP D A [(h0, ob 7 [.ref h1, .ref h2, .int h0f2, .ref h3, .ref h4, .ref h5, .int h0f6, .ref h6, .int h0f8, .null, .ref h7, .int h0f11, .ref h8, .ref h9, .ref h10, .ref h11, .ref h12]), (h1, ob 4 [.int h1f0, .int h1f1, .int h1f2, .ref h13]), (h13, aJ (k 1) 36 anJ)] s.heap := hT
  refine lv_aload_n hx hb dX10_factor_0 rfl (lv_at hl 0 rfl) ?_
  refine tz_get (ci := 7) (v := .ref h1) (C := RX10) (F := TX10) (N := 17) hx hb hU iX10 hown hK hT 0 rfl rfl 0 (by decide) w249 (fun _ h9 => h9) rfl dX10_factor_1 ?_
  refine lv_iload_n hx hb dX10_factor_4 rfl (lv_at hl 1 rfl) ?_
  refine tcI (Tc := [(h1, ob 4 [.int h1f0, .int h1f1, .int h1f2, .ref h13])]) (Tr := [(h0, ob 7 [.ref h1, .ref h2, .int h0f2, .ref h3, .ref h4, .ref h5, .int h0f6, .ref h6, .int h0f8, .null, .ref h7, .int h0f11, .ref h8, .ref h9, .ref h10, .ref h11, .ref h12]), (h13, aJ (k 1) 36 anJ)]) (as := [h1]) (zcV (q0 := 1) (ci := 4) (As := [.int x1]) (rest := []) (Tc := [(h1, ob 4 [.int h1f0, .int h1f1, .int h1f2, .ref h13])]) hx hb hml hown hU hK hT rfl rfl [1] rfl (by decide) (cX5_has_64567 l D k _ h1 h13 x1 h1f0 h1f1 h1f2 (by omega) (by omega)) w356 w353 w354 w355 w64 hdX5_has ⟨rfl, rfl⟩ ⟨Nat.le_of_ble_eq_true rfl, Nat.le_of_ble_eq_true rfl⟩ rfl hl.1 (Nat.le_of_ble_eq_true rfl) dX10_factor_5 ⟨Nat.le_of_ble_eq_true rfl, Nat.le_of_ble_eq_true rfl⟩) hT hS hA [1] [0, 2] rfl rfl rfl (by decide) (by decide) (fun r1 H locs hB J hS => ?_)
  rcases hB with ⟨rfl, hT1⟩ | ⟨c_2, c_3, rfl, hT1⟩
  · skip
    have hT := J _ hT1
    have hT : TP D A [(h0, ob 7 [.ref h1, .ref h2, .int h0f2, .ref h3, .ref h4, .ref h5, .int h0f6, .ref h6, .int h0f8, .null, .ref h7, .int h0f11, .ref h8, .ref h9, .ref h10, .ref h11, .ref h12]), (h13, aJ (k 1) 36 anJ), (h1, ob 4 [.int h1f0, .int h1f1, .int h1f2, .ref h13])] H := hT
    refine lv_if_eq (tgt := 18) hx hb dX10_factor_8 (by decide) (fun _ => ?_) (fun cc => absurd (by decide +kernel) cc)
    refine lv_iconst (v := (-1)) hx hb dX10_factor_18 (by decide) ?_
    exact tz_retI (B := B_cX10_factor_87299 D k h0 h1 h13 h2 h3 h4 h5 h6 h7 h8 h9 h10 h11 h12 x1 x2 h0f2 h0f6 h0f8 h0f11 h1f0 h1f1 h1f2) (v := (-1)) hQ hx hb hr hlocks hS (Nat.le_of_ble_eq_true rfl) (Nat.le_of_ble_eq_true rfl) dX10_factor_19 (⟨(by have := li_m1; omega), (hT.sub [0, 2, 1] (by decide) rfl)⟩)
  · skip
    have hT := J _ hT1
    have hT : TP D A [(h0, ob 7 [.ref h1, .ref h2, .int h0f2, .ref h3, .ref h4, .ref h5, .int h0f6, .ref h6, .int h0f8, .null, .ref h7, .int h0f11, .ref h8, .ref h9, .ref h10, .ref h11, .ref h12]), (h13, aJ (k 1) 36 anJ), (h1, ob 4 [.int h1f0, .int h1f1, .int h1f2, .ref h13])] H := hT
    refine lv_if_eq (tgt := 18) hx hb dX10_factor_8 (by decide) (fun cc => absurd cc (by decide +kernel)) (fun _ => ?_)
    refine lv_iload_n hx hb dX10_factor_11 rfl (lv_at hl 2 rfl) ?_
    refine tcI (Tc := []) (Tr := [(h0, ob 7 [.ref h1, .ref h2, .int h0f2, .ref h3, .ref h4, .ref h5, .int h0f6, .ref h6, .int h0f8, .null, .ref h7, .int h0f11, .ref h8, .ref h9, .ref h10, .ref h11, .ref h12]), (h13, aJ (k 1) 36 anJ), (h1, ob 4 [.int h1f0, .int h1f1, .int h1f2, .ref h13])]) (as := []) (zcSs (As := [.int x2]) (rest := []) (Tc := []) hx hb hml hown hU hK hT hZ hS hA [] rfl rfl (by decide) (cX3_isFactor_83bd3 l D k _ t0 t1 t2 x2) w432 w430 w431 w76 hdX3_isFactor ⟨rfl, rfl⟩ ⟨Nat.le_of_ble_eq_true rfl, Nat.le_of_ble_eq_true rfl⟩ rfl hl.1 (Nat.le_of_ble_eq_true rfl) dX10_factor_12 ⟨Nat.le_of_ble_eq_true rfl, Nat.le_of_ble_eq_true rfl⟩) hT hS hA [] [0, 1, 2] rfl rfl rfl (by decide) (by decide) (fun r4 H locs hB J hS => ?_)
    rcases hB with ⟨rfl, hT1⟩ | ⟨v5, b_v5, c_6, c_7, c_8, rfl, hT1⟩
    · skip
      have hT := J _ hT1
      have hT : TP D A [(h0, ob 7 [.ref h1, .ref h2, .int h0f2, .ref h3, .ref h4, .ref h5, .int h0f6, .ref h6, .int h0f8, .null, .ref h7, .int h0f11, .ref h8, .ref h9, .ref h10, .ref h11, .ref h12]), (h13, aJ (k 1) 36 anJ), (h1, ob 4 [.int h1f0, .int h1f1, .int h1f2, .ref h13])] H := hT
      refine lv_if_ne (tgt := 20) hx hb dX10_factor_15 (by decide) (fun cc => absurd (by decide +kernel) cc) (fun _ => ?_)
      refine lv_iconst (v := (-1)) hx hb dX10_factor_18 (by decide) ?_
      exact tz_retI (B := B_cX10_factor_87299 D k h0 h1 h13 h2 h3 h4 h5 h6 h7 h8 h9 h10 h11 h12 x1 x2 h0f2 h0f6 h0f8 h0f11 h1f0 h1f1 h1f2) (v := (-1)) hQ hx hb hr hlocks hS (Nat.le_of_ble_eq_true rfl) (Nat.le_of_ble_eq_true rfl) dX10_factor_19 (⟨(by have := li_m1; omega), (hT.sub [0, 2, 1] (by decide) rfl)⟩)
    · skip
      have hT := J _ hT1
      have hT : TP D A [(h0, ob 7 [.ref h1, .ref h2, .int h0f2, .ref h3, .ref h4, .ref h5, .int h0f6, .ref h6, .int h0f8, .null, .ref h7, .int h0f11, .ref h8, .ref h9, .ref h10, .ref h11, .ref h12]), (h13, aJ (k 1) 36 anJ), (h1, ob 4 [.int h1f0, .int h1f1, .int h1f2, .ref h13])] H := hT
      refine lv_if_ne (tgt := 20) hx hb dX10_factor_15 (by decide) (fun _ => ?_) (fun cc => absurd cc (by decide +kernel))
      refine lv_aload_n hx hb dX10_factor_20 rfl (lv_at hl 0 rfl) ?_
      refine tz_get (ci := 7) (v := .ref h1) (C := RX10) (F := TX10) (N := 17) hx hb hU iX10 hown hK hT 0 rfl rfl 0 (by decide) w249 (fun _ h9 => h9) rfl dX10_factor_21 ?_
      refine tz_get (ci := 4) (v := .ref h13) (C := RX5) (F := TX5) (N := 4) hx hb hU iX5 hown hK hT 2 rfl rfl 3 (by decide) w103 (fun _ h9 => h9) rfl dX10_factor_24 ?_
      refine lv_iload_n hx hb dX10_factor_27 rfl (lv_at hl 1 rfl) ?_
      refine lv_bipush (v := 9) hx hb dX10_factor_28 (by decide) ?_
      refine lv_imul hx hb dX10_factor_30 (lv_topi (fun v9 e_v9 => ?_))
      have e_v9 := ai_mul e_v9 rfl li_9 (by omega)
      refine lv_aload_n hx hb dX10_factor_31 rfl (lv_at hl 0 rfl) ?_
      refine tz_get (ci := 7) (v := .ref h1) (C := RX10) (F := TX10) (N := 17) hx hb hU iX10 hown hK hT 0 rfl rfl 0 (by decide) w249 (fun _ h9 => h9) rfl dX10_factor_32 ?_
      refine tz_get (ci := 4) (v := .int h1f0) (C := RX5) (F := TX5) (N := 4) hx hb hU iX5 hown hK hT 2 rfl rfl 0 (by decide) w93 (fun _ h9 => h9) rfl dX10_factor_35 ?_
      refine tcR (Tc := [(h13, aJ (k 1) 36 anJ)]) (Tr := [(h0, ob 7 [.ref h1, .ref h2, .int h0f2, .ref h3, .ref h4, .ref h5, .int h0f6, .ref h6, .int h0f8, .null, .ref h7, .int h0f11, .ref h8, .ref h9, .ref h10, .ref h11, .ref h12]), (h1, ob 4 [.int h1f0, .int h1f1, .int h1f2, .ref h13])]) (as := [h13]) (zcS (As := [.ref h13, .int v9, .int h1f0]) (rest := []) (Tc := [(h13, aJ (k 1) 36 anJ)]) hx hb hml hown hU hK hT [1] rfl (by decide) (cX3_characterOf_18d92 l D k _ h13 v9 h1f0 (by omega) (by omega)) w422 w420 w421 w76 hdX3_characterOf ⟨rfl, rfl⟩ ⟨Nat.le_of_ble_eq_true rfl, Nat.le_of_ble_eq_true rfl⟩ rfl hl.1 (Nat.le_of_ble_eq_true rfl) dX10_factor_38 ⟨Nat.le_of_ble_eq_true rfl, Nat.le_of_ble_eq_true rfl⟩) hT hS hA [1] [0, 2] rfl rfl rfl (by decide) (by decide) (fun r10 H locs hB J hS => ?_)
      obtain ⟨q11, rfl, hT1⟩ := hB
      have hT := J _ hT1
      have hT : TP D A [(h0, ob 7 [.ref h1, .ref h2, .int h0f2, .ref h3, .ref h4, .ref h5, .int h0f6, .ref h6, .int h0f8, .null, .ref h7, .int h0f11, .ref h8, .ref h9, .ref h10, .ref h11, .ref h12]), (h1, ob 4 [.int h1f0, .int h1f1, .int h1f2, .ref h13]), (h13, aJ (k 1) 36 anJ), (q11, aJ (k 1) 4 anJ)] H := hT
      refine lv_astore_n (lv' := [(3, .ref q11), (0, .ref h0), (1, .int x1), (2, .int x2)]) hx hb dX10_factor_41 rfl hl (by decide) rfl (fun ls hl => ?_)
      refine lv_aload_n hx hb dX10_factor_42 rfl (lv_at hl 0 rfl) ?_
      refine lv_aload_n hx hb dX10_factor_43 rfl (lv_at hl 1 rfl) ?_
      refine tz_get (ci := 7) (v := .ref h1) (C := RX10) (F := TX10) (N := 17) hx hb hU iX10 hown hK hT 0 rfl rfl 0 (by decide) w249 (fun _ h9 => h9) rfl dX10_factor_44 ?_
      refine tz_get (ci := 4) (v := .int h1f0) (C := RX5) (F := TX5) (N := 4) hx hb hU iX5 hown hK hT 1 rfl rfl 0 (by decide) w93 (fun _ h9 => h9) rfl dX10_factor_47 ?_
      refine lv_iload_n hx hb dX10_factor_50 rfl (lv_at hl 3 rfl) ?_
      refine tcI (Tc := [(q11, aJ (k 1) 4 anJ)]) (Tr := [(h0, ob 7 [.ref h1, .ref h2, .int h0f2, .ref h3, .ref h4, .ref h5, .int h0f6, .ref h6, .int h0f8, .null, .ref h7, .int h0f11, .ref h8, .ref h9, .ref h10, .ref h11, .ref h12]), (h1, ob 4 [.int h1f0, .int h1f1, .int h1f2, .ref h13]), (h13, aJ (k 1) 36 anJ)]) (as := [q11]) (zcSs (As := [.ref q11, .int h1f0, .int x2]) (rest := []) (Tc := [(q11, aJ (k 1) 4 anJ)]) hx hb hml hown hU hK hT hZ hS hA [3] rfl rfl (by decide) (cX3_howOften_70e47 l D k _ t0 t1 t2 q11 h1f0 x2 (by omega) (by omega)) w437 w435 w436 w76 hdX3_howOften ⟨rfl, rfl⟩ ⟨Nat.le_of_ble_eq_true rfl, Nat.le_of_ble_eq_true rfl⟩ rfl hl.1 (Nat.le_of_ble_eq_true rfl) dX10_factor_51 ⟨Nat.le_of_ble_eq_true rfl, Nat.le_of_ble_eq_true rfl⟩) hT hS hA [3] [0, 1, 2] rfl rfl rfl (by decide) (by decide) (fun r12 H locs hB J hS => ?_)
      obtain ⟨b_r12, hT1⟩ := hB
      have hT := J _ hT1
      have hT : TP D A [(h0, ob 7 [.ref h1, .ref h2, .int h0f2, .ref h3, .ref h4, .ref h5, .int h0f6, .ref h6, .int h0f8, .null, .ref h7, .int h0f11, .ref h8, .ref h9, .ref h10, .ref h11, .ref h12]), (h1, ob 4 [.int h1f0, .int h1f1, .int h1f2, .ref h13]), (h13, aJ (k 1) 36 anJ), (q11, aJ (k 1) 4 anJ)] H := hT
      exact tz_retI (B := B_cX10_factor_87299 D k h0 h1 h13 h2 h3 h4 h5 h6 h7 h8 h9 h10 h11 h12 x1 x2 h0f2 h0f6 h0f8 h0f11 h1f0 h1f1 h1f2) (v := r12) hQ hx hb hr hlocks hS (Nat.le_of_ble_eq_true rfl) (Nat.le_of_ble_eq_true rfl) dX10_factor_54 (⟨(by omega), (hT.sub [0, 1, 2] (by decide) rfl)⟩)
abbrev Rm_cX10_factor_4a18a : Room := { frames := 3, cells := 1, slots := 4, locals := 80 }
abbrev B_cX10_factor_4a18a (D : va_G) (k : Nat → ClassId) (h0 h1 h14 h2 h3 h4 h5 h6 h7 h8 h9 h10 h11 h12 h13 : Nat) (x1 : Int32) (x2 : Int32) (h0f2 : Int32) (h0f6 : Int32) (h0f8 : Int32) (h0f11 : Int32) (h1f0 : Int32) (h1f1 : Int32) (h1f2 : Int32) (A : Nat → Prop) (r : Int32) (H : Heap) : Prop := ((-1) ≤ r.toInt ∧ r.toInt ≤ 3) ∧ TP D A [(h0, ob 7 [.ref h1, .ref h2, .int h0f2, .ref h3, .ref h4, .ref h5, .int h0f6, .ref h6, .int h0f8, .ref h7, .ref h8, .int h0f11, .ref h9, .ref h10, .ref h11, .ref h12, .ref h13]), (h1, ob 4 [.int h1f0, .int h1f1, .int h1f2, .ref h14]), (h14, aJ (k 1) 36 anJ)] H
set_option maxHeartbeats 4000000 in
set_option maxRecDepth 100000 in
theorem cX10_factor_4a18a (l : Launch) (D : va_G) (k : Nat → ClassId) (sz : Nat) (t0 t1 t2 : Nat) (h0 h1 h14 h2 h3 h4 h5 h6 h7 h8 h9 h10 h11 h12 h13 : Nat) (x1 : Int32) (x2 : Int32) (h0f2 : Int32) (h0f6 : Int32) (h0f8 : Int32) (h0f11 : Int32) (h1f0 : Int32) (h1f1 : Int32) (h1f2 : Int32) (b_h0f2 : 0 ≤ h0f2.toInt ∧ h0f2.toInt ≤ 1) (b_h0f6 : 0 ≤ h0f6.toInt ∧ h0f6.toInt ≤ 1) (b_h0f8 : 0 ≤ h0f8.toInt ∧ h0f8.toInt ≤ 1) (b_h0f11 : 0 ≤ h0f11.toInt ∧ h0f11.toInt ≤ 200) (b_h1f0 : 1 ≤ h1f0.toInt ∧ h1f0.toInt ≤ 3) (b_h1f1 : 0 ≤ h1f1.toInt ∧ h1f1.toInt ≤ 4) : Met l yX10_factor (Cond.code yX10_factor cX10_factor 4 (some .int) :: uw) Rm_cX10_factor_4a18a (pTs D k t0 t1 t2 [h0, h1, h14] sz [.ref h0, .int x1, .int x2] [(h0, ob 7 [.ref h1, .ref h2, .int h0f2, .ref h3, .ref h4, .ref h5, .int h0f6, .ref h6, .int h0f8, .ref h7, .ref h8, .int h0f11, .ref h9, .ref h10, .ref h11, .ref h12, .ref h13]), (h1, ob 4 [.int h1f0, .int h1f1, .int h1f2, .ref h14]), (h14, aJ (k 1) 36 anJ)]) (qI (B_cX10_factor_4a18a D k h0 h1 h14 h2 h3 h4 h5 h6 h7 h8 h9 h10 h11 h12 h13 x1 x2 h0f2 h0f6 h0f8 h0f11 h1f0 h1f1 h1f2 (zA [h0, h1, h14] sz)) (zA [h0, h1, h14] sz)) 1 4 (zA [h0, h1, h14] sz) := by
  refine tz_beginS (as := [h0, h1, h14]) (Qc := fun A => qI (B_cX10_factor_4a18a D k h0 h1 h14 h2 h3 h4 h5 h6 h7 h8 h9 h10 h11 h12 h13 x1 x2 h0f2 h0f6 h0f8 h0f11 h1f0 h1f1 h1f2 A) A) (by decide +kernel) rfl (Nat.le_of_ble_eq_true rfl) ?_
  intro p e s m args below meth c ls A Q hx hb hr hml hown hlocks hin hU hK hT hS hA hl hQ hZ
  have hl : lv_has ls 4 [(0, .ref h0), (1, .int x1), (2, .int x2)] := hl
  have hT : TP D A [(h0, ob 7 [.ref h1, .ref h2, .int h0f2, .ref h3, .ref h4, .ref h5, .int h0f6, .ref h6, .int h0f8, .ref h7, .ref h8, .int h0f11, .ref h9, .ref h10, .ref h11, .ref h12, .ref h13]), (h1, ob 4 [.int h1f0, .int h1f1, .int h1f2, .ref h14]), (h14, aJ (k 1) 36 anJ)] s.heap := hT
  refine lv_aload_n hx hb dX10_factor_0 rfl (lv_at hl 0 rfl) ?_
  refine tz_get (ci := 7) (v := .ref h1) (C := RX10) (F := TX10) (N := 17) hx hb hU iX10 hown hK hT 0 rfl rfl 0 (by decide) w249 (fun _ h9 => h9) rfl dX10_factor_1 ?_
  refine lv_iload_n hx hb dX10_factor_4 rfl (lv_at hl 1 rfl) ?_
  refine tcI (Tc := [(h1, ob 4 [.int h1f0, .int h1f1, .int h1f2, .ref h14])]) (Tr := [(h0, ob 7 [.ref h1, .ref h2, .int h0f2, .ref h3, .ref h4, .ref h5, .int h0f6, .ref h6, .int h0f8, .ref h7, .ref h8, .int h0f11, .ref h9, .ref h10, .ref h11, .ref h12, .ref h13]), (h14, aJ (k 1) 36 anJ)]) (as := [h1]) (zcV (q0 := 1) (ci := 4) (As := [.int x1]) (rest := []) (Tc := [(h1, ob 4 [.int h1f0, .int h1f1, .int h1f2, .ref h14])]) hx hb hml hown hU hK hT rfl rfl [1] rfl (by decide) (cX5_has_64567 l D k _ h1 h14 x1 h1f0 h1f1 h1f2 (by omega) (by omega)) w356 w353 w354 w355 w64 hdX5_has ⟨rfl, rfl⟩ ⟨Nat.le_of_ble_eq_true rfl, Nat.le_of_ble_eq_true rfl⟩ rfl hl.1 (Nat.le_of_ble_eq_true rfl) dX10_factor_5 ⟨Nat.le_of_ble_eq_true rfl, Nat.le_of_ble_eq_true rfl⟩) hT hS hA [1] [0, 2] rfl rfl rfl (by decide) (by decide) (fun r1 H locs hB J hS => ?_)
  rcases hB with ⟨rfl, hT1⟩ | ⟨c_2, c_3, rfl, hT1⟩
  · skip
    have hT := J _ hT1
    have hT : TP D A [(h0, ob 7 [.ref h1, .ref h2, .int h0f2, .ref h3, .ref h4, .ref h5, .int h0f6, .ref h6, .int h0f8, .ref h7, .ref h8, .int h0f11, .ref h9, .ref h10, .ref h11, .ref h12, .ref h13]), (h14, aJ (k 1) 36 anJ), (h1, ob 4 [.int h1f0, .int h1f1, .int h1f2, .ref h14])] H := hT
    refine lv_if_eq (tgt := 18) hx hb dX10_factor_8 (by decide) (fun _ => ?_) (fun cc => absurd (by decide +kernel) cc)
    refine lv_iconst (v := (-1)) hx hb dX10_factor_18 (by decide) ?_
    exact tz_retI (B := B_cX10_factor_4a18a D k h0 h1 h14 h2 h3 h4 h5 h6 h7 h8 h9 h10 h11 h12 h13 x1 x2 h0f2 h0f6 h0f8 h0f11 h1f0 h1f1 h1f2) (v := (-1)) hQ hx hb hr hlocks hS (Nat.le_of_ble_eq_true rfl) (Nat.le_of_ble_eq_true rfl) dX10_factor_19 (⟨(by have := li_m1; omega), (hT.sub [0, 2, 1] (by decide) rfl)⟩)
  · skip
    have hT := J _ hT1
    have hT : TP D A [(h0, ob 7 [.ref h1, .ref h2, .int h0f2, .ref h3, .ref h4, .ref h5, .int h0f6, .ref h6, .int h0f8, .ref h7, .ref h8, .int h0f11, .ref h9, .ref h10, .ref h11, .ref h12, .ref h13]), (h14, aJ (k 1) 36 anJ), (h1, ob 4 [.int h1f0, .int h1f1, .int h1f2, .ref h14])] H := hT
    refine lv_if_eq (tgt := 18) hx hb dX10_factor_8 (by decide) (fun cc => absurd cc (by decide +kernel)) (fun _ => ?_)
    refine lv_iload_n hx hb dX10_factor_11 rfl (lv_at hl 2 rfl) ?_
    refine tcI (Tc := []) (Tr := [(h0, ob 7 [.ref h1, .ref h2, .int h0f2, .ref h3, .ref h4, .ref h5, .int h0f6, .ref h6, .int h0f8, .ref h7, .ref h8, .int h0f11, .ref h9, .ref h10, .ref h11, .ref h12, .ref h13]), (h14, aJ (k 1) 36 anJ), (h1, ob 4 [.int h1f0, .int h1f1, .int h1f2, .ref h14])]) (as := []) (zcSs (As := [.int x2]) (rest := []) (Tc := []) hx hb hml hown hU hK hT hZ hS hA [] rfl rfl (by decide) (cX3_isFactor_83bd3 l D k _ t0 t1 t2 x2) w432 w430 w431 w76 hdX3_isFactor ⟨rfl, rfl⟩ ⟨Nat.le_of_ble_eq_true rfl, Nat.le_of_ble_eq_true rfl⟩ rfl hl.1 (Nat.le_of_ble_eq_true rfl) dX10_factor_12 ⟨Nat.le_of_ble_eq_true rfl, Nat.le_of_ble_eq_true rfl⟩) hT hS hA [] [0, 1, 2] rfl rfl rfl (by decide) (by decide) (fun r4 H locs hB J hS => ?_)
    rcases hB with ⟨rfl, hT1⟩ | ⟨v5, b_v5, c_6, c_7, c_8, rfl, hT1⟩
    · skip
      have hT := J _ hT1
      have hT : TP D A [(h0, ob 7 [.ref h1, .ref h2, .int h0f2, .ref h3, .ref h4, .ref h5, .int h0f6, .ref h6, .int h0f8, .ref h7, .ref h8, .int h0f11, .ref h9, .ref h10, .ref h11, .ref h12, .ref h13]), (h14, aJ (k 1) 36 anJ), (h1, ob 4 [.int h1f0, .int h1f1, .int h1f2, .ref h14])] H := hT
      refine lv_if_ne (tgt := 20) hx hb dX10_factor_15 (by decide) (fun cc => absurd (by decide +kernel) cc) (fun _ => ?_)
      refine lv_iconst (v := (-1)) hx hb dX10_factor_18 (by decide) ?_
      exact tz_retI (B := B_cX10_factor_4a18a D k h0 h1 h14 h2 h3 h4 h5 h6 h7 h8 h9 h10 h11 h12 h13 x1 x2 h0f2 h0f6 h0f8 h0f11 h1f0 h1f1 h1f2) (v := (-1)) hQ hx hb hr hlocks hS (Nat.le_of_ble_eq_true rfl) (Nat.le_of_ble_eq_true rfl) dX10_factor_19 (⟨(by have := li_m1; omega), (hT.sub [0, 2, 1] (by decide) rfl)⟩)
    · skip
      have hT := J _ hT1
      have hT : TP D A [(h0, ob 7 [.ref h1, .ref h2, .int h0f2, .ref h3, .ref h4, .ref h5, .int h0f6, .ref h6, .int h0f8, .ref h7, .ref h8, .int h0f11, .ref h9, .ref h10, .ref h11, .ref h12, .ref h13]), (h14, aJ (k 1) 36 anJ), (h1, ob 4 [.int h1f0, .int h1f1, .int h1f2, .ref h14])] H := hT
      refine lv_if_ne (tgt := 20) hx hb dX10_factor_15 (by decide) (fun _ => ?_) (fun cc => absurd cc (by decide +kernel))
      refine lv_aload_n hx hb dX10_factor_20 rfl (lv_at hl 0 rfl) ?_
      refine tz_get (ci := 7) (v := .ref h1) (C := RX10) (F := TX10) (N := 17) hx hb hU iX10 hown hK hT 0 rfl rfl 0 (by decide) w249 (fun _ h9 => h9) rfl dX10_factor_21 ?_
      refine tz_get (ci := 4) (v := .ref h14) (C := RX5) (F := TX5) (N := 4) hx hb hU iX5 hown hK hT 2 rfl rfl 3 (by decide) w103 (fun _ h9 => h9) rfl dX10_factor_24 ?_
      refine lv_iload_n hx hb dX10_factor_27 rfl (lv_at hl 1 rfl) ?_
      refine lv_bipush (v := 9) hx hb dX10_factor_28 (by decide) ?_
      refine lv_imul hx hb dX10_factor_30 (lv_topi (fun v9 e_v9 => ?_))
      have e_v9 := ai_mul e_v9 rfl li_9 (by omega)
      refine lv_aload_n hx hb dX10_factor_31 rfl (lv_at hl 0 rfl) ?_
      refine tz_get (ci := 7) (v := .ref h1) (C := RX10) (F := TX10) (N := 17) hx hb hU iX10 hown hK hT 0 rfl rfl 0 (by decide) w249 (fun _ h9 => h9) rfl dX10_factor_32 ?_
      refine tz_get (ci := 4) (v := .int h1f0) (C := RX5) (F := TX5) (N := 4) hx hb hU iX5 hown hK hT 2 rfl rfl 0 (by decide) w93 (fun _ h9 => h9) rfl dX10_factor_35 ?_
      refine tcR (Tc := [(h14, aJ (k 1) 36 anJ)]) (Tr := [(h0, ob 7 [.ref h1, .ref h2, .int h0f2, .ref h3, .ref h4, .ref h5, .int h0f6, .ref h6, .int h0f8, .ref h7, .ref h8, .int h0f11, .ref h9, .ref h10, .ref h11, .ref h12, .ref h13]), (h1, ob 4 [.int h1f0, .int h1f1, .int h1f2, .ref h14])]) (as := [h14]) (zcS (As := [.ref h14, .int v9, .int h1f0]) (rest := []) (Tc := [(h14, aJ (k 1) 36 anJ)]) hx hb hml hown hU hK hT [1] rfl (by decide) (cX3_characterOf_18d92 l D k _ h14 v9 h1f0 (by omega) (by omega)) w422 w420 w421 w76 hdX3_characterOf ⟨rfl, rfl⟩ ⟨Nat.le_of_ble_eq_true rfl, Nat.le_of_ble_eq_true rfl⟩ rfl hl.1 (Nat.le_of_ble_eq_true rfl) dX10_factor_38 ⟨Nat.le_of_ble_eq_true rfl, Nat.le_of_ble_eq_true rfl⟩) hT hS hA [1] [0, 2] rfl rfl rfl (by decide) (by decide) (fun r10 H locs hB J hS => ?_)
      obtain ⟨q11, rfl, hT1⟩ := hB
      have hT := J _ hT1
      have hT : TP D A [(h0, ob 7 [.ref h1, .ref h2, .int h0f2, .ref h3, .ref h4, .ref h5, .int h0f6, .ref h6, .int h0f8, .ref h7, .ref h8, .int h0f11, .ref h9, .ref h10, .ref h11, .ref h12, .ref h13]), (h1, ob 4 [.int h1f0, .int h1f1, .int h1f2, .ref h14]), (h14, aJ (k 1) 36 anJ), (q11, aJ (k 1) 4 anJ)] H := hT
      refine lv_astore_n (lv' := [(3, .ref q11), (0, .ref h0), (1, .int x1), (2, .int x2)]) hx hb dX10_factor_41 rfl hl (by decide) rfl (fun ls hl => ?_)
      refine lv_aload_n hx hb dX10_factor_42 rfl (lv_at hl 0 rfl) ?_
      refine lv_aload_n hx hb dX10_factor_43 rfl (lv_at hl 1 rfl) ?_
      refine tz_get (ci := 7) (v := .ref h1) (C := RX10) (F := TX10) (N := 17) hx hb hU iX10 hown hK hT 0 rfl rfl 0 (by decide) w249 (fun _ h9 => h9) rfl dX10_factor_44 ?_
      refine tz_get (ci := 4) (v := .int h1f0) (C := RX5) (F := TX5) (N := 4) hx hb hU iX5 hown hK hT 1 rfl rfl 0 (by decide) w93 (fun _ h9 => h9) rfl dX10_factor_47 ?_
      refine lv_iload_n hx hb dX10_factor_50 rfl (lv_at hl 3 rfl) ?_
      refine tcI (Tc := [(q11, aJ (k 1) 4 anJ)]) (Tr := [(h0, ob 7 [.ref h1, .ref h2, .int h0f2, .ref h3, .ref h4, .ref h5, .int h0f6, .ref h6, .int h0f8, .ref h7, .ref h8, .int h0f11, .ref h9, .ref h10, .ref h11, .ref h12, .ref h13]), (h1, ob 4 [.int h1f0, .int h1f1, .int h1f2, .ref h14]), (h14, aJ (k 1) 36 anJ)]) (as := [q11]) (zcSs (As := [.ref q11, .int h1f0, .int x2]) (rest := []) (Tc := [(q11, aJ (k 1) 4 anJ)]) hx hb hml hown hU hK hT hZ hS hA [3] rfl rfl (by decide) (cX3_howOften_70e47 l D k _ t0 t1 t2 q11 h1f0 x2 (by omega) (by omega)) w437 w435 w436 w76 hdX3_howOften ⟨rfl, rfl⟩ ⟨Nat.le_of_ble_eq_true rfl, Nat.le_of_ble_eq_true rfl⟩ rfl hl.1 (Nat.le_of_ble_eq_true rfl) dX10_factor_51 ⟨Nat.le_of_ble_eq_true rfl, Nat.le_of_ble_eq_true rfl⟩) hT hS hA [3] [0, 1, 2] rfl rfl rfl (by decide) (by decide) (fun r12 H locs hB J hS => ?_)
      obtain ⟨b_r12, hT1⟩ := hB
      have hT := J _ hT1
      have hT : TP D A [(h0, ob 7 [.ref h1, .ref h2, .int h0f2, .ref h3, .ref h4, .ref h5, .int h0f6, .ref h6, .int h0f8, .ref h7, .ref h8, .int h0f11, .ref h9, .ref h10, .ref h11, .ref h12, .ref h13]), (h1, ob 4 [.int h1f0, .int h1f1, .int h1f2, .ref h14]), (h14, aJ (k 1) 36 anJ), (q11, aJ (k 1) 4 anJ)] H := hT
      exact tz_retI (B := B_cX10_factor_4a18a D k h0 h1 h14 h2 h3 h4 h5 h6 h7 h8 h9 h10 h11 h12 h13 x1 x2 h0f2 h0f6 h0f8 h0f11 h1f0 h1f1 h1f2) (v := r12) hQ hx hb hr hlocks hS (Nat.le_of_ble_eq_true rfl) (Nat.le_of_ble_eq_true rfl) dX10_factor_54 (⟨(by omega), (hT.sub [0, 1, 2] (by decide) rfl)⟩)
abbrev Rm_cX11_in_ca3b9 : Room := { frames := 0, cells := 0, slots := 0, locals := 0 }
abbrev B_cX11_in_ca3b9 (D : va_G) (k : Nat → ClassId) (x0 : Int64) (x1 : Int64) (x2 : Int64) (A : Nat → Prop) (r : Int32) (H : Heap) : Prop := (0 = r ∧ TP D A [] H) ∨ (x1.toInt ≤ x0.toInt ∧ x0.toInt ≤ x2.toInt ∧ 1 = r ∧ TP D A [] H)
set_option maxHeartbeats 4000000 in
set_option maxRecDepth 100000 in
theorem cX11_in_ca3b9 (l : Launch) (D : va_G) (k : Nat → ClassId) (sz : Nat) (x0 : Int64) (x1 : Int64) (x2 : Int64) (b_x1 : (-1000000000) ≤ x1.toInt ∧ x1.toInt ≤ 1) (b_x2 : (-1) ≤ x2.toInt ∧ x2.toInt ≤ 1000000000) : Met l yX11_in (Cond.code yX11_in cX11_in 6 (some .boolean) :: uw) Rm_cX11_in_ca3b9 (pT D k sz [.long x0, .long x1, .long x2] []) (qI (B_cX11_in_ca3b9 D k x0 x1 x2 (zA [] sz)) (zA [] sz)) 0 0 (zA [] sz) := by
  refine tz_begin (as := []) (Qc := fun A => qI (B_cX11_in_ca3b9 D k x0 x1 x2 A) A) (by decide +kernel) rfl (Nat.le_of_ble_eq_true rfl) ?_
  intro p e s m args below meth c ls A Q hx hb hr hml hown hlocks hin hU hK hT hS hA hl hQ
  have hl : lv_has ls 6 [(0, .long x0), (2, .long x1), (4, .long x2)] := hl
  have hT : TP D A [] s.heap := hT
  refine lv_lload_n hx hb dX11_in_0 rfl (lv_at hl 0 rfl) ?_
  refine lv_lload_n hx hb dX11_in_1 rfl (lv_at hl 1 rfl) ?_
  refine W.lcmp hx hb dX11_in_2 ?_
  refine lv_if_lt (tgt := 17) hx hb dX11_in_3 (by decide) (fun c_1 => ?_) (fun c_1 => ?_)
  · skip
    have c_1 := nl_lt c_1 rfl rfl
    refine lv_iconst (v := 0) hx hb dX11_in_17 (by decide) ?_
    exact tz_retZ (B := B_cX11_in_ca3b9 D k x0 x1 x2) (v := 0) hQ hx hb hr hlocks hS (Nat.le_of_ble_eq_true rfl) (Nat.le_of_ble_eq_true rfl) dX11_in_18 (by have := li_0; omega) (Or.inl ⟨rfl, hT⟩)
  · skip
    have c_1 := nl_nlt c_1 rfl rfl
    refine lv_lload_n hx hb dX11_in_6 rfl (lv_at hl 0 rfl) ?_
    refine lv_lload hx hb dX11_in_7 (lv_at hl 2 rfl) ?_
    refine W.lcmp hx hb dX11_in_9 ?_
    refine lv_if_gt (tgt := 17) hx hb dX11_in_10 (by decide) (fun c_2 => ?_) (fun c_2 => ?_)
    · skip
      have c_2 := nl_gt c_2 rfl rfl
      refine lv_iconst (v := 0) hx hb dX11_in_17 (by decide) ?_
      exact tz_retZ (B := B_cX11_in_ca3b9 D k x0 x1 x2) (v := 0) hQ hx hb hr hlocks hS (Nat.le_of_ble_eq_true rfl) (Nat.le_of_ble_eq_true rfl) dX11_in_18 (by have := li_0; omega) (Or.inl ⟨rfl, hT⟩)
    · skip
      have c_2 := nl_ngt c_2 rfl rfl
      refine lv_iconst (v := 1) hx hb dX11_in_13 (by decide) ?_
      refine lv_goto (tgt := 18) hx hb dX11_in_14 (by decide) ?_
      exact tz_retZ (B := B_cX11_in_ca3b9 D k x0 x1 x2) (v := 1) hQ hx hb hr hlocks hS (Nat.le_of_ble_eq_true rfl) (Nat.le_of_ble_eq_true rfl) dX11_in_18 (by have := li_1; omega) (Or.inr (⟨(by have := li_1; omega), (by have := li_1; omega), rfl, hT⟩))
abbrev Rm_cX11_isGen_669e6 : Room := { frames := 1, cells := 0, slots := 0, locals := 25 }
abbrev B_cX11_isGen_669e6 (D : va_G) (k : Nat → ClassId) (h0 h1 h2 h3 h4 h5 h6 h7 h8 h9 h10 h11 h12 h13 h14 h15 h16 h17 h18 h19 h20 h21 : Nat) (x1 : Int32) (h0f0 : Int32) (h0f1 : Int32) (h0f2 : Int32) (h0f3 : Int32) (h0f4 : Int32) (h0f5 : Int32) (h0f8 : Int32) (h0f9 : Int32) (h0f17 : Int32) (h0f18 : Int32) (h0f19 : Int32) (h0f24 : Int32) (h0f25 : Int32) (h0f30 : Int32) (h0f31 : Int32) (A : Nat → Prop) (r : Int32) (H : Heap) : Prop := (0 = r ∧ TP D A [(h0, ob 8 [.int h0f0, .int h0f1, .int h0f2, .int h0f3, .int h0f4, .int h0f5, .ref h1, .ref h2, .int h0f8, .int h0f9, .ref h3, .ref h4, .ref h5, .ref h6, .ref h7, .ref h8, .ref h9, .int h0f17, .int h0f18, .int h0f19, .ref h10, .ref h11, .ref h12, .ref h13, .int h0f24, .int h0f25, .ref h14, .ref h15, .ref h16, .ref h17, .int h0f30, .int h0f31, .ref h18, .ref h19, .ref h20, .ref h21])] H) ∨ (h0f8.toInt ≤ h0f3.toInt ∧ h0f9.toInt ≤ h0f24.toInt ∧ 0 ≤ x1.toInt ∧ x1.toInt ≤ h0f1.toInt + (-1) ∧ 1 = r ∧ TP D A [(h0, ob 8 [.int h0f0, .int h0f1, .int h0f2, .int h0f3, .int h0f4, .int h0f5, .ref h1, .ref h2, .int h0f8, .int h0f9, .ref h3, .ref h4, .ref h5, .ref h6, .ref h7, .ref h8, .ref h9, .int h0f17, .int h0f18, .int h0f19, .ref h10, .ref h11, .ref h12, .ref h13, .int h0f24, .int h0f25, .ref h14, .ref h15, .ref h16, .ref h17, .int h0f30, .int h0f31, .ref h18, .ref h19, .ref h20, .ref h21])] H)
set_option maxHeartbeats 4000000 in
set_option maxRecDepth 100000 in
theorem cX11_isGen_669e6 (l : Launch) (D : va_G) (k : Nat → ClassId) (sz : Nat) (h0 h1 h2 h3 h4 h5 h6 h7 h8 h9 h10 h11 h12 h13 h14 h15 h16 h17 h18 h19 h20 h21 : Nat) (x1 : Int32) (h0f0 : Int32) (h0f1 : Int32) (h0f2 : Int32) (h0f3 : Int32) (h0f4 : Int32) (h0f5 : Int32) (h0f8 : Int32) (h0f9 : Int32) (h0f17 : Int32) (h0f18 : Int32) (h0f19 : Int32) (h0f24 : Int32) (h0f25 : Int32) (h0f30 : Int32) (h0f31 : Int32) (b_h0f0 : 1 ≤ h0f0.toInt ∧ h0f0.toInt ≤ 3) (b_h0f1 : 0 ≤ h0f1.toInt ∧ h0f1.toInt ≤ 4) (b_h0f3 : 0 ≤ h0f3.toInt ∧ h0f3.toInt ≤ 3) (b_h0f4 : 0 ≤ h0f4.toInt ∧ h0f4.toInt ≤ 4) (b_h0f8 : 0 ≤ h0f8.toInt ∧ h0f8.toInt ≤ 1) (b_h0f9 : 0 ≤ h0f9.toInt ∧ h0f9.toInt ≤ 1) (b_h0f17 : 0 ≤ h0f17.toInt ∧ h0f17.toInt ≤ 120) (b_h0f18 : 0 ≤ h0f18.toInt ∧ h0f18.toInt ≤ 120) (b_h0f19 : 0 ≤ h0f19.toInt ∧ h0f19.toInt ≤ 4) (b_h0f24 : 0 ≤ h0f24.toInt ∧ h0f24.toInt ≤ 100) (b_h0f25 : 0 ≤ h0f25.toInt ∧ h0f25.toInt ≤ 1) (b_h0f30 : 0 ≤ h0f30.toInt ∧ h0f30.toInt ≤ 60) (b_h0f31 : 0 ≤ h0f31.toInt ∧ h0f31.toInt ≤ 1) (i_0 : h0f8.toInt ≤ h0f3.toInt) (i_1 : h0f9.toInt ≤ h0f24.toInt) : Met l yX11_isGen (Cond.code yX11_isGen cX11_isGen 2 (some .boolean) :: uw) Rm_cX11_isGen_669e6 (pT D k sz [.ref h0, .int x1] [(h0, ob 8 [.int h0f0, .int h0f1, .int h0f2, .int h0f3, .int h0f4, .int h0f5, .ref h1, .ref h2, .int h0f8, .int h0f9, .ref h3, .ref h4, .ref h5, .ref h6, .ref h7, .ref h8, .ref h9, .int h0f17, .int h0f18, .int h0f19, .ref h10, .ref h11, .ref h12, .ref h13, .int h0f24, .int h0f25, .ref h14, .ref h15, .ref h16, .ref h17, .int h0f30, .int h0f31, .ref h18, .ref h19, .ref h20, .ref h21])]) (qI (B_cX11_isGen_669e6 D k h0 h1 h2 h3 h4 h5 h6 h7 h8 h9 h10 h11 h12 h13 h14 h15 h16 h17 h18 h19 h20 h21 x1 h0f0 h0f1 h0f2 h0f3 h0f4 h0f5 h0f8 h0f9 h0f17 h0f18 h0f19 h0f24 h0f25 h0f30 h0f31 (zA [h0] sz)) (zA [h0] sz)) 0 0 (zA [h0] sz) := by
  refine tz_begin (as := [h0]) (Qc := fun A => qI (B_cX11_isGen_669e6 D k h0 h1 h2 h3 h4 h5 h6 h7 h8 h9 h10 h11 h12 h13 h14 h15 h16 h17 h18 h19 h20 h21 x1 h0f0 h0f1 h0f2 h0f3 h0f4 h0f5 h0f8 h0f9 h0f17 h0f18 h0f19 h0f24 h0f25 h0f30 h0f31 A) A) (by decide +kernel) rfl (Nat.le_of_ble_eq_true rfl) ?_
  intro p e s m args below meth c ls A Q hx hb hr hml hown hlocks hin hU hK hT hS hA hl hQ
  have hl : lv_has ls 2 [(0, .ref h0), (1, .int x1)] := hl
  have hT : TP D A [(h0, ob 8 [.int h0f0, .int h0f1, .int h0f2, .int h0f3, .int h0f4, .int h0f5, .ref h1, .ref h2, .int h0f8, .int h0f9, .ref h3, .ref h4, .ref h5, .ref h6, .ref h7, .ref h8, .ref h9, .int h0f17, .int h0f18, .int h0f19, .ref h10, .ref h11, .ref h12, .ref h13, .int h0f24, .int h0f25, .ref h14, .ref h15, .ref h16, .ref h17, .int h0f30, .int h0f31, .ref h18, .ref h19, .ref h20, .ref h21])] s.heap := hT
  refine lv_iload_n hx hb dX11_isGen_0 rfl (lv_at hl 1 rfl) ?_
  obtain ⟨v1, e_v1⟩ : ∃ x : Int64, x1.toInt64 = x := ⟨_, rfl⟩
  refine lv_i2l (v := v1) hx hb dX11_isGen_1 e_v1 ?_
  have e_v1 := ai_i2l e_v1 rfl
  refine lv_lconst (v := 0) hx hb dX11_isGen_2 (by decide) ?_
  refine lv_aload_n hx hb dX11_isGen_3 rfl (lv_at hl 0 rfl) ?_
  refine tz_get (ci := 8) (v := .int h0f1) (C := RX11) (F := TX11) (N := 36) hx hb hU iX11 hown hK hT 0 rfl rfl 1 (by decide) w786 (fun _ h9 => h9) rfl dX11_isGen_4 ?_
  refine lv_iconst (v := 1) hx hb dX11_isGen_7 (by decide) ?_
  refine lv_isub hx hb dX11_isGen_8 (lv_topi (fun v2 e_v2 => ?_))
  have e_v2 := ai_sub e_v2 rfl li_1 (by omega)
  obtain ⟨v3, e_v3⟩ : ∃ x : Int64, v2.toInt64 = x := ⟨_, rfl⟩
  refine lv_i2l (v := v3) hx hb dX11_isGen_9 e_v3 ?_
  have e_v3 := ai_i2l e_v3 rfl
  have q_q5 := ll_0
  refine tcI (Tc := []) (Tr := [(h0, ob 8 [.int h0f0, .int h0f1, .int h0f2, .int h0f3, .int h0f4, .int h0f5, .ref h1, .ref h2, .int h0f8, .int h0f9, .ref h3, .ref h4, .ref h5, .ref h6, .ref h7, .ref h8, .ref h9, .int h0f17, .int h0f18, .int h0f19, .ref h10, .ref h11, .ref h12, .ref h13, .int h0f24, .int h0f25, .ref h14, .ref h15, .ref h16, .ref h17, .int h0f30, .int h0f31, .ref h18, .ref h19, .ref h20, .ref h21])]) (as := []) (zcS (As := [.long v1, .long 0, .long v3]) (rest := []) (Tc := []) hx hb hml hown hU hK hT [] rfl (by decide) (cX11_in_ca3b9 l D k _ v1 (0) v3 (by have := ll_0; omega) (by omega)) w901 w899 w900 w72 hdX11_in ⟨rfl, rfl⟩ ⟨Nat.le_of_ble_eq_true rfl, Nat.le_of_ble_eq_true rfl⟩ rfl hl.1 (Nat.le_of_ble_eq_true rfl) dX11_isGen_10 ⟨Nat.le_of_ble_eq_true rfl, Nat.le_of_ble_eq_true rfl⟩) hT hS hA [] [0] rfl rfl rfl (by decide) (by decide) (fun r4 H locs hB J hS => ?_)
  rcases hB with ⟨rfl, hT1⟩ | ⟨c_6, c_7, rfl, hT1⟩
  · skip
    have hT := J _ hT1
    have hT : TP D A [(h0, ob 8 [.int h0f0, .int h0f1, .int h0f2, .int h0f3, .int h0f4, .int h0f5, .ref h1, .ref h2, .int h0f8, .int h0f9, .ref h3, .ref h4, .ref h5, .ref h6, .ref h7, .ref h8, .ref h9, .int h0f17, .int h0f18, .int h0f19, .ref h10, .ref h11, .ref h12, .ref h13, .int h0f24, .int h0f25, .ref h14, .ref h15, .ref h16, .ref h17, .int h0f30, .int h0f31, .ref h18, .ref h19, .ref h20, .ref h21])] H := hT
    exact tz_retZ (B := B_cX11_isGen_669e6 D k h0 h1 h2 h3 h4 h5 h6 h7 h8 h9 h10 h11 h12 h13 h14 h15 h16 h17 h18 h19 h20 h21 x1 h0f0 h0f1 h0f2 h0f3 h0f4 h0f5 h0f8 h0f9 h0f17 h0f18 h0f19 h0f24 h0f25 h0f30 h0f31) (v := 0) hQ hx hb hr hlocks hS (Nat.le_of_ble_eq_true rfl) (Nat.le_of_ble_eq_true rfl) dX11_isGen_13 (by have := li_0; omega) (Or.inl ⟨rfl, hT⟩)
  · skip
    have hT := J _ hT1
    have hT : TP D A [(h0, ob 8 [.int h0f0, .int h0f1, .int h0f2, .int h0f3, .int h0f4, .int h0f5, .ref h1, .ref h2, .int h0f8, .int h0f9, .ref h3, .ref h4, .ref h5, .ref h6, .ref h7, .ref h8, .ref h9, .int h0f17, .int h0f18, .int h0f19, .ref h10, .ref h11, .ref h12, .ref h13, .int h0f24, .int h0f25, .ref h14, .ref h15, .ref h16, .ref h17, .int h0f30, .int h0f31, .ref h18, .ref h19, .ref h20, .ref h21])] H := hT
    exact tz_retZ (B := B_cX11_isGen_669e6 D k h0 h1 h2 h3 h4 h5 h6 h7 h8 h9 h10 h11 h12 h13 h14 h15 h16 h17 h18 h19 h20 h21 x1 h0f0 h0f1 h0f2 h0f3 h0f4 h0f5 h0f8 h0f9 h0f17 h0f18 h0f19 h0f24 h0f25 h0f30 h0f31) (v := 1) hQ hx hb hr hlocks hS (Nat.le_of_ble_eq_true rfl) (Nat.le_of_ble_eq_true rfl) dX11_isGen_13 (by have := li_1; omega) (Or.inr (⟨(by have := li_1; omega), (by have := li_1; omega), (by have := li_1; omega), (by have := li_1; omega), rfl, hT⟩))
abbrev Rm_cX11_takes_35579 : Room := { frames := 0, cells := 0, slots := 0, locals := 0 }
abbrev B_cX11_takes_35579 (D : va_G) (k : Nat → ClassId) (h0 h1 h2 h3 h4 h5 h6 h7 h8 h9 h10 h11 h12 h13 h14 h15 h16 h17 h18 h19 h20 h21 : Nat) (x1 : Int32) (h0f0 : Int32) (h0f1 : Int32) (h0f2 : Int32) (h0f3 : Int32) (h0f4 : Int32) (h0f5 : Int32) (h0f8 : Int32) (h0f9 : Int32) (h0f17 : Int32) (h0f18 : Int32) (h0f19 : Int32) (h0f24 : Int32) (h0f25 : Int32) (h0f30 : Int32) (h0f31 : Int32) (A : Nat → Prop) (H : Heap) : Prop := TP D A [(h0, ob 8 [.int h0f0, .int h0f1, .int h0f2, .int h0f3, .int h0f4, .int h0f5, .ref h2, .ref h3, .int h0f8, .int h0f9, .ref h4, .ref h1, .ref h5, .ref h6, .ref h7, .ref h8, .ref h9, .int h0f17, .int h0f18, .int h0f19, .ref h10, .ref h11, .ref h12, .ref h13, .int h0f24, .int h0f25, .ref h14, .ref h15, .ref h16, .ref h17, .int h0f30, .int h0f31, .ref h18, .ref h19, .ref h20, .ref h21]), (h1, aJ (k 1) 9 anJ), (h2, aI (k 0) 36 anI)] H
set_option maxHeartbeats 4000000 in
set_option maxRecDepth 100000 in
theorem cX11_takes_35579 (l : Launch) (D : va_G) (k : Nat → ClassId) (sz : Nat) (h0 h1 h2 h3 h4 h5 h6 h7 h8 h9 h10 h11 h12 h13 h14 h15 h16 h17 h18 h19 h20 h21 : Nat) (x1 : Int32) (h0f0 : Int32) (h0f1 : Int32) (h0f2 : Int32) (h0f3 : Int32) (h0f4 : Int32) (h0f5 : Int32) (h0f8 : Int32) (h0f9 : Int32) (h0f17 : Int32) (h0f18 : Int32) (h0f19 : Int32) (h0f24 : Int32) (h0f25 : Int32) (h0f30 : Int32) (h0f31 : Int32) (b_x1 : 0 ≤ x1.toInt ∧ x1.toInt ≤ 3) (b_h0f0 : 1 ≤ h0f0.toInt ∧ h0f0.toInt ≤ 3) (b_h0f1 : 1 ≤ h0f1.toInt ∧ h0f1.toInt ≤ 4) (b_h0f3 : 0 ≤ h0f3.toInt ∧ h0f3.toInt ≤ 3) (b_h0f4 : 0 ≤ h0f4.toInt ∧ h0f4.toInt ≤ 4) (b_h0f8 : 0 ≤ h0f8.toInt ∧ h0f8.toInt ≤ 1) (b_h0f9 : 0 ≤ h0f9.toInt ∧ h0f9.toInt ≤ 1) (b_h0f17 : 0 ≤ h0f17.toInt ∧ h0f17.toInt ≤ 120) (b_h0f18 : 0 ≤ h0f18.toInt ∧ h0f18.toInt ≤ 120) (b_h0f19 : 0 ≤ h0f19.toInt ∧ h0f19.toInt ≤ 4) (b_h0f24 : 0 ≤ h0f24.toInt ∧ h0f24.toInt ≤ 100) (b_h0f25 : 0 ≤ h0f25.toInt ∧ h0f25.toInt ≤ 1) (b_h0f30 : 0 ≤ h0f30.toInt ∧ h0f30.toInt ≤ 60) (b_h0f31 : 0 ≤ h0f31.toInt ∧ h0f31.toInt ≤ 1) (i_0 : h0f8.toInt ≤ h0f3.toInt) (i_1 : h0f9.toInt ≤ h0f24.toInt) : Met l yX11_takes (Cond.code yX11_takes cX11_takes 4 none :: uw) Rm_cX11_takes_35579 (pT D k sz [.ref h0, .int x1, .ref h1] [(h0, ob 8 [.int h0f0, .int h0f1, .int h0f2, .int h0f3, .int h0f4, .int h0f5, .ref h2, .ref h3, .int h0f8, .int h0f9, .ref h4, .ref h1, .ref h5, .ref h6, .ref h7, .ref h8, .ref h9, .int h0f17, .int h0f18, .int h0f19, .ref h10, .ref h11, .ref h12, .ref h13, .int h0f24, .int h0f25, .ref h14, .ref h15, .ref h16, .ref h17, .int h0f30, .int h0f31, .ref h18, .ref h19, .ref h20, .ref h21]), (h1, aJ (k 1) 9 anJ), (h2, aI (k 0) 36 anI)]) (qV (B_cX11_takes_35579 D k h0 h1 h2 h3 h4 h5 h6 h7 h8 h9 h10 h11 h12 h13 h14 h15 h16 h17 h18 h19 h20 h21 x1 h0f0 h0f1 h0f2 h0f3 h0f4 h0f5 h0f8 h0f9 h0f17 h0f18 h0f19 h0f24 h0f25 h0f30 h0f31 (zA [h0, h1, h2] sz)) (zA [h0, h1, h2] sz)) 0 0 (zA [h0, h1, h2] sz) := by
  refine tz_begin (as := [h0, h1, h2]) (Qc := fun A => qV (B_cX11_takes_35579 D k h0 h1 h2 h3 h4 h5 h6 h7 h8 h9 h10 h11 h12 h13 h14 h15 h16 h17 h18 h19 h20 h21 x1 h0f0 h0f1 h0f2 h0f3 h0f4 h0f5 h0f8 h0f9 h0f17 h0f18 h0f19 h0f24 h0f25 h0f30 h0f31 A) A) (by decide +kernel) rfl (Nat.le_of_ble_eq_true rfl) ?_
  intro p e s m args below meth c ls A Q hx hb hr hml hown hlocks hin hU hK hT hS hA hl hQ
  have hl : lv_has ls 4 [(0, .ref h0), (1, .int x1), (2, .ref h1)] := hl
  have hT : TP D A [(h0, ob 8 [.int h0f0, .int h0f1, .int h0f2, .int h0f3, .int h0f4, .int h0f5, .ref h2, .ref h3, .int h0f8, .int h0f9, .ref h4, .ref h1, .ref h5, .ref h6, .ref h7, .ref h8, .ref h9, .int h0f17, .int h0f18, .int h0f19, .ref h10, .ref h11, .ref h12, .ref h13, .int h0f24, .int h0f25, .ref h14, .ref h15, .ref h16, .ref h17, .int h0f30, .int h0f31, .ref h18, .ref h19, .ref h20, .ref h21]), (h1, aJ (k 1) 9 anJ), (h2, aI (k 0) 36 anI)] s.heap := hT
  refine lv_iconst (v := 0) hx hb dX11_takes_0 (by decide) ?_
  refine lv_istore_n (lv' := [(3, .int 0), (0, .ref h0), (1, .int x1), (2, .ref h1)]) hx hb dX11_takes_1 rfl hl (by decide) rfl (fun ls hl => ?_)
  have lp2_8 : ∀ (n : Nat) (y7 : Int32) (H : Heap) (locs : List Loc) (ls : Array Slot), (0 ≤ y7.toInt ∧ y7.toInt ≤ 9) → ((-1) * y7.toInt + 9 + 1).toNat < n → TP D A [(h0, ob 8 [.int h0f0, .int h0f1, .int h0f2, .int h0f3, .int h0f4, .int h0f5, .ref h2, .ref h3, .int h0f8, .int h0f9, .ref h4, .ref h1, .ref h5, .ref h6, .ref h7, .ref h8, .ref h9, .int h0f17, .int h0f18, .int h0f19, .ref h10, .ref h11, .ref h12, .ref h13, .int h0f24, .int h0f25, .ref h14, .ref h15, .ref h16, .ref h17, .int h0f30, .int h0f31, .ref h18, .ref h19, .ref h20, .ref h21]), (h1, aJ (k 1) 9 anJ), (h2, aI (k 0) 36 anI)] H → va_S A s.heap H locs → lv_has ls 4 [(0, .ref h0), (1, .int x1), (2, .ref h1), (3, .int y7)] → W p l e Rm_cX11_takes_35579 s m args below meth c H locs 0 0 Q (F0 m 2 ls []) := by
    intro n
    induction n with
    | zero => intro y7 H locs ls b_y7 hm hT hS hl; exact absurd hm (Nat.not_lt_zero _)
    | succ n ih =>
      intro y7 H locs ls b_y7 hm hT hS hl
      have ih2_8 := ih
      clear ih
      refine lv_iload_n hx hb dX11_takes_2 rfl (lv_at hl 3 rfl) ?_
      refine lv_bipush (v := 9) hx hb dX11_takes_3 (by decide) ?_
      refine lv_icmp_ge (tgt := 29) hx hb dX11_takes_5 (by decide) (fun c_9 => ?_) (fun c_9 => ?_)
      · skip
        have c_9 := ni_le c_9 li_9 rfl
        exact tz_retV (B := B_cX11_takes_35579 D k h0 h1 h2 h3 h4 h5 h6 h7 h8 h9 h10 h11 h12 h13 h14 h15 h16 h17 h18 h19 h20 h21 x1 h0f0 h0f1 h0f2 h0f3 h0f4 h0f5 h0f8 h0f9 h0f17 h0f18 h0f19 h0f24 h0f25 h0f30 h0f31) hQ hx hb hr hlocks hS (Nat.le_of_ble_eq_true rfl) (Nat.le_of_ble_eq_true rfl) dX11_takes_29 (hT)
      · skip
        have c_9 := ni_nle c_9 li_9 rfl
        refine lv_aload_n hx hb dX11_takes_8 rfl (lv_at hl 2 rfl) ?_
        refine lv_iload_n hx hb dX11_takes_9 rfl (lv_at hl 3 rfl) ?_
        refine lv_aload_n hx hb dX11_takes_10 rfl (lv_at hl 0 rfl) ?_
        refine tz_get (ci := 8) (v := .ref h2) (C := RX11) (F := TX11) (N := 36) hx hb hU iX11 hown hK hT 0 rfl rfl 6 (by decide) w791 (fun _ h9 => h9) rfl dX11_takes_11 ?_
        refine lv_bipush (v := 9) hx hb dX11_takes_14 (by decide) ?_
        refine lv_iload_n hx hb dX11_takes_16 rfl (lv_at hl 1 rfl) ?_
        refine lv_imul hx hb dX11_takes_17 (lv_topi (fun v10 e_v10 => ?_))
        have e_v10 := ai_mul e_v10 li_9 rfl (by omega)
        refine lv_iload_n hx hb dX11_takes_18 rfl (lv_at hl 3 rfl) ?_
        refine lv_iadd hx hb dX11_takes_19 (lv_topi (fun v11 e_v11 => ?_))
        have e_v11 := ai_add e_v11 rfl rfl (by omega)
        refine tz_iald hx hb hK hT 2 rfl (by omega) dX11_takes_20 (fun v12 e_v12 => ?_)
        clear e_v12
        obtain ⟨v13, e_v13⟩ : ∃ x : Int64, v12.toInt64 = x := ⟨_, rfl⟩
        refine lv_i2l (v := v13) hx hb dX11_takes_21 e_v13 ?_
        have e_v13 := ai_i2l e_v13 rfl
        refine tz_last hx hb hK hT hS 1 rfl (by omega) (fun _ _ => trivial) dX11_takes_22 (fun H locs hT hS => ?_)
        obtain ⟨v14, e_v14⟩ : ∃ x : Int32, x = y7 + Int32.ofInt 1 := ⟨_, rfl⟩
        have f_v14 := e_v14.symm
        have e_v14 : v14.toInt = y7.toInt + 1 := ai_add e_v14 rfl (show (Int32.ofInt 1).toInt = 1 from (by decide +kernel)) (by omega)
        refine lv_iinc (v := v14) (lv' := [(3, .int v14), (0, .ref h0), (1, .int x1), (2, .ref h1)]) hx hb dX11_takes_23 hl (k := 3) rfl f_v14 (by decide) rfl (fun ls hl => ?_)
        refine lv_goto (tgt := 2) hx hb dX11_takes_26 (by decide) ?_
        exact ih2_8 v14 _ _ _ (by omega)  (by omega) hT hS (lv_sub hl [1, 2, 3, 0] rfl)
  exact lp2_8 (((-1) * (0 : Int32).toInt + 9 + 1).toNat + 1) (0) _ _ _ (by have := li_0; omega)  (Nat.lt_succ_self _) hT hS (lv_sub hl [1, 2, 3, 0] rfl)
abbrev Rm_cX11_det_9ae4b : Room := { frames := 0, cells := 0, slots := 0, locals := 0 }
abbrev B_cX11_det_9ae4b (D : va_G) (k : Nat → ClassId) (h0 h1 h2 h3 h4 h5 h6 h7 h8 h9 h10 h11 h12 h13 h14 h15 h16 h17 h18 h19 h20 h21 : Nat) (h0f0 : Int32) (h0f1 : Int32) (h0f2 : Int32) (h0f3 : Int32) (h0f4 : Int32) (h0f5 : Int32) (h0f8 : Int32) (h0f9 : Int32) (h0f17 : Int32) (h0f18 : Int32) (h0f19 : Int32) (h0f24 : Int32) (h0f25 : Int32) (h0f30 : Int32) (h0f31 : Int32) (A : Nat → Prop) (r : Int64) (H : Heap) : Prop := TP D A [(h0, ob 8 [.int h0f0, .int h0f1, .int h0f2, .int h0f3, .int h0f4, .int h0f5, .ref h2, .ref h3, .int h0f8, .int h0f9, .ref h4, .ref h1, .ref h5, .ref h6, .ref h7, .ref h8, .ref h9, .int h0f17, .int h0f18, .int h0f19, .ref h10, .ref h11, .ref h12, .ref h13, .int h0f24, .int h0f25, .ref h14, .ref h15, .ref h16, .ref h17, .int h0f30, .int h0f31, .ref h18, .ref h19, .ref h20, .ref h21]), (h1, aJ (k 1) 9 anJ)] H
set_option maxHeartbeats 4000000 in
set_option maxRecDepth 100000 in
theorem cX11_det_9ae4b (l : Launch) (D : va_G) (k : Nat → ClassId) (sz : Nat) (h0 h1 h2 h3 h4 h5 h6 h7 h8 h9 h10 h11 h12 h13 h14 h15 h16 h17 h18 h19 h20 h21 : Nat) (h0f0 : Int32) (h0f1 : Int32) (h0f2 : Int32) (h0f3 : Int32) (h0f4 : Int32) (h0f5 : Int32) (h0f8 : Int32) (h0f9 : Int32) (h0f17 : Int32) (h0f18 : Int32) (h0f19 : Int32) (h0f24 : Int32) (h0f25 : Int32) (h0f30 : Int32) (h0f31 : Int32) (b_h0f0 : 1 ≤ h0f0.toInt ∧ h0f0.toInt ≤ 3) (b_h0f1 : 1 ≤ h0f1.toInt ∧ h0f1.toInt ≤ 4) (b_h0f3 : 0 ≤ h0f3.toInt ∧ h0f3.toInt ≤ 3) (b_h0f4 : 0 ≤ h0f4.toInt ∧ h0f4.toInt ≤ 4) (b_h0f8 : 0 ≤ h0f8.toInt ∧ h0f8.toInt ≤ 1) (b_h0f9 : 0 ≤ h0f9.toInt ∧ h0f9.toInt ≤ 1) (b_h0f17 : 0 ≤ h0f17.toInt ∧ h0f17.toInt ≤ 120) (b_h0f18 : 0 ≤ h0f18.toInt ∧ h0f18.toInt ≤ 120) (b_h0f19 : 0 ≤ h0f19.toInt ∧ h0f19.toInt ≤ 4) (b_h0f24 : 0 ≤ h0f24.toInt ∧ h0f24.toInt ≤ 100) (b_h0f25 : 0 ≤ h0f25.toInt ∧ h0f25.toInt ≤ 1) (b_h0f30 : 0 ≤ h0f30.toInt ∧ h0f30.toInt ≤ 60) (b_h0f31 : 0 ≤ h0f31.toInt ∧ h0f31.toInt ≤ 1) (i_0 : h0f8.toInt ≤ h0f3.toInt) (i_1 : h0f9.toInt ≤ h0f24.toInt) : Met l yX11_det (Cond.code yX11_det cX11_det 2 (some .long) :: uw) Rm_cX11_det_9ae4b (pT D k sz [.ref h0, .ref h1] [(h0, ob 8 [.int h0f0, .int h0f1, .int h0f2, .int h0f3, .int h0f4, .int h0f5, .ref h2, .ref h3, .int h0f8, .int h0f9, .ref h4, .ref h1, .ref h5, .ref h6, .ref h7, .ref h8, .ref h9, .int h0f17, .int h0f18, .int h0f19, .ref h10, .ref h11, .ref h12, .ref h13, .int h0f24, .int h0f25, .ref h14, .ref h15, .ref h16, .ref h17, .int h0f30, .int h0f31, .ref h18, .ref h19, .ref h20, .ref h21]), (h1, aJ (k 1) 9 anJ)]) (qL (B_cX11_det_9ae4b D k h0 h1 h2 h3 h4 h5 h6 h7 h8 h9 h10 h11 h12 h13 h14 h15 h16 h17 h18 h19 h20 h21 h0f0 h0f1 h0f2 h0f3 h0f4 h0f5 h0f8 h0f9 h0f17 h0f18 h0f19 h0f24 h0f25 h0f30 h0f31 (zA [h0, h1] sz)) (zA [h0, h1] sz)) 0 0 (zA [h0, h1] sz) := by
  refine tz_begin (as := [h0, h1]) (Qc := fun A => qL (B_cX11_det_9ae4b D k h0 h1 h2 h3 h4 h5 h6 h7 h8 h9 h10 h11 h12 h13 h14 h15 h16 h17 h18 h19 h20 h21 h0f0 h0f1 h0f2 h0f3 h0f4 h0f5 h0f8 h0f9 h0f17 h0f18 h0f19 h0f24 h0f25 h0f30 h0f31 A) A) (by decide +kernel) rfl (Nat.le_of_ble_eq_true rfl) ?_
  intro p e s m args below meth c ls A Q hx hb hr hml hown hlocks hin hU hK hT hS hA hl hQ
  have hl : lv_has ls 2 [(0, .ref h0), (1, .ref h1)] := hl
  have hT : TP D A [(h0, ob 8 [.int h0f0, .int h0f1, .int h0f2, .int h0f3, .int h0f4, .int h0f5, .ref h2, .ref h3, .int h0f8, .int h0f9, .ref h4, .ref h1, .ref h5, .ref h6, .ref h7, .ref h8, .ref h9, .int h0f17, .int h0f18, .int h0f19, .ref h10, .ref h11, .ref h12, .ref h13, .int h0f24, .int h0f25, .ref h14, .ref h15, .ref h16, .ref h17, .int h0f30, .int h0f31, .ref h18, .ref h19, .ref h20, .ref h21]), (h1, aJ (k 1) 9 anJ)] s.heap := hT
  refine lv_aload_n hx hb dX11_det_0 rfl (lv_at hl 0 rfl) ?_
  refine tz_get (ci := 8) (v := .int h0f0) (C := RX11) (F := TX11) (N := 36) hx hb hU iX11 hown hK hT 0 rfl rfl 0 (by decide) w785 (fun _ h9 => h9) rfl dX11_det_1 ?_
  refine lv_iconst (v := 1) hx hb dX11_det_4 (by decide) ?_
  refine lv_icmp_ne (tgt := 12) hx hb dX11_det_5 (by decide) (fun c_1 => ?_) (fun c_1 => ?_)
  · skip
    have c_1 := ni_ne c_1 rfl li_1
    refine lv_aload_n hx hb dX11_det_12 rfl (lv_at hl 0 rfl) ?_
    refine tz_get (ci := 8) (v := .int h0f0) (C := RX11) (F := TX11) (N := 36) hx hb hU iX11 hown hK hT 0 rfl rfl 0 (by decide) w785 (fun _ h9 => h9) rfl dX11_det_13 ?_
    refine lv_iconst (v := 2) hx hb dX11_det_16 (by decide) ?_
    refine lv_icmp_ne (tgt := 36) hx hb dX11_det_17 (by decide) (fun c_2 => ?_) (fun c_2 => ?_)
    · skip
      have c_2 := ni_ne c_2 rfl li_2
      refine lv_aload_n hx hb dX11_det_36 rfl (lv_at hl 1 rfl) ?_
      refine lv_iconst (v := 0) hx hb dX11_det_37 (by decide) ?_
      refine tz_lald hx hb hK hT 1 rfl (by have := li_0; omega) dX11_det_38 (fun v3 e_v3 => ?_)
      clear e_v3
      refine lv_aload_n hx hb dX11_det_39 rfl (lv_at hl 1 rfl) ?_
      refine lv_iconst (v := 4) hx hb dX11_det_40 (by decide) ?_
      refine tz_lald hx hb hK hT 1 rfl (by have := li_4; omega) dX11_det_41 (fun v4 e_v4 => ?_)
      clear e_v4
      refine lv_aload_n hx hb dX11_det_42 rfl (lv_at hl 1 rfl) ?_
      refine lv_bipush (v := 8) hx hb dX11_det_43 (by decide) ?_
      refine tz_lald hx hb hK hT 1 rfl (by have := li_8; omega) dX11_det_45 (fun v5 e_v5 => ?_)
      clear e_v5
      refine lv_lmul hx hb dX11_det_46 (lv_topl (fun v6 e_v6 => ?_))
      refine lv_aload_n hx hb dX11_det_47 rfl (lv_at hl 1 rfl) ?_
      refine lv_iconst (v := 5) hx hb dX11_det_48 (by decide) ?_
      refine tz_lald hx hb hK hT 1 rfl (by have := li_5; omega) dX11_det_49 (fun v7 e_v7 => ?_)
      clear e_v7
      refine lv_aload_n hx hb dX11_det_50 rfl (lv_at hl 1 rfl) ?_
      refine lv_bipush (v := 7) hx hb dX11_det_51 (by decide) ?_
      refine tz_lald hx hb hK hT 1 rfl (by have := li_7; omega) dX11_det_53 (fun v8 e_v8 => ?_)
      clear e_v8
      refine lv_lmul hx hb dX11_det_54 (lv_topl (fun v9 e_v9 => ?_))
      refine lv_lsub hx hb dX11_det_55 (lv_topl (fun v10 e_v10 => ?_))
      refine lv_lmul hx hb dX11_det_56 (lv_topl (fun v11 e_v11 => ?_))
      refine lv_aload_n hx hb dX11_det_57 rfl (lv_at hl 1 rfl) ?_
      refine lv_iconst (v := 1) hx hb dX11_det_58 (by decide) ?_
      refine tz_lald hx hb hK hT 1 rfl (by have := li_1; omega) dX11_det_59 (fun v12 e_v12 => ?_)
      clear e_v12
      refine lv_aload_n hx hb dX11_det_60 rfl (lv_at hl 1 rfl) ?_
      refine lv_iconst (v := 3) hx hb dX11_det_61 (by decide) ?_
      refine tz_lald hx hb hK hT 1 rfl (by have := li_3; omega) dX11_det_62 (fun v13 e_v13 => ?_)
      clear e_v13
      refine lv_aload_n hx hb dX11_det_63 rfl (lv_at hl 1 rfl) ?_
      refine lv_bipush (v := 8) hx hb dX11_det_64 (by decide) ?_
      refine tz_lald hx hb hK hT 1 rfl (by have := li_8; omega) dX11_det_66 (fun v14 e_v14 => ?_)
      clear e_v14
      refine lv_lmul hx hb dX11_det_67 (lv_topl (fun v15 e_v15 => ?_))
      refine lv_aload_n hx hb dX11_det_68 rfl (lv_at hl 1 rfl) ?_
      refine lv_iconst (v := 5) hx hb dX11_det_69 (by decide) ?_
      refine tz_lald hx hb hK hT 1 rfl (by have := li_5; omega) dX11_det_70 (fun v16 e_v16 => ?_)
      clear e_v16
      refine lv_aload_n hx hb dX11_det_71 rfl (lv_at hl 1 rfl) ?_
      refine lv_bipush (v := 6) hx hb dX11_det_72 (by decide) ?_
      refine tz_lald hx hb hK hT 1 rfl (by have := li_6; omega) dX11_det_74 (fun v17 e_v17 => ?_)
      clear e_v17
      refine lv_lmul hx hb dX11_det_75 (lv_topl (fun v18 e_v18 => ?_))
      refine lv_lsub hx hb dX11_det_76 (lv_topl (fun v19 e_v19 => ?_))
      refine lv_lmul hx hb dX11_det_77 (lv_topl (fun v20 e_v20 => ?_))
      refine lv_lsub hx hb dX11_det_78 (lv_topl (fun v21 e_v21 => ?_))
      refine lv_aload_n hx hb dX11_det_79 rfl (lv_at hl 1 rfl) ?_
      refine lv_iconst (v := 2) hx hb dX11_det_80 (by decide) ?_
      refine tz_lald hx hb hK hT 1 rfl (by have := li_2; omega) dX11_det_81 (fun v22 e_v22 => ?_)
      clear e_v22
      refine lv_aload_n hx hb dX11_det_82 rfl (lv_at hl 1 rfl) ?_
      refine lv_iconst (v := 3) hx hb dX11_det_83 (by decide) ?_
      refine tz_lald hx hb hK hT 1 rfl (by have := li_3; omega) dX11_det_84 (fun v23 e_v23 => ?_)
      clear e_v23
      refine lv_aload_n hx hb dX11_det_85 rfl (lv_at hl 1 rfl) ?_
      refine lv_bipush (v := 7) hx hb dX11_det_86 (by decide) ?_
      refine tz_lald hx hb hK hT 1 rfl (by have := li_7; omega) dX11_det_88 (fun v24 e_v24 => ?_)
      clear e_v24
      refine lv_lmul hx hb dX11_det_89 (lv_topl (fun v25 e_v25 => ?_))
      refine lv_aload_n hx hb dX11_det_90 rfl (lv_at hl 1 rfl) ?_
      refine lv_iconst (v := 4) hx hb dX11_det_91 (by decide) ?_
      refine tz_lald hx hb hK hT 1 rfl (by have := li_4; omega) dX11_det_92 (fun v26 e_v26 => ?_)
      clear e_v26
      refine lv_aload_n hx hb dX11_det_93 rfl (lv_at hl 1 rfl) ?_
      refine lv_bipush (v := 6) hx hb dX11_det_94 (by decide) ?_
      refine tz_lald hx hb hK hT 1 rfl (by have := li_6; omega) dX11_det_96 (fun v27 e_v27 => ?_)
      clear e_v27
      refine lv_lmul hx hb dX11_det_97 (lv_topl (fun v28 e_v28 => ?_))
      refine lv_lsub hx hb dX11_det_98 (lv_topl (fun v29 e_v29 => ?_))
      refine lv_lmul hx hb dX11_det_99 (lv_topl (fun v30 e_v30 => ?_))
      refine lv_ladd hx hb dX11_det_100 (lv_topl (fun v31 e_v31 => ?_))
      exact tz_retL (B := B_cX11_det_9ae4b D k h0 h1 h2 h3 h4 h5 h6 h7 h8 h9 h10 h11 h12 h13 h14 h15 h16 h17 h18 h19 h20 h21 h0f0 h0f1 h0f2 h0f3 h0f4 h0f5 h0f8 h0f9 h0f17 h0f18 h0f19 h0f24 h0f25 h0f30 h0f31) (v := v31) hQ hx hb hr hlocks hS (Nat.le_of_ble_eq_true rfl) (Nat.le_of_ble_eq_true rfl) dX11_det_101 (hT)
    · skip
      have c_2 := ni_eq c_2 rfl li_2
      refine lv_aload_n hx hb dX11_det_20 rfl (lv_at hl 1 rfl) ?_
      refine lv_iconst (v := 0) hx hb dX11_det_21 (by decide) ?_
      refine tz_lald hx hb hK hT 1 rfl (by have := li_0; omega) dX11_det_22 (fun v32 e_v32 => ?_)
      clear e_v32
      refine lv_aload_n hx hb dX11_det_23 rfl (lv_at hl 1 rfl) ?_
      refine lv_iconst (v := 4) hx hb dX11_det_24 (by decide) ?_
      refine tz_lald hx hb hK hT 1 rfl (by have := li_4; omega) dX11_det_25 (fun v33 e_v33 => ?_)
      clear e_v33
      refine lv_lmul hx hb dX11_det_26 (lv_topl (fun v34 e_v34 => ?_))
      refine lv_aload_n hx hb dX11_det_27 rfl (lv_at hl 1 rfl) ?_
      refine lv_iconst (v := 1) hx hb dX11_det_28 (by decide) ?_
      refine tz_lald hx hb hK hT 1 rfl (by have := li_1; omega) dX11_det_29 (fun v35 e_v35 => ?_)
      clear e_v35
      refine lv_aload_n hx hb dX11_det_30 rfl (lv_at hl 1 rfl) ?_
      refine lv_iconst (v := 3) hx hb dX11_det_31 (by decide) ?_
      refine tz_lald hx hb hK hT 1 rfl (by have := li_3; omega) dX11_det_32 (fun v36 e_v36 => ?_)
      clear e_v36
      refine lv_lmul hx hb dX11_det_33 (lv_topl (fun v37 e_v37 => ?_))
      refine lv_lsub hx hb dX11_det_34 (lv_topl (fun v38 e_v38 => ?_))
      exact tz_retL (B := B_cX11_det_9ae4b D k h0 h1 h2 h3 h4 h5 h6 h7 h8 h9 h10 h11 h12 h13 h14 h15 h16 h17 h18 h19 h20 h21 h0f0 h0f1 h0f2 h0f3 h0f4 h0f5 h0f8 h0f9 h0f17 h0f18 h0f19 h0f24 h0f25 h0f30 h0f31) (v := v38) hQ hx hb hr hlocks hS (Nat.le_of_ble_eq_true rfl) (Nat.le_of_ble_eq_true rfl) dX11_det_35 (hT)
  · skip
    have c_1 := ni_eq c_1 rfl li_1
    refine lv_aload_n hx hb dX11_det_8 rfl (lv_at hl 1 rfl) ?_
    refine lv_iconst (v := 0) hx hb dX11_det_9 (by decide) ?_
    refine tz_lald hx hb hK hT 1 rfl (by have := li_0; omega) dX11_det_10 (fun v39 e_v39 => ?_)
    clear e_v39
    exact tz_retL (B := B_cX11_det_9ae4b D k h0 h1 h2 h3 h4 h5 h6 h7 h8 h9 h10 h11 h12 h13 h14 h15 h16 h17 h18 h19 h20 h21 h0f0 h0f1 h0f2 h0f3 h0f4 h0f5 h0f8 h0f9 h0f17 h0f18 h0f19 h0f24 h0f25 h0f30 h0f31) (v := v39) hQ hx hb hr hlocks hS (Nat.le_of_ble_eq_true rfl) (Nat.le_of_ble_eq_true rfl) dX11_det_11 (hT)
abbrev Rm_cX11_without_7ab45 : Room := { frames := 0, cells := 0, slots := 0, locals := 0 }
abbrev B_cX11_without_7ab45 (D : va_G) (k : Nat → ClassId) (h0 h1 h2 h3 h4 h5 h6 h7 h8 h9 h10 h11 h12 h13 h14 h15 h16 h17 h18 h19 h20 h21 : Nat) (x2 : Int32) (x3 : Int32) (h0f0 : Int32) (h0f1 : Int32) (h0f2 : Int32) (h0f3 : Int32) (h0f4 : Int32) (h0f5 : Int32) (h0f8 : Int32) (h0f9 : Int32) (h0f17 : Int32) (h0f18 : Int32) (h0f19 : Int32) (h0f24 : Int32) (h0f25 : Int32) (h0f30 : Int32) (h0f31 : Int32) (A : Nat → Prop) (r : Int64) (H : Heap) : Prop := TP D A [(h0, ob 8 [.int h0f0, .int h0f1, .int h0f2, .int h0f3, .int h0f4, .int h0f5, .ref h2, .ref h3, .int h0f8, .int h0f9, .ref h4, .ref h1, .ref h5, .ref h6, .ref h7, .ref h8, .ref h9, .int h0f17, .int h0f18, .int h0f19, .ref h10, .ref h11, .ref h12, .ref h13, .int h0f24, .int h0f25, .ref h14, .ref h15, .ref h16, .ref h17, .int h0f30, .int h0f31, .ref h18, .ref h19, .ref h20, .ref h21]), (h1, aJ (k 1) 9 anJ)] H
set_option maxHeartbeats 4000000 in
set_option maxRecDepth 100000 in
theorem cX11_without_7ab45 (l : Launch) (D : va_G) (k : Nat → ClassId) (sz : Nat) (h0 h1 h2 h3 h4 h5 h6 h7 h8 h9 h10 h11 h12 h13 h14 h15 h16 h17 h18 h19 h20 h21 : Nat) (x2 : Int32) (x3 : Int32) (h0f0 : Int32) (h0f1 : Int32) (h0f2 : Int32) (h0f3 : Int32) (h0f4 : Int32) (h0f5 : Int32) (h0f8 : Int32) (h0f9 : Int32) (h0f17 : Int32) (h0f18 : Int32) (h0f19 : Int32) (h0f24 : Int32) (h0f25 : Int32) (h0f30 : Int32) (h0f31 : Int32) (b_x2 : 0 ≤ x2.toInt ∧ x2.toInt ≤ 2) (b_x3 : 0 ≤ x3.toInt ∧ x3.toInt ≤ 2) (b_h0f0 : 3 ≤ h0f0.toInt ∧ h0f0.toInt ≤ 3) (b_h0f1 : 1 ≤ h0f1.toInt ∧ h0f1.toInt ≤ 4) (b_h0f3 : 0 ≤ h0f3.toInt ∧ h0f3.toInt ≤ 3) (b_h0f4 : 0 ≤ h0f4.toInt ∧ h0f4.toInt ≤ 4) (b_h0f8 : 0 ≤ h0f8.toInt ∧ h0f8.toInt ≤ 1) (b_h0f9 : 0 ≤ h0f9.toInt ∧ h0f9.toInt ≤ 1) (b_h0f17 : 0 ≤ h0f17.toInt ∧ h0f17.toInt ≤ 120) (b_h0f18 : 0 ≤ h0f18.toInt ∧ h0f18.toInt ≤ 120) (b_h0f19 : 0 ≤ h0f19.toInt ∧ h0f19.toInt ≤ 4) (b_h0f24 : 0 ≤ h0f24.toInt ∧ h0f24.toInt ≤ 100) (b_h0f25 : 0 ≤ h0f25.toInt ∧ h0f25.toInt ≤ 1) (b_h0f30 : 0 ≤ h0f30.toInt ∧ h0f30.toInt ≤ 60) (b_h0f31 : 0 ≤ h0f31.toInt ∧ h0f31.toInt ≤ 1) (i_0 : h0f8.toInt ≤ h0f3.toInt) (i_1 : h0f9.toInt ≤ h0f24.toInt) : Met l yX11_without (Cond.code yX11_without cX11_without 8 (some .long) :: uw) Rm_cX11_without_7ab45 (pT D k sz [.ref h0, .ref h1, .int x2, .int x3] [(h0, ob 8 [.int h0f0, .int h0f1, .int h0f2, .int h0f3, .int h0f4, .int h0f5, .ref h2, .ref h3, .int h0f8, .int h0f9, .ref h4, .ref h1, .ref h5, .ref h6, .ref h7, .ref h8, .ref h9, .int h0f17, .int h0f18, .int h0f19, .ref h10, .ref h11, .ref h12, .ref h13, .int h0f24, .int h0f25, .ref h14, .ref h15, .ref h16, .ref h17, .int h0f30, .int h0f31, .ref h18, .ref h19, .ref h20, .ref h21]), (h1, aJ (k 1) 9 anJ)]) (qL (B_cX11_without_7ab45 D k h0 h1 h2 h3 h4 h5 h6 h7 h8 h9 h10 h11 h12 h13 h14 h15 h16 h17 h18 h19 h20 h21 x2 x3 h0f0 h0f1 h0f2 h0f3 h0f4 h0f5 h0f8 h0f9 h0f17 h0f18 h0f19 h0f24 h0f25 h0f30 h0f31 (zA [h0, h1] sz)) (zA [h0, h1] sz)) 0 0 (zA [h0, h1] sz) := by
  refine tz_begin (as := [h0, h1]) (Qc := fun A => qL (B_cX11_without_7ab45 D k h0 h1 h2 h3 h4 h5 h6 h7 h8 h9 h10 h11 h12 h13 h14 h15 h16 h17 h18 h19 h20 h21 x2 x3 h0f0 h0f1 h0f2 h0f3 h0f4 h0f5 h0f8 h0f9 h0f17 h0f18 h0f19 h0f24 h0f25 h0f30 h0f31 A) A) (by decide +kernel) rfl (Nat.le_of_ble_eq_true rfl) ?_
  intro p e s m args below meth c ls A Q hx hb hr hml hown hlocks hin hU hK hT hS hA hl hQ
  have hl : lv_has ls 8 [(0, .ref h0), (1, .ref h1), (2, .int x2), (3, .int x3)] := hl
  have hT : TP D A [(h0, ob 8 [.int h0f0, .int h0f1, .int h0f2, .int h0f3, .int h0f4, .int h0f5, .ref h2, .ref h3, .int h0f8, .int h0f9, .ref h4, .ref h1, .ref h5, .ref h6, .ref h7, .ref h8, .ref h9, .int h0f17, .int h0f18, .int h0f19, .ref h10, .ref h11, .ref h12, .ref h13, .int h0f24, .int h0f25, .ref h14, .ref h15, .ref h16, .ref h17, .int h0f30, .int h0f31, .ref h18, .ref h19, .ref h20, .ref h21]), (h1, aJ (k 1) 9 anJ)] s.heap := hT
  refine lv_aload_n hx hb dX11_without_0 rfl (lv_at hl 0 rfl) ?_
  refine tz_get (ci := 8) (v := .int h0f0) (C := RX11) (F := TX11) (N := 36) hx hb hU iX11 hown hK hT 0 rfl rfl 0 (by decide) w785 (fun _ h9 => h9) rfl dX11_without_1 ?_
  refine lv_iconst (v := 1) hx hb dX11_without_4 (by decide) ?_
  refine lv_icmp_ne (tgt := 10) hx hb dX11_without_5 (by decide) (fun c_1 => ?_) (fun c_1 => ?_)
  · skip
    have c_1 := ni_ne c_1 rfl li_1
    refine lv_iload_n hx hb dX11_without_10 rfl (lv_at hl 2 rfl) ?_
    refine lv_if_ne (tgt := 18) hx hb dX11_without_11 (by decide) (fun c_2 => ?_) (fun c_2 => ?_)
    · skip
      have c_2 := ni_ne c_2 rfl li_0
      refine lv_iconst (v := 0) hx hb dX11_without_18 (by decide) ?_
      refine lv_istore (lv' := [(4, .int 0), (0, .ref h0), (1, .ref h1), (2, .int x2), (3, .int x3)]) hx hb dX11_without_19 hl (by decide) rfl (fun ls hl => ?_)
      refine lv_iload_n hx hb dX11_without_21 rfl (lv_at hl 4 rfl) ?_
      refine lv_if_ne (tgt := 29) hx hb dX11_without_22 (by decide) (fun c_3 => ?_) (fun c_3 => ?_)
      · skip
        have c_3 := ni_ne c_3 rfl li_0
        refine lv_iconst (v := 0) hx hb dX11_without_29 (by decide) ?_
        refine lv_istore (lv' := [(5, .int 0), (4, .int 0), (0, .ref h0), (1, .ref h1), (2, .int x2), (3, .int x3)]) hx hb dX11_without_30 hl (by decide) rfl (fun ls hl => ?_)
        refine lv_aload_n hx hb dX11_without_32 rfl (lv_at hl 2 rfl) ?_
        refine tz_get (ci := 8) (v := .int h0f0) (C := RX11) (F := TX11) (N := 36) hx hb hU iX11 hown hK hT 0 rfl rfl 0 (by decide) w785 (fun _ h9 => h9) rfl dX11_without_33 ?_
        refine lv_iconst (v := 2) hx hb dX11_without_36 (by decide) ?_
        refine lv_icmp_ne (tgt := 50) hx hb dX11_without_37 (by decide) (fun c_4 => ?_) (fun c_4 => ?_)
        · skip
          have c_4 := ni_ne c_4 rfl li_2
          refine lv_iload_n hx hb dX11_without_50 rfl (lv_at hl 4 rfl) ?_
          refine lv_iconst (v := 2) hx hb dX11_without_51 (by decide) ?_
          refine lv_icmp_ne (tgt := 59) hx hb dX11_without_52 (by decide) (fun c_5 => ?_) (fun c_5 => ?_)
          · skip
            have c_5 := ni_ne c_5 rfl li_2
            refine lv_iconst (v := 2) hx hb dX11_without_59 (by decide) ?_
            refine lv_istore (lv' := [(6, .int 2), (5, .int 0), (4, .int 0), (0, .ref h0), (1, .ref h1), (2, .int x2), (3, .int x3)]) hx hb dX11_without_60 hl (by decide) rfl (fun ls hl => ?_)
            refine lv_iload_n hx hb dX11_without_62 rfl (lv_at hl 6 rfl) ?_
            refine lv_iconst (v := 2) hx hb dX11_without_63 (by decide) ?_
            refine lv_icmp_ne (tgt := 71) hx hb dX11_without_64 (by decide) (fun c_6 => ?_) (fun c_6 => ?_)
            · skip
              have c_6 := ni_ne c_6 rfl li_2
              refine lv_iconst (v := 2) hx hb dX11_without_71 (by decide) ?_
              refine lv_istore (lv' := [(7, .int 2), (6, .int 2), (5, .int 0), (4, .int 0), (0, .ref h0), (1, .ref h1), (2, .int x2), (3, .int x3)]) hx hb dX11_without_72 hl (by decide) rfl (fun ls hl => ?_)
              refine lv_aload_n hx hb dX11_without_74 rfl (lv_at hl 5 rfl) ?_
              refine lv_iconst (v := 3) hx hb dX11_without_75 (by decide) ?_
              refine lv_iload hx hb dX11_without_76 (lv_at hl 3 rfl) ?_
              refine lv_imul hx hb dX11_without_78 (sv_i (v := 0) (by decide +kernel) ?_)
              refine lv_iload hx hb dX11_without_79 (lv_at hl 2 rfl) ?_
              refine lv_iadd hx hb dX11_without_81 (sv_i (v := 0) (by decide +kernel) ?_)
              refine tz_lald hx hb hK hT 1 rfl (by have := li_0; omega) dX11_without_82 (fun v7 e_v7 => ?_)
              clear e_v7
              refine lv_aload_n hx hb dX11_without_83 rfl (lv_at hl 5 rfl) ?_
              refine lv_iconst (v := 3) hx hb dX11_without_84 (by decide) ?_
              refine lv_iload hx hb dX11_without_85 (lv_at hl 1 rfl) ?_
              refine lv_imul hx hb dX11_without_87 (sv_i (v := 6) (by decide +kernel) ?_)
              refine lv_iload hx hb dX11_without_88 (lv_at hl 0 rfl) ?_
              refine lv_iadd hx hb dX11_without_90 (sv_i (v := 8) (by decide +kernel) ?_)
              refine tz_lald hx hb hK hT 1 rfl (by have := li_8; omega) dX11_without_91 (fun v8 e_v8 => ?_)
              clear e_v8
              refine lv_lmul hx hb dX11_without_92 (lv_topl (fun v9 e_v9 => ?_))
              refine lv_aload_n hx hb dX11_without_93 rfl (lv_at hl 5 rfl) ?_
              refine lv_iconst (v := 3) hx hb dX11_without_94 (by decide) ?_
              refine lv_iload hx hb dX11_without_95 (lv_at hl 3 rfl) ?_
              refine lv_imul hx hb dX11_without_97 (sv_i (v := 0) (by decide +kernel) ?_)
              refine lv_iload hx hb dX11_without_98 (lv_at hl 0 rfl) ?_
              refine lv_iadd hx hb dX11_without_100 (sv_i (v := 2) (by decide +kernel) ?_)
              refine tz_lald hx hb hK hT 1 rfl (by have := li_2; omega) dX11_without_101 (fun v10 e_v10 => ?_)
              clear e_v10
              refine lv_aload_n hx hb dX11_without_102 rfl (lv_at hl 5 rfl) ?_
              refine lv_iconst (v := 3) hx hb dX11_without_103 (by decide) ?_
              refine lv_iload hx hb dX11_without_104 (lv_at hl 1 rfl) ?_
              refine lv_imul hx hb dX11_without_106 (sv_i (v := 6) (by decide +kernel) ?_)
              refine lv_iload hx hb dX11_without_107 (lv_at hl 2 rfl) ?_
              refine lv_iadd hx hb dX11_without_109 (sv_i (v := 6) (by decide +kernel) ?_)
              refine tz_lald hx hb hK hT 1 rfl (by have := li_6; omega) dX11_without_110 (fun v11 e_v11 => ?_)
              clear e_v11
              refine lv_lmul hx hb dX11_without_111 (lv_topl (fun v12 e_v12 => ?_))
              refine lv_lsub hx hb dX11_without_112 (lv_topl (fun v13 e_v13 => ?_))
              exact tz_retL (B := B_cX11_without_7ab45 D k h0 h1 h2 h3 h4 h5 h6 h7 h8 h9 h10 h11 h12 h13 h14 h15 h16 h17 h18 h19 h20 h21 x2 x3 h0f0 h0f1 h0f2 h0f3 h0f4 h0f5 h0f8 h0f9 h0f17 h0f18 h0f19 h0f24 h0f25 h0f30 h0f31) (v := v13) hQ hx hb hr hlocks hS (Nat.le_of_ble_eq_true rfl) (Nat.le_of_ble_eq_true rfl) dX11_without_113 (hT)
            · skip
              have c_6 := ni_eq c_6 rfl li_2
              refine lv_iconst (v := 1) hx hb dX11_without_67 (by decide) ?_
              refine lv_goto (tgt := 72) hx hb dX11_without_68 (by decide) ?_
              refine lv_istore (lv' := [(7, .int 1), (6, .int 2), (5, .int 0), (4, .int 0), (0, .ref h0), (1, .ref h1), (2, .int x2), (3, .int x3)]) hx hb dX11_without_72 hl (by decide) rfl (fun ls hl => ?_)
              refine lv_aload_n hx hb dX11_without_74 rfl (lv_at hl 5 rfl) ?_
              refine lv_iconst (v := 3) hx hb dX11_without_75 (by decide) ?_
              refine lv_iload hx hb dX11_without_76 (lv_at hl 3 rfl) ?_
              refine lv_imul hx hb dX11_without_78 (sv_i (v := 0) (by decide +kernel) ?_)
              refine lv_iload hx hb dX11_without_79 (lv_at hl 2 rfl) ?_
              refine lv_iadd hx hb dX11_without_81 (sv_i (v := 0) (by decide +kernel) ?_)
              refine tz_lald hx hb hK hT 1 rfl (by have := li_0; omega) dX11_without_82 (fun v14 e_v14 => ?_)
              clear e_v14
              refine lv_aload_n hx hb dX11_without_83 rfl (lv_at hl 5 rfl) ?_
              refine lv_iconst (v := 3) hx hb dX11_without_84 (by decide) ?_
              refine lv_iload hx hb dX11_without_85 (lv_at hl 1 rfl) ?_
              refine lv_imul hx hb dX11_without_87 (sv_i (v := 6) (by decide +kernel) ?_)
              refine lv_iload hx hb dX11_without_88 (lv_at hl 0 rfl) ?_
              refine lv_iadd hx hb dX11_without_90 (sv_i (v := 7) (by decide +kernel) ?_)
              refine tz_lald hx hb hK hT 1 rfl (by have := li_7; omega) dX11_without_91 (fun v15 e_v15 => ?_)
              clear e_v15
              refine lv_lmul hx hb dX11_without_92 (lv_topl (fun v16 e_v16 => ?_))
              refine lv_aload_n hx hb dX11_without_93 rfl (lv_at hl 5 rfl) ?_
              refine lv_iconst (v := 3) hx hb dX11_without_94 (by decide) ?_
              refine lv_iload hx hb dX11_without_95 (lv_at hl 3 rfl) ?_
              refine lv_imul hx hb dX11_without_97 (sv_i (v := 0) (by decide +kernel) ?_)
              refine lv_iload hx hb dX11_without_98 (lv_at hl 0 rfl) ?_
              refine lv_iadd hx hb dX11_without_100 (sv_i (v := 1) (by decide +kernel) ?_)
              refine tz_lald hx hb hK hT 1 rfl (by have := li_1; omega) dX11_without_101 (fun v17 e_v17 => ?_)
              clear e_v17
              refine lv_aload_n hx hb dX11_without_102 rfl (lv_at hl 5 rfl) ?_
              refine lv_iconst (v := 3) hx hb dX11_without_103 (by decide) ?_
              refine lv_iload hx hb dX11_without_104 (lv_at hl 1 rfl) ?_
              refine lv_imul hx hb dX11_without_106 (sv_i (v := 6) (by decide +kernel) ?_)
              refine lv_iload hx hb dX11_without_107 (lv_at hl 2 rfl) ?_
              refine lv_iadd hx hb dX11_without_109 (sv_i (v := 6) (by decide +kernel) ?_)
              refine tz_lald hx hb hK hT 1 rfl (by have := li_6; omega) dX11_without_110 (fun v18 e_v18 => ?_)
              clear e_v18
              refine lv_lmul hx hb dX11_without_111 (lv_topl (fun v19 e_v19 => ?_))
              refine lv_lsub hx hb dX11_without_112 (lv_topl (fun v20 e_v20 => ?_))
              exact tz_retL (B := B_cX11_without_7ab45 D k h0 h1 h2 h3 h4 h5 h6 h7 h8 h9 h10 h11 h12 h13 h14 h15 h16 h17 h18 h19 h20 h21 x2 x3 h0f0 h0f1 h0f2 h0f3 h0f4 h0f5 h0f8 h0f9 h0f17 h0f18 h0f19 h0f24 h0f25 h0f30 h0f31) (v := v20) hQ hx hb hr hlocks hS (Nat.le_of_ble_eq_true rfl) (Nat.le_of_ble_eq_true rfl) dX11_without_113 (hT)
          · skip
            have c_5 := ni_eq c_5 rfl li_2
            refine lv_iconst (v := 1) hx hb dX11_without_55 (by decide) ?_
            refine lv_goto (tgt := 60) hx hb dX11_without_56 (by decide) ?_
            refine lv_istore (lv' := [(6, .int 1), (5, .int 0), (4, .int 0), (0, .ref h0), (1, .ref h1), (2, .int x2), (3, .int x3)]) hx hb dX11_without_60 hl (by decide) rfl (fun ls hl => ?_)
            refine lv_iload_n hx hb dX11_without_62 rfl (lv_at hl 6 rfl) ?_
            refine lv_iconst (v := 2) hx hb dX11_without_63 (by decide) ?_
            refine lv_icmp_ne (tgt := 71) hx hb dX11_without_64 (by decide) (fun c_21 => ?_) (fun c_21 => ?_)
            · skip
              have c_21 := ni_ne c_21 rfl li_2
              refine lv_iconst (v := 2) hx hb dX11_without_71 (by decide) ?_
              refine lv_istore (lv' := [(7, .int 2), (6, .int 1), (5, .int 0), (4, .int 0), (0, .ref h0), (1, .ref h1), (2, .int x2), (3, .int x3)]) hx hb dX11_without_72 hl (by decide) rfl (fun ls hl => ?_)
              refine lv_aload_n hx hb dX11_without_74 rfl (lv_at hl 5 rfl) ?_
              refine lv_iconst (v := 3) hx hb dX11_without_75 (by decide) ?_
              refine lv_iload hx hb dX11_without_76 (lv_at hl 3 rfl) ?_
              refine lv_imul hx hb dX11_without_78 (sv_i (v := 0) (by decide +kernel) ?_)
              refine lv_iload hx hb dX11_without_79 (lv_at hl 2 rfl) ?_
              refine lv_iadd hx hb dX11_without_81 (sv_i (v := 0) (by decide +kernel) ?_)
              refine tz_lald hx hb hK hT 1 rfl (by have := li_0; omega) dX11_without_82 (fun v22 e_v22 => ?_)
              clear e_v22
              refine lv_aload_n hx hb dX11_without_83 rfl (lv_at hl 5 rfl) ?_
              refine lv_iconst (v := 3) hx hb dX11_without_84 (by decide) ?_
              refine lv_iload hx hb dX11_without_85 (lv_at hl 1 rfl) ?_
              refine lv_imul hx hb dX11_without_87 (sv_i (v := 3) (by decide +kernel) ?_)
              refine lv_iload hx hb dX11_without_88 (lv_at hl 0 rfl) ?_
              refine lv_iadd hx hb dX11_without_90 (sv_i (v := 5) (by decide +kernel) ?_)
              refine tz_lald hx hb hK hT 1 rfl (by have := li_5; omega) dX11_without_91 (fun v23 e_v23 => ?_)
              clear e_v23
              refine lv_lmul hx hb dX11_without_92 (lv_topl (fun v24 e_v24 => ?_))
              refine lv_aload_n hx hb dX11_without_93 rfl (lv_at hl 5 rfl) ?_
              refine lv_iconst (v := 3) hx hb dX11_without_94 (by decide) ?_
              refine lv_iload hx hb dX11_without_95 (lv_at hl 3 rfl) ?_
              refine lv_imul hx hb dX11_without_97 (sv_i (v := 0) (by decide +kernel) ?_)
              refine lv_iload hx hb dX11_without_98 (lv_at hl 0 rfl) ?_
              refine lv_iadd hx hb dX11_without_100 (sv_i (v := 2) (by decide +kernel) ?_)
              refine tz_lald hx hb hK hT 1 rfl (by have := li_2; omega) dX11_without_101 (fun v25 e_v25 => ?_)
              clear e_v25
              refine lv_aload_n hx hb dX11_without_102 rfl (lv_at hl 5 rfl) ?_
              refine lv_iconst (v := 3) hx hb dX11_without_103 (by decide) ?_
              refine lv_iload hx hb dX11_without_104 (lv_at hl 1 rfl) ?_
              refine lv_imul hx hb dX11_without_106 (sv_i (v := 3) (by decide +kernel) ?_)
              refine lv_iload hx hb dX11_without_107 (lv_at hl 2 rfl) ?_
              refine lv_iadd hx hb dX11_without_109 (sv_i (v := 3) (by decide +kernel) ?_)
              refine tz_lald hx hb hK hT 1 rfl (by have := li_3; omega) dX11_without_110 (fun v26 e_v26 => ?_)
              clear e_v26
              refine lv_lmul hx hb dX11_without_111 (lv_topl (fun v27 e_v27 => ?_))
              refine lv_lsub hx hb dX11_without_112 (lv_topl (fun v28 e_v28 => ?_))
              exact tz_retL (B := B_cX11_without_7ab45 D k h0 h1 h2 h3 h4 h5 h6 h7 h8 h9 h10 h11 h12 h13 h14 h15 h16 h17 h18 h19 h20 h21 x2 x3 h0f0 h0f1 h0f2 h0f3 h0f4 h0f5 h0f8 h0f9 h0f17 h0f18 h0f19 h0f24 h0f25 h0f30 h0f31) (v := v28) hQ hx hb hr hlocks hS (Nat.le_of_ble_eq_true rfl) (Nat.le_of_ble_eq_true rfl) dX11_without_113 (hT)
            · skip
              have c_21 := ni_eq c_21 rfl li_2
              refine lv_iconst (v := 1) hx hb dX11_without_67 (by decide) ?_
              refine lv_goto (tgt := 72) hx hb dX11_without_68 (by decide) ?_
              refine lv_istore (lv' := [(7, .int 1), (6, .int 1), (5, .int 0), (4, .int 0), (0, .ref h0), (1, .ref h1), (2, .int x2), (3, .int x3)]) hx hb dX11_without_72 hl (by decide) rfl (fun ls hl => ?_)
              refine lv_aload_n hx hb dX11_without_74 rfl (lv_at hl 5 rfl) ?_
              refine lv_iconst (v := 3) hx hb dX11_without_75 (by decide) ?_
              refine lv_iload hx hb dX11_without_76 (lv_at hl 3 rfl) ?_
              refine lv_imul hx hb dX11_without_78 (sv_i (v := 0) (by decide +kernel) ?_)
              refine lv_iload hx hb dX11_without_79 (lv_at hl 2 rfl) ?_
              refine lv_iadd hx hb dX11_without_81 (sv_i (v := 0) (by decide +kernel) ?_)
              refine tz_lald hx hb hK hT 1 rfl (by have := li_0; omega) dX11_without_82 (fun v29 e_v29 => ?_)
              clear e_v29
              refine lv_aload_n hx hb dX11_without_83 rfl (lv_at hl 5 rfl) ?_
              refine lv_iconst (v := 3) hx hb dX11_without_84 (by decide) ?_
              refine lv_iload hx hb dX11_without_85 (lv_at hl 1 rfl) ?_
              refine lv_imul hx hb dX11_without_87 (sv_i (v := 3) (by decide +kernel) ?_)
              refine lv_iload hx hb dX11_without_88 (lv_at hl 0 rfl) ?_
              refine lv_iadd hx hb dX11_without_90 (sv_i (v := 4) (by decide +kernel) ?_)
              refine tz_lald hx hb hK hT 1 rfl (by have := li_4; omega) dX11_without_91 (fun v30 e_v30 => ?_)
              clear e_v30
              refine lv_lmul hx hb dX11_without_92 (lv_topl (fun v31 e_v31 => ?_))
              refine lv_aload_n hx hb dX11_without_93 rfl (lv_at hl 5 rfl) ?_
              refine lv_iconst (v := 3) hx hb dX11_without_94 (by decide) ?_
              refine lv_iload hx hb dX11_without_95 (lv_at hl 3 rfl) ?_
              refine lv_imul hx hb dX11_without_97 (sv_i (v := 0) (by decide +kernel) ?_)
              refine lv_iload hx hb dX11_without_98 (lv_at hl 0 rfl) ?_
              refine lv_iadd hx hb dX11_without_100 (sv_i (v := 1) (by decide +kernel) ?_)
              refine tz_lald hx hb hK hT 1 rfl (by have := li_1; omega) dX11_without_101 (fun v32 e_v32 => ?_)
              clear e_v32
              refine lv_aload_n hx hb dX11_without_102 rfl (lv_at hl 5 rfl) ?_
              refine lv_iconst (v := 3) hx hb dX11_without_103 (by decide) ?_
              refine lv_iload hx hb dX11_without_104 (lv_at hl 1 rfl) ?_
              refine lv_imul hx hb dX11_without_106 (sv_i (v := 3) (by decide +kernel) ?_)
              refine lv_iload hx hb dX11_without_107 (lv_at hl 2 rfl) ?_
              refine lv_iadd hx hb dX11_without_109 (sv_i (v := 3) (by decide +kernel) ?_)
              refine tz_lald hx hb hK hT 1 rfl (by have := li_3; omega) dX11_without_110 (fun v33 e_v33 => ?_)
              clear e_v33
              refine lv_lmul hx hb dX11_without_111 (lv_topl (fun v34 e_v34 => ?_))
              refine lv_lsub hx hb dX11_without_112 (lv_topl (fun v35 e_v35 => ?_))
              exact tz_retL (B := B_cX11_without_7ab45 D k h0 h1 h2 h3 h4 h5 h6 h7 h8 h9 h10 h11 h12 h13 h14 h15 h16 h17 h18 h19 h20 h21 x2 x3 h0f0 h0f1 h0f2 h0f3 h0f4 h0f5 h0f8 h0f9 h0f17 h0f18 h0f19 h0f24 h0f25 h0f30 h0f31) (v := v35) hQ hx hb hr hlocks hS (Nat.le_of_ble_eq_true rfl) (Nat.le_of_ble_eq_true rfl) dX11_without_113 (hT)
        · skip
          have c_4 := ni_eq c_4 rfl li_2
          exfalso; omega
      · skip
        have c_3 := ni_eq c_3 rfl li_0
        refine lv_iconst (v := 1) hx hb dX11_without_25 (by decide) ?_
        refine lv_goto (tgt := 30) hx hb dX11_without_26 (by decide) ?_
        refine lv_istore (lv' := [(5, .int 1), (4, .int 0), (0, .ref h0), (1, .ref h1), (2, .int x2), (3, .int x3)]) hx hb dX11_without_30 hl (by decide) rfl (fun ls hl => ?_)
        refine lv_aload_n hx hb dX11_without_32 rfl (lv_at hl 2 rfl) ?_
        refine tz_get (ci := 8) (v := .int h0f0) (C := RX11) (F := TX11) (N := 36) hx hb hU iX11 hown hK hT 0 rfl rfl 0 (by decide) w785 (fun _ h9 => h9) rfl dX11_without_33 ?_
        refine lv_iconst (v := 2) hx hb dX11_without_36 (by decide) ?_
        refine lv_icmp_ne (tgt := 50) hx hb dX11_without_37 (by decide) (fun c_36 => ?_) (fun c_36 => ?_)
        · skip
          have c_36 := ni_ne c_36 rfl li_2
          refine lv_iload_n hx hb dX11_without_50 rfl (lv_at hl 4 rfl) ?_
          refine lv_iconst (v := 2) hx hb dX11_without_51 (by decide) ?_
          refine lv_icmp_ne (tgt := 59) hx hb dX11_without_52 (by decide) (fun c_37 => ?_) (fun c_37 => ?_)
          · skip
            have c_37 := ni_ne c_37 rfl li_2
            refine lv_iconst (v := 2) hx hb dX11_without_59 (by decide) ?_
            refine lv_istore (lv' := [(6, .int 2), (5, .int 1), (4, .int 0), (0, .ref h0), (1, .ref h1), (2, .int x2), (3, .int x3)]) hx hb dX11_without_60 hl (by decide) rfl (fun ls hl => ?_)
            refine lv_iload_n hx hb dX11_without_62 rfl (lv_at hl 6 rfl) ?_
            refine lv_iconst (v := 2) hx hb dX11_without_63 (by decide) ?_
            refine lv_icmp_ne (tgt := 71) hx hb dX11_without_64 (by decide) (fun c_38 => ?_) (fun c_38 => ?_)
            · skip
              have c_38 := ni_ne c_38 rfl li_2
              refine lv_iconst (v := 2) hx hb dX11_without_71 (by decide) ?_
              refine lv_istore (lv' := [(7, .int 2), (6, .int 2), (5, .int 1), (4, .int 0), (0, .ref h0), (1, .ref h1), (2, .int x2), (3, .int x3)]) hx hb dX11_without_72 hl (by decide) rfl (fun ls hl => ?_)
              refine lv_aload_n hx hb dX11_without_74 rfl (lv_at hl 5 rfl) ?_
              refine lv_iconst (v := 3) hx hb dX11_without_75 (by decide) ?_
              refine lv_iload hx hb dX11_without_76 (lv_at hl 3 rfl) ?_
              refine lv_imul hx hb dX11_without_78 (sv_i (v := 0) (by decide +kernel) ?_)
              refine lv_iload hx hb dX11_without_79 (lv_at hl 2 rfl) ?_
              refine lv_iadd hx hb dX11_without_81 (sv_i (v := 1) (by decide +kernel) ?_)
              refine tz_lald hx hb hK hT 1 rfl (by have := li_1; omega) dX11_without_82 (fun v39 e_v39 => ?_)
              clear e_v39
              refine lv_aload_n hx hb dX11_without_83 rfl (lv_at hl 5 rfl) ?_
              refine lv_iconst (v := 3) hx hb dX11_without_84 (by decide) ?_
              refine lv_iload hx hb dX11_without_85 (lv_at hl 1 rfl) ?_
              refine lv_imul hx hb dX11_without_87 (sv_i (v := 6) (by decide +kernel) ?_)
              refine lv_iload hx hb dX11_without_88 (lv_at hl 0 rfl) ?_
              refine lv_iadd hx hb dX11_without_90 (sv_i (v := 8) (by decide +kernel) ?_)
              refine tz_lald hx hb hK hT 1 rfl (by have := li_8; omega) dX11_without_91 (fun v40 e_v40 => ?_)
              clear e_v40
              refine lv_lmul hx hb dX11_without_92 (lv_topl (fun v41 e_v41 => ?_))
              refine lv_aload_n hx hb dX11_without_93 rfl (lv_at hl 5 rfl) ?_
              refine lv_iconst (v := 3) hx hb dX11_without_94 (by decide) ?_
              refine lv_iload hx hb dX11_without_95 (lv_at hl 3 rfl) ?_
              refine lv_imul hx hb dX11_without_97 (sv_i (v := 0) (by decide +kernel) ?_)
              refine lv_iload hx hb dX11_without_98 (lv_at hl 0 rfl) ?_
              refine lv_iadd hx hb dX11_without_100 (sv_i (v := 2) (by decide +kernel) ?_)
              refine tz_lald hx hb hK hT 1 rfl (by have := li_2; omega) dX11_without_101 (fun v42 e_v42 => ?_)
              clear e_v42
              refine lv_aload_n hx hb dX11_without_102 rfl (lv_at hl 5 rfl) ?_
              refine lv_iconst (v := 3) hx hb dX11_without_103 (by decide) ?_
              refine lv_iload hx hb dX11_without_104 (lv_at hl 1 rfl) ?_
              refine lv_imul hx hb dX11_without_106 (sv_i (v := 6) (by decide +kernel) ?_)
              refine lv_iload hx hb dX11_without_107 (lv_at hl 2 rfl) ?_
              refine lv_iadd hx hb dX11_without_109 (sv_i (v := 7) (by decide +kernel) ?_)
              refine tz_lald hx hb hK hT 1 rfl (by have := li_7; omega) dX11_without_110 (fun v43 e_v43 => ?_)
              clear e_v43
              refine lv_lmul hx hb dX11_without_111 (lv_topl (fun v44 e_v44 => ?_))
              refine lv_lsub hx hb dX11_without_112 (lv_topl (fun v45 e_v45 => ?_))
              exact tz_retL (B := B_cX11_without_7ab45 D k h0 h1 h2 h3 h4 h5 h6 h7 h8 h9 h10 h11 h12 h13 h14 h15 h16 h17 h18 h19 h20 h21 x2 x3 h0f0 h0f1 h0f2 h0f3 h0f4 h0f5 h0f8 h0f9 h0f17 h0f18 h0f19 h0f24 h0f25 h0f30 h0f31) (v := v45) hQ hx hb hr hlocks hS (Nat.le_of_ble_eq_true rfl) (Nat.le_of_ble_eq_true rfl) dX11_without_113 (hT)
            · skip
              have c_38 := ni_eq c_38 rfl li_2
              exfalso; omega
          · skip
            have c_37 := ni_eq c_37 rfl li_2
            refine lv_iconst (v := 1) hx hb dX11_without_55 (by decide) ?_
            refine lv_goto (tgt := 60) hx hb dX11_without_56 (by decide) ?_
            refine lv_istore (lv' := [(6, .int 1), (5, .int 1), (4, .int 0), (0, .ref h0), (1, .ref h1), (2, .int x2), (3, .int x3)]) hx hb dX11_without_60 hl (by decide) rfl (fun ls hl => ?_)
            refine lv_iload_n hx hb dX11_without_62 rfl (lv_at hl 6 rfl) ?_
            refine lv_iconst (v := 2) hx hb dX11_without_63 (by decide) ?_
            refine lv_icmp_ne (tgt := 71) hx hb dX11_without_64 (by decide) (fun c_46 => ?_) (fun c_46 => ?_)
            · skip
              have c_46 := ni_ne c_46 rfl li_2
              refine lv_iconst (v := 2) hx hb dX11_without_71 (by decide) ?_
              refine lv_istore (lv' := [(7, .int 2), (6, .int 1), (5, .int 1), (4, .int 0), (0, .ref h0), (1, .ref h1), (2, .int x2), (3, .int x3)]) hx hb dX11_without_72 hl (by decide) rfl (fun ls hl => ?_)
              refine lv_aload_n hx hb dX11_without_74 rfl (lv_at hl 5 rfl) ?_
              refine lv_iconst (v := 3) hx hb dX11_without_75 (by decide) ?_
              refine lv_iload hx hb dX11_without_76 (lv_at hl 3 rfl) ?_
              refine lv_imul hx hb dX11_without_78 (sv_i (v := 0) (by decide +kernel) ?_)
              refine lv_iload hx hb dX11_without_79 (lv_at hl 2 rfl) ?_
              refine lv_iadd hx hb dX11_without_81 (sv_i (v := 1) (by decide +kernel) ?_)
              refine tz_lald hx hb hK hT 1 rfl (by have := li_1; omega) dX11_without_82 (fun v47 e_v47 => ?_)
              clear e_v47
              refine lv_aload_n hx hb dX11_without_83 rfl (lv_at hl 5 rfl) ?_
              refine lv_iconst (v := 3) hx hb dX11_without_84 (by decide) ?_
              refine lv_iload hx hb dX11_without_85 (lv_at hl 1 rfl) ?_
              refine lv_imul hx hb dX11_without_87 (sv_i (v := 3) (by decide +kernel) ?_)
              refine lv_iload hx hb dX11_without_88 (lv_at hl 0 rfl) ?_
              refine lv_iadd hx hb dX11_without_90 (sv_i (v := 5) (by decide +kernel) ?_)
              refine tz_lald hx hb hK hT 1 rfl (by have := li_5; omega) dX11_without_91 (fun v48 e_v48 => ?_)
              clear e_v48
              refine lv_lmul hx hb dX11_without_92 (lv_topl (fun v49 e_v49 => ?_))
              refine lv_aload_n hx hb dX11_without_93 rfl (lv_at hl 5 rfl) ?_
              refine lv_iconst (v := 3) hx hb dX11_without_94 (by decide) ?_
              refine lv_iload hx hb dX11_without_95 (lv_at hl 3 rfl) ?_
              refine lv_imul hx hb dX11_without_97 (sv_i (v := 0) (by decide +kernel) ?_)
              refine lv_iload hx hb dX11_without_98 (lv_at hl 0 rfl) ?_
              refine lv_iadd hx hb dX11_without_100 (sv_i (v := 2) (by decide +kernel) ?_)
              refine tz_lald hx hb hK hT 1 rfl (by have := li_2; omega) dX11_without_101 (fun v50 e_v50 => ?_)
              clear e_v50
              refine lv_aload_n hx hb dX11_without_102 rfl (lv_at hl 5 rfl) ?_
              refine lv_iconst (v := 3) hx hb dX11_without_103 (by decide) ?_
              refine lv_iload hx hb dX11_without_104 (lv_at hl 1 rfl) ?_
              refine lv_imul hx hb dX11_without_106 (sv_i (v := 3) (by decide +kernel) ?_)
              refine lv_iload hx hb dX11_without_107 (lv_at hl 2 rfl) ?_
              refine lv_iadd hx hb dX11_without_109 (sv_i (v := 4) (by decide +kernel) ?_)
              refine tz_lald hx hb hK hT 1 rfl (by have := li_4; omega) dX11_without_110 (fun v51 e_v51 => ?_)
              clear e_v51
              refine lv_lmul hx hb dX11_without_111 (lv_topl (fun v52 e_v52 => ?_))
              refine lv_lsub hx hb dX11_without_112 (lv_topl (fun v53 e_v53 => ?_))
              exact tz_retL (B := B_cX11_without_7ab45 D k h0 h1 h2 h3 h4 h5 h6 h7 h8 h9 h10 h11 h12 h13 h14 h15 h16 h17 h18 h19 h20 h21 x2 x3 h0f0 h0f1 h0f2 h0f3 h0f4 h0f5 h0f8 h0f9 h0f17 h0f18 h0f19 h0f24 h0f25 h0f30 h0f31) (v := v53) hQ hx hb hr hlocks hS (Nat.le_of_ble_eq_true rfl) (Nat.le_of_ble_eq_true rfl) dX11_without_113 (hT)
            · skip
              have c_46 := ni_eq c_46 rfl li_2
              exfalso; omega
        · skip
          have c_36 := ni_eq c_36 rfl li_2
          exfalso; omega
    · skip
      have c_2 := ni_eq c_2 rfl li_0
      refine lv_iconst (v := 1) hx hb dX11_without_14 (by decide) ?_
      refine lv_goto (tgt := 19) hx hb dX11_without_15 (by decide) ?_
      refine lv_istore (lv' := [(4, .int 1), (0, .ref h0), (1, .ref h1), (2, .int x2), (3, .int x3)]) hx hb dX11_without_19 hl (by decide) rfl (fun ls hl => ?_)
      refine lv_iload_n hx hb dX11_without_21 rfl (lv_at hl 4 rfl) ?_
      refine lv_if_ne (tgt := 29) hx hb dX11_without_22 (by decide) (fun c_54 => ?_) (fun c_54 => ?_)
      · skip
        have c_54 := ni_ne c_54 rfl li_0
        refine lv_iconst (v := 0) hx hb dX11_without_29 (by decide) ?_
        refine lv_istore (lv' := [(5, .int 0), (4, .int 1), (0, .ref h0), (1, .ref h1), (2, .int x2), (3, .int x3)]) hx hb dX11_without_30 hl (by decide) rfl (fun ls hl => ?_)
        refine lv_aload_n hx hb dX11_without_32 rfl (lv_at hl 2 rfl) ?_
        refine tz_get (ci := 8) (v := .int h0f0) (C := RX11) (F := TX11) (N := 36) hx hb hU iX11 hown hK hT 0 rfl rfl 0 (by decide) w785 (fun _ h9 => h9) rfl dX11_without_33 ?_
        refine lv_iconst (v := 2) hx hb dX11_without_36 (by decide) ?_
        refine lv_icmp_ne (tgt := 50) hx hb dX11_without_37 (by decide) (fun c_55 => ?_) (fun c_55 => ?_)
        · skip
          have c_55 := ni_ne c_55 rfl li_2
          refine lv_iload_n hx hb dX11_without_50 rfl (lv_at hl 4 rfl) ?_
          refine lv_iconst (v := 2) hx hb dX11_without_51 (by decide) ?_
          refine lv_icmp_ne (tgt := 59) hx hb dX11_without_52 (by decide) (fun c_56 => ?_) (fun c_56 => ?_)
          · skip
            have c_56 := ni_ne c_56 rfl li_2
            refine lv_iconst (v := 2) hx hb dX11_without_59 (by decide) ?_
            refine lv_istore (lv' := [(6, .int 2), (5, .int 0), (4, .int 1), (0, .ref h0), (1, .ref h1), (2, .int x2), (3, .int x3)]) hx hb dX11_without_60 hl (by decide) rfl (fun ls hl => ?_)
            refine lv_iload_n hx hb dX11_without_62 rfl (lv_at hl 6 rfl) ?_
            refine lv_iconst (v := 2) hx hb dX11_without_63 (by decide) ?_
            refine lv_icmp_ne (tgt := 71) hx hb dX11_without_64 (by decide) (fun c_57 => ?_) (fun c_57 => ?_)
            · skip
              have c_57 := ni_ne c_57 rfl li_2
              refine lv_iconst (v := 2) hx hb dX11_without_71 (by decide) ?_
              refine lv_istore (lv' := [(7, .int 2), (6, .int 2), (5, .int 0), (4, .int 1), (0, .ref h0), (1, .ref h1), (2, .int x2), (3, .int x3)]) hx hb dX11_without_72 hl (by decide) rfl (fun ls hl => ?_)
              refine lv_aload_n hx hb dX11_without_74 rfl (lv_at hl 5 rfl) ?_
              refine lv_iconst (v := 3) hx hb dX11_without_75 (by decide) ?_
              refine lv_iload hx hb dX11_without_76 (lv_at hl 3 rfl) ?_
              refine lv_imul hx hb dX11_without_78 (sv_i (v := 3) (by decide +kernel) ?_)
              refine lv_iload hx hb dX11_without_79 (lv_at hl 2 rfl) ?_
              refine lv_iadd hx hb dX11_without_81 (sv_i (v := 3) (by decide +kernel) ?_)
              refine tz_lald hx hb hK hT 1 rfl (by have := li_3; omega) dX11_without_82 (fun v58 e_v58 => ?_)
              clear e_v58
              refine lv_aload_n hx hb dX11_without_83 rfl (lv_at hl 5 rfl) ?_
              refine lv_iconst (v := 3) hx hb dX11_without_84 (by decide) ?_
              refine lv_iload hx hb dX11_without_85 (lv_at hl 1 rfl) ?_
              refine lv_imul hx hb dX11_without_87 (sv_i (v := 6) (by decide +kernel) ?_)
              refine lv_iload hx hb dX11_without_88 (lv_at hl 0 rfl) ?_
              refine lv_iadd hx hb dX11_without_90 (sv_i (v := 8) (by decide +kernel) ?_)
              refine tz_lald hx hb hK hT 1 rfl (by have := li_8; omega) dX11_without_91 (fun v59 e_v59 => ?_)
              clear e_v59
              refine lv_lmul hx hb dX11_without_92 (lv_topl (fun v60 e_v60 => ?_))
              refine lv_aload_n hx hb dX11_without_93 rfl (lv_at hl 5 rfl) ?_
              refine lv_iconst (v := 3) hx hb dX11_without_94 (by decide) ?_
              refine lv_iload hx hb dX11_without_95 (lv_at hl 3 rfl) ?_
              refine lv_imul hx hb dX11_without_97 (sv_i (v := 3) (by decide +kernel) ?_)
              refine lv_iload hx hb dX11_without_98 (lv_at hl 0 rfl) ?_
              refine lv_iadd hx hb dX11_without_100 (sv_i (v := 5) (by decide +kernel) ?_)
              refine tz_lald hx hb hK hT 1 rfl (by have := li_5; omega) dX11_without_101 (fun v61 e_v61 => ?_)
              clear e_v61
              refine lv_aload_n hx hb dX11_without_102 rfl (lv_at hl 5 rfl) ?_
              refine lv_iconst (v := 3) hx hb dX11_without_103 (by decide) ?_
              refine lv_iload hx hb dX11_without_104 (lv_at hl 1 rfl) ?_
              refine lv_imul hx hb dX11_without_106 (sv_i (v := 6) (by decide +kernel) ?_)
              refine lv_iload hx hb dX11_without_107 (lv_at hl 2 rfl) ?_
              refine lv_iadd hx hb dX11_without_109 (sv_i (v := 6) (by decide +kernel) ?_)
              refine tz_lald hx hb hK hT 1 rfl (by have := li_6; omega) dX11_without_110 (fun v62 e_v62 => ?_)
              clear e_v62
              refine lv_lmul hx hb dX11_without_111 (lv_topl (fun v63 e_v63 => ?_))
              refine lv_lsub hx hb dX11_without_112 (lv_topl (fun v64 e_v64 => ?_))
              exact tz_retL (B := B_cX11_without_7ab45 D k h0 h1 h2 h3 h4 h5 h6 h7 h8 h9 h10 h11 h12 h13 h14 h15 h16 h17 h18 h19 h20 h21 x2 x3 h0f0 h0f1 h0f2 h0f3 h0f4 h0f5 h0f8 h0f9 h0f17 h0f18 h0f19 h0f24 h0f25 h0f30 h0f31) (v := v64) hQ hx hb hr hlocks hS (Nat.le_of_ble_eq_true rfl) (Nat.le_of_ble_eq_true rfl) dX11_without_113 (hT)
            · skip
              have c_57 := ni_eq c_57 rfl li_2
              refine lv_iconst (v := 1) hx hb dX11_without_67 (by decide) ?_
              refine lv_goto (tgt := 72) hx hb dX11_without_68 (by decide) ?_
              refine lv_istore (lv' := [(7, .int 1), (6, .int 2), (5, .int 0), (4, .int 1), (0, .ref h0), (1, .ref h1), (2, .int x2), (3, .int x3)]) hx hb dX11_without_72 hl (by decide) rfl (fun ls hl => ?_)
              refine lv_aload_n hx hb dX11_without_74 rfl (lv_at hl 5 rfl) ?_
              refine lv_iconst (v := 3) hx hb dX11_without_75 (by decide) ?_
              refine lv_iload hx hb dX11_without_76 (lv_at hl 3 rfl) ?_
              refine lv_imul hx hb dX11_without_78 (sv_i (v := 3) (by decide +kernel) ?_)
              refine lv_iload hx hb dX11_without_79 (lv_at hl 2 rfl) ?_
              refine lv_iadd hx hb dX11_without_81 (sv_i (v := 3) (by decide +kernel) ?_)
              refine tz_lald hx hb hK hT 1 rfl (by have := li_3; omega) dX11_without_82 (fun v65 e_v65 => ?_)
              clear e_v65
              refine lv_aload_n hx hb dX11_without_83 rfl (lv_at hl 5 rfl) ?_
              refine lv_iconst (v := 3) hx hb dX11_without_84 (by decide) ?_
              refine lv_iload hx hb dX11_without_85 (lv_at hl 1 rfl) ?_
              refine lv_imul hx hb dX11_without_87 (sv_i (v := 6) (by decide +kernel) ?_)
              refine lv_iload hx hb dX11_without_88 (lv_at hl 0 rfl) ?_
              refine lv_iadd hx hb dX11_without_90 (sv_i (v := 7) (by decide +kernel) ?_)
              refine tz_lald hx hb hK hT 1 rfl (by have := li_7; omega) dX11_without_91 (fun v66 e_v66 => ?_)
              clear e_v66
              refine lv_lmul hx hb dX11_without_92 (lv_topl (fun v67 e_v67 => ?_))
              refine lv_aload_n hx hb dX11_without_93 rfl (lv_at hl 5 rfl) ?_
              refine lv_iconst (v := 3) hx hb dX11_without_94 (by decide) ?_
              refine lv_iload hx hb dX11_without_95 (lv_at hl 3 rfl) ?_
              refine lv_imul hx hb dX11_without_97 (sv_i (v := 3) (by decide +kernel) ?_)
              refine lv_iload hx hb dX11_without_98 (lv_at hl 0 rfl) ?_
              refine lv_iadd hx hb dX11_without_100 (sv_i (v := 4) (by decide +kernel) ?_)
              refine tz_lald hx hb hK hT 1 rfl (by have := li_4; omega) dX11_without_101 (fun v68 e_v68 => ?_)
              clear e_v68
              refine lv_aload_n hx hb dX11_without_102 rfl (lv_at hl 5 rfl) ?_
              refine lv_iconst (v := 3) hx hb dX11_without_103 (by decide) ?_
              refine lv_iload hx hb dX11_without_104 (lv_at hl 1 rfl) ?_
              refine lv_imul hx hb dX11_without_106 (sv_i (v := 6) (by decide +kernel) ?_)
              refine lv_iload hx hb dX11_without_107 (lv_at hl 2 rfl) ?_
              refine lv_iadd hx hb dX11_without_109 (sv_i (v := 6) (by decide +kernel) ?_)
              refine tz_lald hx hb hK hT 1 rfl (by have := li_6; omega) dX11_without_110 (fun v69 e_v69 => ?_)
              clear e_v69
              refine lv_lmul hx hb dX11_without_111 (lv_topl (fun v70 e_v70 => ?_))
              refine lv_lsub hx hb dX11_without_112 (lv_topl (fun v71 e_v71 => ?_))
              exact tz_retL (B := B_cX11_without_7ab45 D k h0 h1 h2 h3 h4 h5 h6 h7 h8 h9 h10 h11 h12 h13 h14 h15 h16 h17 h18 h19 h20 h21 x2 x3 h0f0 h0f1 h0f2 h0f3 h0f4 h0f5 h0f8 h0f9 h0f17 h0f18 h0f19 h0f24 h0f25 h0f30 h0f31) (v := v71) hQ hx hb hr hlocks hS (Nat.le_of_ble_eq_true rfl) (Nat.le_of_ble_eq_true rfl) dX11_without_113 (hT)
          · skip
            have c_56 := ni_eq c_56 rfl li_2
            exfalso; omega
        · skip
          have c_55 := ni_eq c_55 rfl li_2
          exfalso; omega
      · skip
        have c_54 := ni_eq c_54 rfl li_0
        refine lv_iconst (v := 1) hx hb dX11_without_25 (by decide) ?_
        refine lv_goto (tgt := 30) hx hb dX11_without_26 (by decide) ?_
        refine lv_istore (lv' := [(5, .int 1), (4, .int 1), (0, .ref h0), (1, .ref h1), (2, .int x2), (3, .int x3)]) hx hb dX11_without_30 hl (by decide) rfl (fun ls hl => ?_)
        refine lv_aload_n hx hb dX11_without_32 rfl (lv_at hl 2 rfl) ?_
        refine tz_get (ci := 8) (v := .int h0f0) (C := RX11) (F := TX11) (N := 36) hx hb hU iX11 hown hK hT 0 rfl rfl 0 (by decide) w785 (fun _ h9 => h9) rfl dX11_without_33 ?_
        refine lv_iconst (v := 2) hx hb dX11_without_36 (by decide) ?_
        refine lv_icmp_ne (tgt := 50) hx hb dX11_without_37 (by decide) (fun c_72 => ?_) (fun c_72 => ?_)
        · skip
          have c_72 := ni_ne c_72 rfl li_2
          refine lv_iload_n hx hb dX11_without_50 rfl (lv_at hl 4 rfl) ?_
          refine lv_iconst (v := 2) hx hb dX11_without_51 (by decide) ?_
          refine lv_icmp_ne (tgt := 59) hx hb dX11_without_52 (by decide) (fun c_73 => ?_) (fun c_73 => ?_)
          · skip
            have c_73 := ni_ne c_73 rfl li_2
            refine lv_iconst (v := 2) hx hb dX11_without_59 (by decide) ?_
            refine lv_istore (lv' := [(6, .int 2), (5, .int 1), (4, .int 1), (0, .ref h0), (1, .ref h1), (2, .int x2), (3, .int x3)]) hx hb dX11_without_60 hl (by decide) rfl (fun ls hl => ?_)
            refine lv_iload_n hx hb dX11_without_62 rfl (lv_at hl 6 rfl) ?_
            refine lv_iconst (v := 2) hx hb dX11_without_63 (by decide) ?_
            refine lv_icmp_ne (tgt := 71) hx hb dX11_without_64 (by decide) (fun c_74 => ?_) (fun c_74 => ?_)
            · skip
              have c_74 := ni_ne c_74 rfl li_2
              refine lv_iconst (v := 2) hx hb dX11_without_71 (by decide) ?_
              refine lv_istore (lv' := [(7, .int 2), (6, .int 2), (5, .int 1), (4, .int 1), (0, .ref h0), (1, .ref h1), (2, .int x2), (3, .int x3)]) hx hb dX11_without_72 hl (by decide) rfl (fun ls hl => ?_)
              refine lv_aload_n hx hb dX11_without_74 rfl (lv_at hl 5 rfl) ?_
              refine lv_iconst (v := 3) hx hb dX11_without_75 (by decide) ?_
              refine lv_iload hx hb dX11_without_76 (lv_at hl 3 rfl) ?_
              refine lv_imul hx hb dX11_without_78 (sv_i (v := 3) (by decide +kernel) ?_)
              refine lv_iload hx hb dX11_without_79 (lv_at hl 2 rfl) ?_
              refine lv_iadd hx hb dX11_without_81 (sv_i (v := 4) (by decide +kernel) ?_)
              refine tz_lald hx hb hK hT 1 rfl (by have := li_4; omega) dX11_without_82 (fun v75 e_v75 => ?_)
              clear e_v75
              refine lv_aload_n hx hb dX11_without_83 rfl (lv_at hl 5 rfl) ?_
              refine lv_iconst (v := 3) hx hb dX11_without_84 (by decide) ?_
              refine lv_iload hx hb dX11_without_85 (lv_at hl 1 rfl) ?_
              refine lv_imul hx hb dX11_without_87 (sv_i (v := 6) (by decide +kernel) ?_)
              refine lv_iload hx hb dX11_without_88 (lv_at hl 0 rfl) ?_
              refine lv_iadd hx hb dX11_without_90 (sv_i (v := 8) (by decide +kernel) ?_)
              refine tz_lald hx hb hK hT 1 rfl (by have := li_8; omega) dX11_without_91 (fun v76 e_v76 => ?_)
              clear e_v76
              refine lv_lmul hx hb dX11_without_92 (lv_topl (fun v77 e_v77 => ?_))
              refine lv_aload_n hx hb dX11_without_93 rfl (lv_at hl 5 rfl) ?_
              refine lv_iconst (v := 3) hx hb dX11_without_94 (by decide) ?_
              refine lv_iload hx hb dX11_without_95 (lv_at hl 3 rfl) ?_
              refine lv_imul hx hb dX11_without_97 (sv_i (v := 3) (by decide +kernel) ?_)
              refine lv_iload hx hb dX11_without_98 (lv_at hl 0 rfl) ?_
              refine lv_iadd hx hb dX11_without_100 (sv_i (v := 5) (by decide +kernel) ?_)
              refine tz_lald hx hb hK hT 1 rfl (by have := li_5; omega) dX11_without_101 (fun v78 e_v78 => ?_)
              clear e_v78
              refine lv_aload_n hx hb dX11_without_102 rfl (lv_at hl 5 rfl) ?_
              refine lv_iconst (v := 3) hx hb dX11_without_103 (by decide) ?_
              refine lv_iload hx hb dX11_without_104 (lv_at hl 1 rfl) ?_
              refine lv_imul hx hb dX11_without_106 (sv_i (v := 6) (by decide +kernel) ?_)
              refine lv_iload hx hb dX11_without_107 (lv_at hl 2 rfl) ?_
              refine lv_iadd hx hb dX11_without_109 (sv_i (v := 7) (by decide +kernel) ?_)
              refine tz_lald hx hb hK hT 1 rfl (by have := li_7; omega) dX11_without_110 (fun v79 e_v79 => ?_)
              clear e_v79
              refine lv_lmul hx hb dX11_without_111 (lv_topl (fun v80 e_v80 => ?_))
              refine lv_lsub hx hb dX11_without_112 (lv_topl (fun v81 e_v81 => ?_))
              exact tz_retL (B := B_cX11_without_7ab45 D k h0 h1 h2 h3 h4 h5 h6 h7 h8 h9 h10 h11 h12 h13 h14 h15 h16 h17 h18 h19 h20 h21 x2 x3 h0f0 h0f1 h0f2 h0f3 h0f4 h0f5 h0f8 h0f9 h0f17 h0f18 h0f19 h0f24 h0f25 h0f30 h0f31) (v := v81) hQ hx hb hr hlocks hS (Nat.le_of_ble_eq_true rfl) (Nat.le_of_ble_eq_true rfl) dX11_without_113 (hT)
            · skip
              have c_74 := ni_eq c_74 rfl li_2
              exfalso; omega
          · skip
            have c_73 := ni_eq c_73 rfl li_2
            exfalso; omega
        · skip
          have c_72 := ni_eq c_72 rfl li_2
          exfalso; omega
  · skip
    have c_1 := ni_eq c_1 rfl li_1
    exfalso; omega
abbrev Rm_cX11_finds_682f6 : Room := { frames := 1, cells := 0, slots := 0, locals := 27 }
abbrev B_cX11_finds_682f6 (D : va_G) (k : Nat → ClassId) (h0 h1 h4 h7 h2 h3 h5 h6 h8 h9 h10 h11 h12 h13 h14 h15 h16 h17 h18 h19 h20 h21 : Nat) (x1 : Int32) (h0f0 : Int32) (h0f1 : Int32) (h0f2 : Int32) (h0f3 : Int32) (h0f4 : Int32) (h0f5 : Int32) (h0f8 : Int32) (h0f9 : Int32) (h0f17 : Int32) (h0f18 : Int32) (h0f19 : Int32) (h0f24 : Int32) (h0f25 : Int32) (h0f30 : Int32) (h0f31 : Int32) (A : Nat → Prop) (H : Heap) : Prop := TP D A [(h0, ob 8 [.int h0f0, .int h0f1, .int h0f2, .int h0f3, .int h0f4, .int h0f5, .ref h1, .ref h2, .int h0f8, .int h0f9, .ref h3, .ref h4, .ref h5, .ref h6, .ref h7, .ref h8, .ref h9, .int h0f17, .int h0f18, .int h0f19, .ref h10, .ref h11, .ref h12, .ref h13, .int h0f24, .int h0f25, .ref h14, .ref h15, .ref h16, .ref h17, .int h0f30, .int h0f31, .ref h18, .ref h19, .ref h20, .ref h21]), (h1, aI (k 0) 36 anI), (h4, aJ (k 1) 9 anJ), (h7, aJ (k 1) 4 anJ)] H
set_option maxHeartbeats 4000000 in
set_option maxRecDepth 100000 in
theorem cX11_finds_682f6 (l : Launch) (D : va_G) (k : Nat → ClassId) (sz : Nat) (h0 h1 h4 h7 h2 h3 h5 h6 h8 h9 h10 h11 h12 h13 h14 h15 h16 h17 h18 h19 h20 h21 : Nat) (x1 : Int32) (h0f0 : Int32) (h0f1 : Int32) (h0f2 : Int32) (h0f3 : Int32) (h0f4 : Int32) (h0f5 : Int32) (h0f8 : Int32) (h0f9 : Int32) (h0f17 : Int32) (h0f18 : Int32) (h0f19 : Int32) (h0f24 : Int32) (h0f25 : Int32) (h0f30 : Int32) (h0f31 : Int32) (b_x1 : 0 ≤ x1.toInt ∧ x1.toInt ≤ 3) (b_h0f0 : 1 ≤ h0f0.toInt ∧ h0f0.toInt ≤ 3) (b_h0f1 : 1 ≤ h0f1.toInt ∧ h0f1.toInt ≤ 4) (b_h0f3 : 0 ≤ h0f3.toInt ∧ h0f3.toInt ≤ 3) (b_h0f4 : 0 ≤ h0f4.toInt ∧ h0f4.toInt ≤ 4) (b_h0f8 : 0 ≤ h0f8.toInt ∧ h0f8.toInt ≤ 1) (b_h0f9 : 0 ≤ h0f9.toInt ∧ h0f9.toInt ≤ 1) (b_h0f17 : 0 ≤ h0f17.toInt ∧ h0f17.toInt ≤ 120) (b_h0f18 : 0 ≤ h0f18.toInt ∧ h0f18.toInt ≤ 120) (b_h0f19 : 0 ≤ h0f19.toInt ∧ h0f19.toInt ≤ 4) (b_h0f24 : 0 ≤ h0f24.toInt ∧ h0f24.toInt ≤ 100) (b_h0f25 : 0 ≤ h0f25.toInt ∧ h0f25.toInt ≤ 1) (b_h0f30 : 0 ≤ h0f30.toInt ∧ h0f30.toInt ≤ 60) (b_h0f31 : 0 ≤ h0f31.toInt ∧ h0f31.toInt ≤ 1) (i_0 : h0f8.toInt ≤ h0f3.toInt) (i_1 : h0f9.toInt ≤ h0f24.toInt) : Met l yX11_finds (Cond.code yX11_finds cX11_finds 4 none :: uw) Rm_cX11_finds_682f6 (pT D k sz [.ref h0, .int x1] [(h0, ob 8 [.int h0f0, .int h0f1, .int h0f2, .int h0f3, .int h0f4, .int h0f5, .ref h1, .ref h2, .int h0f8, .int h0f9, .ref h3, .ref h4, .ref h5, .ref h6, .ref h7, .ref h8, .ref h9, .int h0f17, .int h0f18, .int h0f19, .ref h10, .ref h11, .ref h12, .ref h13, .int h0f24, .int h0f25, .ref h14, .ref h15, .ref h16, .ref h17, .int h0f30, .int h0f31, .ref h18, .ref h19, .ref h20, .ref h21]), (h1, aI (k 0) 36 anI), (h4, aJ (k 1) 9 anJ), (h7, aJ (k 1) 4 anJ)]) (qV (B_cX11_finds_682f6 D k h0 h1 h4 h7 h2 h3 h5 h6 h8 h9 h10 h11 h12 h13 h14 h15 h16 h17 h18 h19 h20 h21 x1 h0f0 h0f1 h0f2 h0f3 h0f4 h0f5 h0f8 h0f9 h0f17 h0f18 h0f19 h0f24 h0f25 h0f30 h0f31 (zA [h0, h1, h4, h7] sz)) (zA [h0, h1, h4, h7] sz)) 0 0 (zA [h0, h1, h4, h7] sz) := by
  refine tz_begin (as := [h0, h1, h4, h7]) (Qc := fun A => qV (B_cX11_finds_682f6 D k h0 h1 h4 h7 h2 h3 h5 h6 h8 h9 h10 h11 h12 h13 h14 h15 h16 h17 h18 h19 h20 h21 x1 h0f0 h0f1 h0f2 h0f3 h0f4 h0f5 h0f8 h0f9 h0f17 h0f18 h0f19 h0f24 h0f25 h0f30 h0f31 A) A) (by decide +kernel) rfl (Nat.le_of_ble_eq_true rfl) ?_
  intro p e s m args below meth c ls A Q hx hb hr hml hown hlocks hin hU hK hT hS hA hl hQ
  have hl : lv_has ls 4 [(0, .ref h0), (1, .int x1)] := hl
  have hT : TP D A [(h0, ob 8 [.int h0f0, .int h0f1, .int h0f2, .int h0f3, .int h0f4, .int h0f5, .ref h1, .ref h2, .int h0f8, .int h0f9, .ref h3, .ref h4, .ref h5, .ref h6, .ref h7, .ref h8, .ref h9, .int h0f17, .int h0f18, .int h0f19, .ref h10, .ref h11, .ref h12, .ref h13, .int h0f24, .int h0f25, .ref h14, .ref h15, .ref h16, .ref h17, .int h0f30, .int h0f31, .ref h18, .ref h19, .ref h20, .ref h21]), (h1, aI (k 0) 36 anI), (h4, aJ (k 1) 9 anJ), (h7, aJ (k 1) 4 anJ)] s.heap := hT
  refine lv_aload_n hx hb dX11_finds_0 rfl (lv_at hl 0 rfl) ?_
  refine lv_iload_n hx hb dX11_finds_1 rfl (lv_at hl 1 rfl) ?_
  refine lv_aload_n hx hb dX11_finds_2 rfl (lv_at hl 0 rfl) ?_
  refine tz_get (ci := 8) (v := .ref h4) (C := RX11) (F := TX11) (N := 36) hx hb hU iX11 hown hK hT 0 rfl rfl 11 (by decide) w796 (fun _ h9 => h9) rfl dX11_finds_3 ?_
  refine tcV (Tc := [(h0, ob 8 [.int h0f0, .int h0f1, .int h0f2, .int h0f3, .int h0f4, .int h0f5, .ref h1, .ref h2, .int h0f8, .int h0f9, .ref h3, .ref h4, .ref h5, .ref h6, .ref h7, .ref h8, .ref h9, .int h0f17, .int h0f18, .int h0f19, .ref h10, .ref h11, .ref h12, .ref h13, .int h0f24, .int h0f25, .ref h14, .ref h15, .ref h16, .ref h17, .int h0f30, .int h0f31, .ref h18, .ref h19, .ref h20, .ref h21]), (h4, aJ (k 1) 9 anJ), (h1, aI (k 0) 36 anI)]) (Tr := [(h7, aJ (k 1) 4 anJ)]) (as := [h0, h4, h1]) (zcV (q0 := 0) (ci := 8) (As := [.int x1, .ref h4]) (rest := []) (Tc := [(h0, ob 8 [.int h0f0, .int h0f1, .int h0f2, .int h0f3, .int h0f4, .int h0f5, .ref h1, .ref h2, .int h0f8, .int h0f9, .ref h3, .ref h4, .ref h5, .ref h6, .ref h7, .ref h8, .ref h9, .int h0f17, .int h0f18, .int h0f19, .ref h10, .ref h11, .ref h12, .ref h13, .int h0f24, .int h0f25, .ref h14, .ref h15, .ref h16, .ref h17, .int h0f30, .int h0f31, .ref h18, .ref h19, .ref h20, .ref h21]), (h4, aJ (k 1) 9 anJ), (h1, aI (k 0) 36 anI)]) hx hb hml hown hU hK hT rfl rfl [0, 2, 1] rfl (by decide) (cX11_takes_35579 l D k _ h0 h4 h1 h2 h3 h5 h6 h7 h8 h9 h10 h11 h12 h13 h14 h15 h16 h17 h18 h19 h20 h21 x1 h0f0 h0f1 h0f2 h0f3 h0f4 h0f5 h0f8 h0f9 h0f17 h0f18 h0f19 h0f24 h0f25 h0f30 h0f31 (by omega) (by omega) (by omega) (by omega) (by omega) (by omega) (by omega) (by omega) (by omega) (by omega) (by omega) (by omega) (by omega) (by omega) (by omega) (by omega)) w939 w936 w938 w32 w72 hdX11_takes ⟨rfl, rfl⟩ ⟨Nat.le_of_ble_eq_true rfl, Nat.le_of_ble_eq_true rfl⟩ rfl hl.1 (Nat.le_of_ble_eq_true rfl) dX11_finds_6 ⟨Nat.le_of_ble_eq_true rfl, Nat.le_of_ble_eq_true rfl⟩) hT hS hA [0, 2, 1] [3] rfl rfl rfl (by decide) (by decide) (fun H locs hB J hS => ?_)
  have hT1 := hB
  have hT := J _ hT1
  have hT : TP D A [(h7, aJ (k 1) 4 anJ), (h0, ob 8 [.int h0f0, .int h0f1, .int h0f2, .int h0f3, .int h0f4, .int h0f5, .ref h1, .ref h2, .int h0f8, .int h0f9, .ref h3, .ref h4, .ref h5, .ref h6, .ref h7, .ref h8, .ref h9, .int h0f17, .int h0f18, .int h0f19, .ref h10, .ref h11, .ref h12, .ref h13, .int h0f24, .int h0f25, .ref h14, .ref h15, .ref h16, .ref h17, .int h0f30, .int h0f31, .ref h18, .ref h19, .ref h20, .ref h21]), (h4, aJ (k 1) 9 anJ), (h1, aI (k 0) 36 anI)] H := hT
  refine lv_aload_n hx hb dX11_finds_9 rfl (lv_at hl 0 rfl) ?_
  refine tz_get (ci := 8) (v := .ref h4) (C := RX11) (F := TX11) (N := 36) hx hb hU iX11 hown hK hT 1 rfl rfl 11 (by decide) w796 (fun _ h9 => h9) rfl dX11_finds_10 ?_
  refine lv_iconst (v := 0) hx hb dX11_finds_13 (by decide) ?_
  refine tz_lald hx hb hK hT 2 rfl (by have := li_0; omega) dX11_finds_14 (fun v2 e_v2 => ?_)
  clear e_v2
  refine lv_aload_n hx hb dX11_finds_15 rfl (lv_at hl 0 rfl) ?_
  refine tz_get (ci := 8) (v := .ref h4) (C := RX11) (F := TX11) (N := 36) hx hb hU iX11 hown hK hT 1 rfl rfl 11 (by decide) w796 (fun _ h9 => h9) rfl dX11_finds_16 ?_
  refine lv_iconst (v := 4) hx hb dX11_finds_19 (by decide) ?_
  refine tz_lald hx hb hK hT 2 rfl (by have := li_4; omega) dX11_finds_20 (fun v3 e_v3 => ?_)
  clear e_v3
  refine lv_ladd hx hb dX11_finds_21 (lv_topl (fun v4 e_v4 => ?_))
  refine lv_aload_n hx hb dX11_finds_22 rfl (lv_at hl 0 rfl) ?_
  refine tz_get (ci := 8) (v := .ref h4) (C := RX11) (F := TX11) (N := 36) hx hb hU iX11 hown hK hT 1 rfl rfl 11 (by decide) w796 (fun _ h9 => h9) rfl dX11_finds_23 ?_
  refine lv_bipush (v := 8) hx hb dX11_finds_26 (by decide) ?_
  refine tz_lald hx hb hK hT 2 rfl (by have := li_8; omega) dX11_finds_28 (fun v5 e_v5 => ?_)
  clear e_v5
  refine lv_ladd hx hb dX11_finds_29 (lv_topl (fun v6 e_v6 => ?_))
  refine lv_lstore_n (lv' := [(2, .long v6), (0, .ref h0), (1, .int x1)]) hx hb dX11_finds_30 rfl hl (by decide) rfl (fun ls hl => ?_)
  refine lv_aload_n hx hb dX11_finds_31 rfl (lv_at hl 1 rfl) ?_
  refine tz_get (ci := 8) (v := .ref h7) (C := RX11) (F := TX11) (N := 36) hx hb hU iX11 hown hK hT 1 rfl rfl 14 (by decide) w799 (fun _ h9 => h9) rfl dX11_finds_32 ?_
  refine lv_iconst (v := 0) hx hb dX11_finds_35 (by decide) ?_
  refine lv_aload_n hx hb dX11_finds_36 rfl (lv_at hl 1 rfl) ?_
  refine tz_get (ci := 8) (v := .int h0f0) (C := RX11) (F := TX11) (N := 36) hx hb hU iX11 hown hK hT 1 rfl rfl 0 (by decide) w785 (fun _ h9 => h9) rfl dX11_finds_37 ?_
  refine lv_iconst (v := 2) hx hb dX11_finds_40 (by decide) ?_
  refine lv_irem hx hb dX11_finds_41 (by decide +kernel) (lv_topi (fun v7 e_v7 => ?_))
  have e_v7 := ai_rem e_v7 rfl li_2 (by omega)
  refine lv_if_ne (tgt := 56) hx hb dX11_finds_42 (by decide) (fun c_8 => ?_) (fun c_8 => ?_)
  · skip
    have c_8 := ni_ne c_8 rfl li_0
    refine lv_aload_n hx hb dX11_finds_56 rfl (lv_at hl 1 rfl) ?_
    refine lv_aload_n hx hb dX11_finds_57 rfl (lv_at hl 1 rfl) ?_
    refine tz_get (ci := 8) (v := .ref h4) (C := RX11) (F := TX11) (N := 36) hx hb hU iX11 hown hK hT 1 rfl rfl 11 (by decide) w796 (fun _ h9 => h9) rfl dX11_finds_58 ?_
    refine tcL (Tc := [(h0, ob 8 [.int h0f0, .int h0f1, .int h0f2, .int h0f3, .int h0f4, .int h0f5, .ref h1, .ref h2, .int h0f8, .int h0f9, .ref h3, .ref h4, .ref h5, .ref h6, .ref h7, .ref h8, .ref h9, .int h0f17, .int h0f18, .int h0f19, .ref h10, .ref h11, .ref h12, .ref h13, .int h0f24, .int h0f25, .ref h14, .ref h15, .ref h16, .ref h17, .int h0f30, .int h0f31, .ref h18, .ref h19, .ref h20, .ref h21]), (h4, aJ (k 1) 9 anJ)]) (Tr := [(h7, aJ (k 1) 4 anJ), (h1, aI (k 0) 36 anI)]) (as := [h0, h4]) (zcV (q0 := 1) (ci := 8) (As := [.ref h4]) (rest := [.int 0, .ref h7]) (Tc := [(h0, ob 8 [.int h0f0, .int h0f1, .int h0f2, .int h0f3, .int h0f4, .int h0f5, .ref h1, .ref h2, .int h0f8, .int h0f9, .ref h3, .ref h4, .ref h5, .ref h6, .ref h7, .ref h8, .ref h9, .int h0f17, .int h0f18, .int h0f19, .ref h10, .ref h11, .ref h12, .ref h13, .int h0f24, .int h0f25, .ref h14, .ref h15, .ref h16, .ref h17, .int h0f30, .int h0f31, .ref h18, .ref h19, .ref h20, .ref h21]), (h4, aJ (k 1) 9 anJ)]) hx hb hml hown hU hK hT rfl rfl [1, 2] rfl (by decide) (cX11_det_9ae4b l D k _ h0 h4 h1 h2 h3 h5 h6 h7 h8 h9 h10 h11 h12 h13 h14 h15 h16 h17 h18 h19 h20 h21 h0f0 h0f1 h0f2 h0f3 h0f4 h0f5 h0f8 h0f9 h0f17 h0f18 h0f19 h0f24 h0f25 h0f30 h0f31 (by omega) (by omega) (by omega) (by omega) (by omega) (by omega) (by omega) (by omega) (by omega) (by omega) (by omega) (by omega) (by omega) (by omega) (by omega)) w952 w949 w951 w35 w72 hdX11_det ⟨rfl, rfl⟩ ⟨Nat.le_of_ble_eq_true rfl, Nat.le_of_ble_eq_true rfl⟩ rfl hl.1 (Nat.le_of_ble_eq_true rfl) dX11_finds_61 ⟨Nat.le_of_ble_eq_true rfl, Nat.le_of_ble_eq_true rfl⟩) hT hS hA [1, 2] [0, 3] rfl rfl rfl (by decide) (by decide) (fun r9 H locs hB J hS => ?_)
    have hT1 := hB
    have hT := J _ hT1
    have hT : TP D A [(h7, aJ (k 1) 4 anJ), (h1, aI (k 0) 36 anI), (h0, ob 8 [.int h0f0, .int h0f1, .int h0f2, .int h0f3, .int h0f4, .int h0f5, .ref h1, .ref h2, .int h0f8, .int h0f9, .ref h3, .ref h4, .ref h5, .ref h6, .ref h7, .ref h8, .ref h9, .int h0f17, .int h0f18, .int h0f19, .ref h10, .ref h11, .ref h12, .ref h13, .int h0f24, .int h0f25, .ref h14, .ref h15, .ref h16, .ref h17, .int h0f30, .int h0f31, .ref h18, .ref h19, .ref h20, .ref h21]), (h4, aJ (k 1) 9 anJ)] H := hT
    refine lv_lneg hx hb dX11_finds_64 (lv_topl (fun v10 e_v10 => ?_))
    have e_v10 := al_negz e_v10
    refine tz_last hx hb hK hT hS 0 rfl (by have := li_0; omega) (fun _ _ => trivial) dX11_finds_65 (fun H locs hT hS => ?_)
    refine lv_aload_n hx hb dX11_finds_66 rfl (lv_at hl 1 rfl) ?_
    refine tz_get (ci := 8) (v := .ref h7) (C := RX11) (F := TX11) (N := 36) hx hb hU iX11 hown hK hT 2 rfl rfl 14 (by decide) w799 (fun _ h9 => h9) rfl dX11_finds_67 ?_
    refine lv_iconst (v := 1) hx hb dX11_finds_70 (by decide) ?_
    refine lv_aload_n hx hb dX11_finds_71 rfl (lv_at hl 1 rfl) ?_
    refine tz_get (ci := 8) (v := .int h0f0) (C := RX11) (F := TX11) (N := 36) hx hb hU iX11 hown hK hT 2 rfl rfl 0 (by decide) w785 (fun _ h9 => h9) rfl dX11_finds_72 ?_
    refine lv_iconst (v := 1) hx hb dX11_finds_75 (by decide) ?_
    refine lv_icmp_ne (tgt := 83) hx hb dX11_finds_76 (by decide) (fun c_11 => ?_) (fun c_11 => ?_)
    · skip
      have c_11 := ni_ne c_11 rfl li_1
      refine lv_aload_n hx hb dX11_finds_83 rfl (lv_at hl 1 rfl) ?_
      refine tz_get (ci := 8) (v := .int h0f0) (C := RX11) (F := TX11) (N := 36) hx hb hU iX11 hown hK hT 2 rfl rfl 0 (by decide) w785 (fun _ h9 => h9) rfl dX11_finds_84 ?_
      refine lv_iconst (v := 2) hx hb dX11_finds_87 (by decide) ?_
      refine lv_icmp_ne (tgt := 96) hx hb dX11_finds_88 (by decide) (fun c_12 => ?_) (fun c_12 => ?_)
      · skip
        have c_12 := ni_ne c_12 rfl li_2
        refine lv_aload_n hx hb dX11_finds_96 rfl (lv_at hl 1 rfl) ?_
        refine lv_aload_n hx hb dX11_finds_97 rfl (lv_at hl 1 rfl) ?_
        refine tz_get (ci := 8) (v := .ref h4) (C := RX11) (F := TX11) (N := 36) hx hb hU iX11 hown hK hT 2 rfl rfl 11 (by decide) w796 (fun _ h9 => h9) rfl dX11_finds_98 ?_
        refine lv_iconst (v := 0) hx hb dX11_finds_101 (by decide) ?_
        refine lv_iconst (v := 0) hx hb dX11_finds_102 (by decide) ?_
        have q_q14 := li_0
        have q_q15 := li_0
        refine tcL (Tc := [(h0, ob 8 [.int h0f0, .int h0f1, .int h0f2, .int h0f3, .int h0f4, .int h0f5, .ref h1, .ref h2, .int h0f8, .int h0f9, .ref h3, .ref h4, .ref h5, .ref h6, .ref h7, .ref h8, .ref h9, .int h0f17, .int h0f18, .int h0f19, .ref h10, .ref h11, .ref h12, .ref h13, .int h0f24, .int h0f25, .ref h14, .ref h15, .ref h16, .ref h17, .int h0f30, .int h0f31, .ref h18, .ref h19, .ref h20, .ref h21]), (h4, aJ (k 1) 9 anJ)]) (Tr := [(h7, aJ (k 1) 4 anJ), (h1, aI (k 0) 36 anI)]) (as := [h0, h4]) (zcV (q0 := 2) (ci := 8) (As := [.ref h4, .int 0, .int 0]) (rest := [.int 1, .ref h7]) (Tc := [(h0, ob 8 [.int h0f0, .int h0f1, .int h0f2, .int h0f3, .int h0f4, .int h0f5, .ref h1, .ref h2, .int h0f8, .int h0f9, .ref h3, .ref h4, .ref h5, .ref h6, .ref h7, .ref h8, .ref h9, .int h0f17, .int h0f18, .int h0f19, .ref h10, .ref h11, .ref h12, .ref h13, .int h0f24, .int h0f25, .ref h14, .ref h15, .ref h16, .ref h17, .int h0f30, .int h0f31, .ref h18, .ref h19, .ref h20, .ref h21]), (h4, aJ (k 1) 9 anJ)]) hx hb hml hown hU hK hT rfl rfl [2, 3] rfl (by decide) (cX11_without_7ab45 l D k _ h0 h4 h1 h2 h3 h5 h6 h7 h8 h9 h10 h11 h12 h13 h14 h15 h16 h17 h18 h19 h20 h21 (0) (0) h0f0 h0f1 h0f2 h0f3 h0f4 h0f5 h0f8 h0f9 h0f17 h0f18 h0f19 h0f24 h0f25 h0f30 h0f31 (by have := li_0; omega) (by have := li_0; omega) (by omega) (by omega) (by omega) (by omega) (by omega) (by omega) (by omega) (by omega) (by omega) (by omega) (by omega) (by omega) (by omega) (by have := li_0; have := li_0; omega) (by have := li_0; have := li_0; omega)) w948 w945 w947 w34 w72 hdX11_without ⟨rfl, rfl⟩ ⟨Nat.le_of_ble_eq_true rfl, Nat.le_of_ble_eq_true rfl⟩ rfl hl.1 (Nat.le_of_ble_eq_true rfl) dX11_finds_103 ⟨Nat.le_of_ble_eq_true rfl, Nat.le_of_ble_eq_true rfl⟩) hT hS hA [2, 3] [0, 1] rfl rfl rfl (by decide) (by decide) (fun r13 H locs hB J hS => ?_)
        have hT1 := hB
        have hT := J _ hT1
        have hT : TP D A [(h7, aJ (k 1) 4 anJ), (h1, aI (k 0) 36 anI), (h0, ob 8 [.int h0f0, .int h0f1, .int h0f2, .int h0f3, .int h0f4, .int h0f5, .ref h1, .ref h2, .int h0f8, .int h0f9, .ref h3, .ref h4, .ref h5, .ref h6, .ref h7, .ref h8, .ref h9, .int h0f17, .int h0f18, .int h0f19, .ref h10, .ref h11, .ref h12, .ref h13, .int h0f24, .int h0f25, .ref h14, .ref h15, .ref h16, .ref h17, .int h0f30, .int h0f31, .ref h18, .ref h19, .ref h20, .ref h21]), (h4, aJ (k 1) 9 anJ)] H := hT
        refine lv_aload_n hx hb dX11_finds_106 rfl (lv_at hl 1 rfl) ?_
        refine lv_aload_n hx hb dX11_finds_107 rfl (lv_at hl 1 rfl) ?_
        refine tz_get (ci := 8) (v := .ref h4) (C := RX11) (F := TX11) (N := 36) hx hb hU iX11 hown hK hT 2 rfl rfl 11 (by decide) w796 (fun _ h9 => h9) rfl dX11_finds_108 ?_
        refine lv_iconst (v := 1) hx hb dX11_finds_111 (by decide) ?_
        refine lv_iconst (v := 1) hx hb dX11_finds_112 (by decide) ?_
        have q_q17 := li_1
        have q_q18 := li_1
        refine tcL (Tc := [(h0, ob 8 [.int h0f0, .int h0f1, .int h0f2, .int h0f3, .int h0f4, .int h0f5, .ref h1, .ref h2, .int h0f8, .int h0f9, .ref h3, .ref h4, .ref h5, .ref h6, .ref h7, .ref h8, .ref h9, .int h0f17, .int h0f18, .int h0f19, .ref h10, .ref h11, .ref h12, .ref h13, .int h0f24, .int h0f25, .ref h14, .ref h15, .ref h16, .ref h17, .int h0f30, .int h0f31, .ref h18, .ref h19, .ref h20, .ref h21]), (h4, aJ (k 1) 9 anJ)]) (Tr := [(h7, aJ (k 1) 4 anJ), (h1, aI (k 0) 36 anI)]) (as := [h0, h4]) (zcV (q0 := 2) (ci := 8) (As := [.ref h4, .int 1, .int 1]) (rest := [.long r13, .int 1, .ref h7]) (Tc := [(h0, ob 8 [.int h0f0, .int h0f1, .int h0f2, .int h0f3, .int h0f4, .int h0f5, .ref h1, .ref h2, .int h0f8, .int h0f9, .ref h3, .ref h4, .ref h5, .ref h6, .ref h7, .ref h8, .ref h9, .int h0f17, .int h0f18, .int h0f19, .ref h10, .ref h11, .ref h12, .ref h13, .int h0f24, .int h0f25, .ref h14, .ref h15, .ref h16, .ref h17, .int h0f30, .int h0f31, .ref h18, .ref h19, .ref h20, .ref h21]), (h4, aJ (k 1) 9 anJ)]) hx hb hml hown hU hK hT rfl rfl [2, 3] rfl (by decide) (cX11_without_7ab45 l D k _ h0 h4 h1 h2 h3 h5 h6 h7 h8 h9 h10 h11 h12 h13 h14 h15 h16 h17 h18 h19 h20 h21 (1) (1) h0f0 h0f1 h0f2 h0f3 h0f4 h0f5 h0f8 h0f9 h0f17 h0f18 h0f19 h0f24 h0f25 h0f30 h0f31 (by have := li_1; omega) (by have := li_1; omega) (by omega) (by omega) (by omega) (by omega) (by omega) (by omega) (by omega) (by omega) (by omega) (by omega) (by omega) (by omega) (by omega) (by have := li_1; have := li_1; omega) (by have := li_1; have := li_1; omega)) w948 w945 w947 w34 w72 hdX11_without ⟨rfl, rfl⟩ ⟨Nat.le_of_ble_eq_true rfl, Nat.le_of_ble_eq_true rfl⟩ rfl hl.1 (Nat.le_of_ble_eq_true rfl) dX11_finds_113 ⟨Nat.le_of_ble_eq_true rfl, Nat.le_of_ble_eq_true rfl⟩) hT hS hA [2, 3] [0, 1] rfl rfl rfl (by decide) (by decide) (fun r16 H locs hB J hS => ?_)
        have hT1 := hB
        have hT := J _ hT1
        have hT : TP D A [(h7, aJ (k 1) 4 anJ), (h1, aI (k 0) 36 anI), (h0, ob 8 [.int h0f0, .int h0f1, .int h0f2, .int h0f3, .int h0f4, .int h0f5, .ref h1, .ref h2, .int h0f8, .int h0f9, .ref h3, .ref h4, .ref h5, .ref h6, .ref h7, .ref h8, .ref h9, .int h0f17, .int h0f18, .int h0f19, .ref h10, .ref h11, .ref h12, .ref h13, .int h0f24, .int h0f25, .ref h14, .ref h15, .ref h16, .ref h17, .int h0f30, .int h0f31, .ref h18, .ref h19, .ref h20, .ref h21]), (h4, aJ (k 1) 9 anJ)] H := hT
        refine lv_ladd hx hb dX11_finds_116 (lv_topl (fun v19 e_v19 => ?_))
        refine lv_aload_n hx hb dX11_finds_117 rfl (lv_at hl 1 rfl) ?_
        refine lv_aload_n hx hb dX11_finds_118 rfl (lv_at hl 1 rfl) ?_
        refine tz_get (ci := 8) (v := .ref h4) (C := RX11) (F := TX11) (N := 36) hx hb hU iX11 hown hK hT 2 rfl rfl 11 (by decide) w796 (fun _ h9 => h9) rfl dX11_finds_119 ?_
        refine lv_iconst (v := 2) hx hb dX11_finds_122 (by decide) ?_
        refine lv_iconst (v := 2) hx hb dX11_finds_123 (by decide) ?_
        have q_q21 := li_2
        have q_q22 := li_2
        refine tcL (Tc := [(h0, ob 8 [.int h0f0, .int h0f1, .int h0f2, .int h0f3, .int h0f4, .int h0f5, .ref h1, .ref h2, .int h0f8, .int h0f9, .ref h3, .ref h4, .ref h5, .ref h6, .ref h7, .ref h8, .ref h9, .int h0f17, .int h0f18, .int h0f19, .ref h10, .ref h11, .ref h12, .ref h13, .int h0f24, .int h0f25, .ref h14, .ref h15, .ref h16, .ref h17, .int h0f30, .int h0f31, .ref h18, .ref h19, .ref h20, .ref h21]), (h4, aJ (k 1) 9 anJ)]) (Tr := [(h7, aJ (k 1) 4 anJ), (h1, aI (k 0) 36 anI)]) (as := [h0, h4]) (zcV (q0 := 2) (ci := 8) (As := [.ref h4, .int 2, .int 2]) (rest := [.long v19, .int 1, .ref h7]) (Tc := [(h0, ob 8 [.int h0f0, .int h0f1, .int h0f2, .int h0f3, .int h0f4, .int h0f5, .ref h1, .ref h2, .int h0f8, .int h0f9, .ref h3, .ref h4, .ref h5, .ref h6, .ref h7, .ref h8, .ref h9, .int h0f17, .int h0f18, .int h0f19, .ref h10, .ref h11, .ref h12, .ref h13, .int h0f24, .int h0f25, .ref h14, .ref h15, .ref h16, .ref h17, .int h0f30, .int h0f31, .ref h18, .ref h19, .ref h20, .ref h21]), (h4, aJ (k 1) 9 anJ)]) hx hb hml hown hU hK hT rfl rfl [2, 3] rfl (by decide) (cX11_without_7ab45 l D k _ h0 h4 h1 h2 h3 h5 h6 h7 h8 h9 h10 h11 h12 h13 h14 h15 h16 h17 h18 h19 h20 h21 (2) (2) h0f0 h0f1 h0f2 h0f3 h0f4 h0f5 h0f8 h0f9 h0f17 h0f18 h0f19 h0f24 h0f25 h0f30 h0f31 (by have := li_2; omega) (by have := li_2; omega) (by omega) (by omega) (by omega) (by omega) (by omega) (by omega) (by omega) (by omega) (by omega) (by omega) (by omega) (by omega) (by omega) (by have := li_2; have := li_2; omega) (by have := li_2; have := li_2; omega)) w948 w945 w947 w34 w72 hdX11_without ⟨rfl, rfl⟩ ⟨Nat.le_of_ble_eq_true rfl, Nat.le_of_ble_eq_true rfl⟩ rfl hl.1 (Nat.le_of_ble_eq_true rfl) dX11_finds_124 ⟨Nat.le_of_ble_eq_true rfl, Nat.le_of_ble_eq_true rfl⟩) hT hS hA [2, 3] [0, 1] rfl rfl rfl (by decide) (by decide) (fun r20 H locs hB J hS => ?_)
        have hT1 := hB
        have hT := J _ hT1
        have hT : TP D A [(h7, aJ (k 1) 4 anJ), (h1, aI (k 0) 36 anI), (h0, ob 8 [.int h0f0, .int h0f1, .int h0f2, .int h0f3, .int h0f4, .int h0f5, .ref h1, .ref h2, .int h0f8, .int h0f9, .ref h3, .ref h4, .ref h5, .ref h6, .ref h7, .ref h8, .ref h9, .int h0f17, .int h0f18, .int h0f19, .ref h10, .ref h11, .ref h12, .ref h13, .int h0f24, .int h0f25, .ref h14, .ref h15, .ref h16, .ref h17, .int h0f30, .int h0f31, .ref h18, .ref h19, .ref h20, .ref h21]), (h4, aJ (k 1) 9 anJ)] H := hT
        refine lv_ladd hx hb dX11_finds_127 (lv_topl (fun v23 e_v23 => ?_))
        refine tz_last hx hb hK hT hS 0 rfl (by have := li_1; omega) (fun _ _ => trivial) dX11_finds_128 (fun H locs hT hS => ?_)
        refine lv_aload_n hx hb dX11_finds_129 rfl (lv_at hl 1 rfl) ?_
        refine tz_get (ci := 8) (v := .ref h7) (C := RX11) (F := TX11) (N := 36) hx hb hU iX11 hown hK hT 2 rfl rfl 14 (by decide) w799 (fun _ h9 => h9) rfl dX11_finds_130 ?_
        refine lv_iconst (v := 2) hx hb dX11_finds_133 (by decide) ?_
        refine lv_aload_n hx hb dX11_finds_134 rfl (lv_at hl 1 rfl) ?_
        refine tz_get (ci := 8) (v := .int h0f0) (C := RX11) (F := TX11) (N := 36) hx hb hU iX11 hown hK hT 2 rfl rfl 0 (by decide) w785 (fun _ h9 => h9) rfl dX11_finds_135 ?_
        refine lv_iconst (v := 2) hx hb dX11_finds_138 (by decide) ?_
        refine lv_icmp_ne (tgt := 146) hx hb dX11_finds_139 (by decide) (fun c_24 => ?_) (fun c_24 => ?_)
        · skip
          have c_24 := ni_ne c_24 rfl li_2
          refine lv_aload_n hx hb dX11_finds_146 rfl (lv_at hl 1 rfl) ?_
          refine tz_get (ci := 8) (v := .int h0f0) (C := RX11) (F := TX11) (N := 36) hx hb hU iX11 hown hK hT 2 rfl rfl 0 (by decide) w785 (fun _ h9 => h9) rfl dX11_finds_147 ?_
          refine lv_iconst (v := 3) hx hb dX11_finds_150 (by decide) ?_
          refine lv_icmp_ne (tgt := 159) hx hb dX11_finds_151 (by decide) (fun c_25 => ?_) (fun c_25 => ?_)
          · skip
            have c_25 := ni_ne c_25 rfl li_3
            exfalso; omega
          · skip
            have c_25 := ni_eq c_25 rfl li_3
            refine lv_lload_n hx hb dX11_finds_154 rfl (lv_at hl 0 rfl) ?_
            refine lv_lneg hx hb dX11_finds_155 (lv_topl (fun v26 e_v26 => ?_))
            have e_v26 := al_negz e_v26
            refine lv_goto (tgt := 160) hx hb dX11_finds_156 (by decide) ?_
            refine tz_last hx hb hK hT hS 0 rfl (by have := li_2; omega) (fun _ _ => trivial) dX11_finds_160 (fun H locs hT hS => ?_)
            refine lv_aload_n hx hb dX11_finds_161 rfl (lv_at hl 1 rfl) ?_
            refine tz_get (ci := 8) (v := .ref h7) (C := RX11) (F := TX11) (N := 36) hx hb hU iX11 hown hK hT 2 rfl rfl 14 (by decide) w799 (fun _ h9 => h9) rfl dX11_finds_162 ?_
            refine lv_iconst (v := 3) hx hb dX11_finds_165 (by decide) ?_
            refine lv_aload_n hx hb dX11_finds_166 rfl (lv_at hl 1 rfl) ?_
            refine tz_get (ci := 8) (v := .int h0f0) (C := RX11) (F := TX11) (N := 36) hx hb hU iX11 hown hK hT 2 rfl rfl 0 (by decide) w785 (fun _ h9 => h9) rfl dX11_finds_167 ?_
            refine lv_iconst (v := 3) hx hb dX11_finds_170 (by decide) ?_
            refine lv_icmp_ne (tgt := 178) hx hb dX11_finds_171 (by decide) (fun c_27 => ?_) (fun c_27 => ?_)
            · skip
              have c_27 := ni_ne c_27 rfl li_3
              exfalso; omega
            · skip
              have c_27 := ni_eq c_27 rfl li_3
              refine lv_lconst (v := 1) hx hb dX11_finds_174 (by decide) ?_
              refine lv_goto (tgt := 179) hx hb dX11_finds_175 (by decide) ?_
              refine tz_last hx hb hK hT hS 0 rfl (by have := li_3; omega) (fun _ _ => trivial) dX11_finds_179 (fun H locs hT hS => ?_)
              exact tz_retV (B := B_cX11_finds_682f6 D k h0 h1 h4 h7 h2 h3 h5 h6 h8 h9 h10 h11 h12 h13 h14 h15 h16 h17 h18 h19 h20 h21 x1 h0f0 h0f1 h0f2 h0f3 h0f4 h0f5 h0f8 h0f9 h0f17 h0f18 h0f19 h0f24 h0f25 h0f30 h0f31) hQ hx hb hr hlocks hS (Nat.le_of_ble_eq_true rfl) (Nat.le_of_ble_eq_true rfl) dX11_finds_180 ((hT.sub [2, 1, 3, 0] (by decide) rfl))
        · skip
          have c_24 := ni_eq c_24 rfl li_2
          exfalso; omega
      · skip
        have c_12 := ni_eq c_12 rfl li_2
        refine lv_lload_n hx hb dX11_finds_91 rfl (lv_at hl 0 rfl) ?_
        refine lv_lneg hx hb dX11_finds_92 (lv_topl (fun v28 e_v28 => ?_))
        have e_v28 := al_negz e_v28
        refine lv_goto (tgt := 128) hx hb dX11_finds_93 (by decide) ?_
        refine tz_last hx hb hK hT hS 0 rfl (by have := li_1; omega) (fun _ _ => trivial) dX11_finds_128 (fun H locs hT hS => ?_)
        refine lv_aload_n hx hb dX11_finds_129 rfl (lv_at hl 1 rfl) ?_
        refine tz_get (ci := 8) (v := .ref h7) (C := RX11) (F := TX11) (N := 36) hx hb hU iX11 hown hK hT 2 rfl rfl 14 (by decide) w799 (fun _ h9 => h9) rfl dX11_finds_130 ?_
        refine lv_iconst (v := 2) hx hb dX11_finds_133 (by decide) ?_
        refine lv_aload_n hx hb dX11_finds_134 rfl (lv_at hl 1 rfl) ?_
        refine tz_get (ci := 8) (v := .int h0f0) (C := RX11) (F := TX11) (N := 36) hx hb hU iX11 hown hK hT 2 rfl rfl 0 (by decide) w785 (fun _ h9 => h9) rfl dX11_finds_135 ?_
        refine lv_iconst (v := 2) hx hb dX11_finds_138 (by decide) ?_
        refine lv_icmp_ne (tgt := 146) hx hb dX11_finds_139 (by decide) (fun c_29 => ?_) (fun c_29 => ?_)
        · skip
          have c_29 := ni_ne c_29 rfl li_2
          exfalso; omega
        · skip
          have c_29 := ni_eq c_29 rfl li_2
          refine lv_lconst (v := 1) hx hb dX11_finds_142 (by decide) ?_
          refine lv_goto (tgt := 160) hx hb dX11_finds_143 (by decide) ?_
          refine tz_last hx hb hK hT hS 0 rfl (by have := li_2; omega) (fun _ _ => trivial) dX11_finds_160 (fun H locs hT hS => ?_)
          refine lv_aload_n hx hb dX11_finds_161 rfl (lv_at hl 1 rfl) ?_
          refine tz_get (ci := 8) (v := .ref h7) (C := RX11) (F := TX11) (N := 36) hx hb hU iX11 hown hK hT 2 rfl rfl 14 (by decide) w799 (fun _ h9 => h9) rfl dX11_finds_162 ?_
          refine lv_iconst (v := 3) hx hb dX11_finds_165 (by decide) ?_
          refine lv_aload_n hx hb dX11_finds_166 rfl (lv_at hl 1 rfl) ?_
          refine tz_get (ci := 8) (v := .int h0f0) (C := RX11) (F := TX11) (N := 36) hx hb hU iX11 hown hK hT 2 rfl rfl 0 (by decide) w785 (fun _ h9 => h9) rfl dX11_finds_167 ?_
          refine lv_iconst (v := 3) hx hb dX11_finds_170 (by decide) ?_
          refine lv_icmp_ne (tgt := 178) hx hb dX11_finds_171 (by decide) (fun c_30 => ?_) (fun c_30 => ?_)
          · skip
            have c_30 := ni_ne c_30 rfl li_3
            refine lv_lconst (v := 0) hx hb dX11_finds_178 (by decide) ?_
            refine tz_last hx hb hK hT hS 0 rfl (by have := li_3; omega) (fun _ _ => trivial) dX11_finds_179 (fun H locs hT hS => ?_)
            exact tz_retV (B := B_cX11_finds_682f6 D k h0 h1 h4 h7 h2 h3 h5 h6 h8 h9 h10 h11 h12 h13 h14 h15 h16 h17 h18 h19 h20 h21 x1 h0f0 h0f1 h0f2 h0f3 h0f4 h0f5 h0f8 h0f9 h0f17 h0f18 h0f19 h0f24 h0f25 h0f30 h0f31) hQ hx hb hr hlocks hS (Nat.le_of_ble_eq_true rfl) (Nat.le_of_ble_eq_true rfl) dX11_finds_180 ((hT.sub [2, 1, 3, 0] (by decide) rfl))
          · skip
            have c_30 := ni_eq c_30 rfl li_3
            exfalso; omega
    · skip
      have c_11 := ni_eq c_11 rfl li_1
      refine lv_lconst (v := 1) hx hb dX11_finds_79 (by decide) ?_
      refine lv_goto (tgt := 128) hx hb dX11_finds_80 (by decide) ?_
      refine tz_last hx hb hK hT hS 0 rfl (by have := li_1; omega) (fun _ _ => trivial) dX11_finds_128 (fun H locs hT hS => ?_)
      refine lv_aload_n hx hb dX11_finds_129 rfl (lv_at hl 1 rfl) ?_
      refine tz_get (ci := 8) (v := .ref h7) (C := RX11) (F := TX11) (N := 36) hx hb hU iX11 hown hK hT 2 rfl rfl 14 (by decide) w799 (fun _ h9 => h9) rfl dX11_finds_130 ?_
      refine lv_iconst (v := 2) hx hb dX11_finds_133 (by decide) ?_
      refine lv_aload_n hx hb dX11_finds_134 rfl (lv_at hl 1 rfl) ?_
      refine tz_get (ci := 8) (v := .int h0f0) (C := RX11) (F := TX11) (N := 36) hx hb hU iX11 hown hK hT 2 rfl rfl 0 (by decide) w785 (fun _ h9 => h9) rfl dX11_finds_135 ?_
      refine lv_iconst (v := 2) hx hb dX11_finds_138 (by decide) ?_
      refine lv_icmp_ne (tgt := 146) hx hb dX11_finds_139 (by decide) (fun c_31 => ?_) (fun c_31 => ?_)
      · skip
        have c_31 := ni_ne c_31 rfl li_2
        refine lv_aload_n hx hb dX11_finds_146 rfl (lv_at hl 1 rfl) ?_
        refine tz_get (ci := 8) (v := .int h0f0) (C := RX11) (F := TX11) (N := 36) hx hb hU iX11 hown hK hT 2 rfl rfl 0 (by decide) w785 (fun _ h9 => h9) rfl dX11_finds_147 ?_
        refine lv_iconst (v := 3) hx hb dX11_finds_150 (by decide) ?_
        refine lv_icmp_ne (tgt := 159) hx hb dX11_finds_151 (by decide) (fun c_32 => ?_) (fun c_32 => ?_)
        · skip
          have c_32 := ni_ne c_32 rfl li_3
          refine lv_lconst (v := 0) hx hb dX11_finds_159 (by decide) ?_
          refine tz_last hx hb hK hT hS 0 rfl (by have := li_2; omega) (fun _ _ => trivial) dX11_finds_160 (fun H locs hT hS => ?_)
          refine lv_aload_n hx hb dX11_finds_161 rfl (lv_at hl 1 rfl) ?_
          refine tz_get (ci := 8) (v := .ref h7) (C := RX11) (F := TX11) (N := 36) hx hb hU iX11 hown hK hT 2 rfl rfl 14 (by decide) w799 (fun _ h9 => h9) rfl dX11_finds_162 ?_
          refine lv_iconst (v := 3) hx hb dX11_finds_165 (by decide) ?_
          refine lv_aload_n hx hb dX11_finds_166 rfl (lv_at hl 1 rfl) ?_
          refine tz_get (ci := 8) (v := .int h0f0) (C := RX11) (F := TX11) (N := 36) hx hb hU iX11 hown hK hT 2 rfl rfl 0 (by decide) w785 (fun _ h9 => h9) rfl dX11_finds_167 ?_
          refine lv_iconst (v := 3) hx hb dX11_finds_170 (by decide) ?_
          refine lv_icmp_ne (tgt := 178) hx hb dX11_finds_171 (by decide) (fun c_33 => ?_) (fun c_33 => ?_)
          · skip
            have c_33 := ni_ne c_33 rfl li_3
            refine lv_lconst (v := 0) hx hb dX11_finds_178 (by decide) ?_
            refine tz_last hx hb hK hT hS 0 rfl (by have := li_3; omega) (fun _ _ => trivial) dX11_finds_179 (fun H locs hT hS => ?_)
            exact tz_retV (B := B_cX11_finds_682f6 D k h0 h1 h4 h7 h2 h3 h5 h6 h8 h9 h10 h11 h12 h13 h14 h15 h16 h17 h18 h19 h20 h21 x1 h0f0 h0f1 h0f2 h0f3 h0f4 h0f5 h0f8 h0f9 h0f17 h0f18 h0f19 h0f24 h0f25 h0f30 h0f31) hQ hx hb hr hlocks hS (Nat.le_of_ble_eq_true rfl) (Nat.le_of_ble_eq_true rfl) dX11_finds_180 ((hT.sub [2, 1, 3, 0] (by decide) rfl))
          · skip
            have c_33 := ni_eq c_33 rfl li_3
            exfalso; omega
        · skip
          have c_32 := ni_eq c_32 rfl li_3
          exfalso; omega
      · skip
        have c_31 := ni_eq c_31 rfl li_2
        exfalso; omega
  · skip
    have c_8 := ni_eq c_8 rfl li_0
    refine lv_aload_n hx hb dX11_finds_45 rfl (lv_at hl 1 rfl) ?_
    refine lv_aload_n hx hb dX11_finds_46 rfl (lv_at hl 1 rfl) ?_
    refine tz_get (ci := 8) (v := .ref h4) (C := RX11) (F := TX11) (N := 36) hx hb hU iX11 hown hK hT 1 rfl rfl 11 (by decide) w796 (fun _ h9 => h9) rfl dX11_finds_47 ?_
    refine tcL (Tc := [(h0, ob 8 [.int h0f0, .int h0f1, .int h0f2, .int h0f3, .int h0f4, .int h0f5, .ref h1, .ref h2, .int h0f8, .int h0f9, .ref h3, .ref h4, .ref h5, .ref h6, .ref h7, .ref h8, .ref h9, .int h0f17, .int h0f18, .int h0f19, .ref h10, .ref h11, .ref h12, .ref h13, .int h0f24, .int h0f25, .ref h14, .ref h15, .ref h16, .ref h17, .int h0f30, .int h0f31, .ref h18, .ref h19, .ref h20, .ref h21]), (h4, aJ (k 1) 9 anJ)]) (Tr := [(h7, aJ (k 1) 4 anJ), (h1, aI (k 0) 36 anI)]) (as := [h0, h4]) (zcV (q0 := 1) (ci := 8) (As := [.ref h4]) (rest := [.int 0, .ref h7]) (Tc := [(h0, ob 8 [.int h0f0, .int h0f1, .int h0f2, .int h0f3, .int h0f4, .int h0f5, .ref h1, .ref h2, .int h0f8, .int h0f9, .ref h3, .ref h4, .ref h5, .ref h6, .ref h7, .ref h8, .ref h9, .int h0f17, .int h0f18, .int h0f19, .ref h10, .ref h11, .ref h12, .ref h13, .int h0f24, .int h0f25, .ref h14, .ref h15, .ref h16, .ref h17, .int h0f30, .int h0f31, .ref h18, .ref h19, .ref h20, .ref h21]), (h4, aJ (k 1) 9 anJ)]) hx hb hml hown hU hK hT rfl rfl [1, 2] rfl (by decide) (cX11_det_9ae4b l D k _ h0 h4 h1 h2 h3 h5 h6 h7 h8 h9 h10 h11 h12 h13 h14 h15 h16 h17 h18 h19 h20 h21 h0f0 h0f1 h0f2 h0f3 h0f4 h0f5 h0f8 h0f9 h0f17 h0f18 h0f19 h0f24 h0f25 h0f30 h0f31 (by omega) (by omega) (by omega) (by omega) (by omega) (by omega) (by omega) (by omega) (by omega) (by omega) (by omega) (by omega) (by omega) (by omega) (by omega)) w952 w949 w951 w35 w72 hdX11_det ⟨rfl, rfl⟩ ⟨Nat.le_of_ble_eq_true rfl, Nat.le_of_ble_eq_true rfl⟩ rfl hl.1 (Nat.le_of_ble_eq_true rfl) dX11_finds_50 ⟨Nat.le_of_ble_eq_true rfl, Nat.le_of_ble_eq_true rfl⟩) hT hS hA [1, 2] [0, 3] rfl rfl rfl (by decide) (by decide) (fun r34 H locs hB J hS => ?_)
    have hT1 := hB
    have hT := J _ hT1
    have hT : TP D A [(h7, aJ (k 1) 4 anJ), (h1, aI (k 0) 36 anI), (h0, ob 8 [.int h0f0, .int h0f1, .int h0f2, .int h0f3, .int h0f4, .int h0f5, .ref h1, .ref h2, .int h0f8, .int h0f9, .ref h3, .ref h4, .ref h5, .ref h6, .ref h7, .ref h8, .ref h9, .int h0f17, .int h0f18, .int h0f19, .ref h10, .ref h11, .ref h12, .ref h13, .int h0f24, .int h0f25, .ref h14, .ref h15, .ref h16, .ref h17, .int h0f30, .int h0f31, .ref h18, .ref h19, .ref h20, .ref h21]), (h4, aJ (k 1) 9 anJ)] H := hT
    refine lv_goto (tgt := 65) hx hb dX11_finds_53 (by decide) ?_
    refine tz_last hx hb hK hT hS 0 rfl (by have := li_0; omega) (fun _ _ => trivial) dX11_finds_65 (fun H locs hT hS => ?_)
    refine lv_aload_n hx hb dX11_finds_66 rfl (lv_at hl 1 rfl) ?_
    refine tz_get (ci := 8) (v := .ref h7) (C := RX11) (F := TX11) (N := 36) hx hb hU iX11 hown hK hT 2 rfl rfl 14 (by decide) w799 (fun _ h9 => h9) rfl dX11_finds_67 ?_
    refine lv_iconst (v := 1) hx hb dX11_finds_70 (by decide) ?_
    refine lv_aload_n hx hb dX11_finds_71 rfl (lv_at hl 1 rfl) ?_
    refine tz_get (ci := 8) (v := .int h0f0) (C := RX11) (F := TX11) (N := 36) hx hb hU iX11 hown hK hT 2 rfl rfl 0 (by decide) w785 (fun _ h9 => h9) rfl dX11_finds_72 ?_
    refine lv_iconst (v := 1) hx hb dX11_finds_75 (by decide) ?_
    refine lv_icmp_ne (tgt := 83) hx hb dX11_finds_76 (by decide) (fun c_35 => ?_) (fun c_35 => ?_)
    · skip
      have c_35 := ni_ne c_35 rfl li_1
      refine lv_aload_n hx hb dX11_finds_83 rfl (lv_at hl 1 rfl) ?_
      refine tz_get (ci := 8) (v := .int h0f0) (C := RX11) (F := TX11) (N := 36) hx hb hU iX11 hown hK hT 2 rfl rfl 0 (by decide) w785 (fun _ h9 => h9) rfl dX11_finds_84 ?_
      refine lv_iconst (v := 2) hx hb dX11_finds_87 (by decide) ?_
      refine lv_icmp_ne (tgt := 96) hx hb dX11_finds_88 (by decide) (fun c_36 => ?_) (fun c_36 => ?_)
      · skip
        have c_36 := ni_ne c_36 rfl li_2
        refine lv_aload_n hx hb dX11_finds_96 rfl (lv_at hl 1 rfl) ?_
        refine lv_aload_n hx hb dX11_finds_97 rfl (lv_at hl 1 rfl) ?_
        refine tz_get (ci := 8) (v := .ref h4) (C := RX11) (F := TX11) (N := 36) hx hb hU iX11 hown hK hT 2 rfl rfl 11 (by decide) w796 (fun _ h9 => h9) rfl dX11_finds_98 ?_
        refine lv_iconst (v := 0) hx hb dX11_finds_101 (by decide) ?_
        refine lv_iconst (v := 0) hx hb dX11_finds_102 (by decide) ?_
        have q_q38 := li_0
        have q_q39 := li_0
        refine tcL (Tc := [(h0, ob 8 [.int h0f0, .int h0f1, .int h0f2, .int h0f3, .int h0f4, .int h0f5, .ref h1, .ref h2, .int h0f8, .int h0f9, .ref h3, .ref h4, .ref h5, .ref h6, .ref h7, .ref h8, .ref h9, .int h0f17, .int h0f18, .int h0f19, .ref h10, .ref h11, .ref h12, .ref h13, .int h0f24, .int h0f25, .ref h14, .ref h15, .ref h16, .ref h17, .int h0f30, .int h0f31, .ref h18, .ref h19, .ref h20, .ref h21]), (h4, aJ (k 1) 9 anJ)]) (Tr := [(h7, aJ (k 1) 4 anJ), (h1, aI (k 0) 36 anI)]) (as := [h0, h4]) (zcV (q0 := 2) (ci := 8) (As := [.ref h4, .int 0, .int 0]) (rest := [.int 1, .ref h7]) (Tc := [(h0, ob 8 [.int h0f0, .int h0f1, .int h0f2, .int h0f3, .int h0f4, .int h0f5, .ref h1, .ref h2, .int h0f8, .int h0f9, .ref h3, .ref h4, .ref h5, .ref h6, .ref h7, .ref h8, .ref h9, .int h0f17, .int h0f18, .int h0f19, .ref h10, .ref h11, .ref h12, .ref h13, .int h0f24, .int h0f25, .ref h14, .ref h15, .ref h16, .ref h17, .int h0f30, .int h0f31, .ref h18, .ref h19, .ref h20, .ref h21]), (h4, aJ (k 1) 9 anJ)]) hx hb hml hown hU hK hT rfl rfl [2, 3] rfl (by decide) (cX11_without_7ab45 l D k _ h0 h4 h1 h2 h3 h5 h6 h7 h8 h9 h10 h11 h12 h13 h14 h15 h16 h17 h18 h19 h20 h21 (0) (0) h0f0 h0f1 h0f2 h0f3 h0f4 h0f5 h0f8 h0f9 h0f17 h0f18 h0f19 h0f24 h0f25 h0f30 h0f31 (by have := li_0; omega) (by have := li_0; omega) (by omega) (by omega) (by omega) (by omega) (by omega) (by omega) (by omega) (by omega) (by omega) (by omega) (by omega) (by omega) (by omega) (by have := li_0; have := li_0; omega) (by have := li_0; have := li_0; omega)) w948 w945 w947 w34 w72 hdX11_without ⟨rfl, rfl⟩ ⟨Nat.le_of_ble_eq_true rfl, Nat.le_of_ble_eq_true rfl⟩ rfl hl.1 (Nat.le_of_ble_eq_true rfl) dX11_finds_103 ⟨Nat.le_of_ble_eq_true rfl, Nat.le_of_ble_eq_true rfl⟩) hT hS hA [2, 3] [0, 1] rfl rfl rfl (by decide) (by decide) (fun r37 H locs hB J hS => ?_)
        have hT1 := hB
        have hT := J _ hT1
        have hT : TP D A [(h7, aJ (k 1) 4 anJ), (h1, aI (k 0) 36 anI), (h0, ob 8 [.int h0f0, .int h0f1, .int h0f2, .int h0f3, .int h0f4, .int h0f5, .ref h1, .ref h2, .int h0f8, .int h0f9, .ref h3, .ref h4, .ref h5, .ref h6, .ref h7, .ref h8, .ref h9, .int h0f17, .int h0f18, .int h0f19, .ref h10, .ref h11, .ref h12, .ref h13, .int h0f24, .int h0f25, .ref h14, .ref h15, .ref h16, .ref h17, .int h0f30, .int h0f31, .ref h18, .ref h19, .ref h20, .ref h21]), (h4, aJ (k 1) 9 anJ)] H := hT
        refine lv_aload_n hx hb dX11_finds_106 rfl (lv_at hl 1 rfl) ?_
        refine lv_aload_n hx hb dX11_finds_107 rfl (lv_at hl 1 rfl) ?_
        refine tz_get (ci := 8) (v := .ref h4) (C := RX11) (F := TX11) (N := 36) hx hb hU iX11 hown hK hT 2 rfl rfl 11 (by decide) w796 (fun _ h9 => h9) rfl dX11_finds_108 ?_
        refine lv_iconst (v := 1) hx hb dX11_finds_111 (by decide) ?_
        refine lv_iconst (v := 1) hx hb dX11_finds_112 (by decide) ?_
        have q_q41 := li_1
        have q_q42 := li_1
        refine tcL (Tc := [(h0, ob 8 [.int h0f0, .int h0f1, .int h0f2, .int h0f3, .int h0f4, .int h0f5, .ref h1, .ref h2, .int h0f8, .int h0f9, .ref h3, .ref h4, .ref h5, .ref h6, .ref h7, .ref h8, .ref h9, .int h0f17, .int h0f18, .int h0f19, .ref h10, .ref h11, .ref h12, .ref h13, .int h0f24, .int h0f25, .ref h14, .ref h15, .ref h16, .ref h17, .int h0f30, .int h0f31, .ref h18, .ref h19, .ref h20, .ref h21]), (h4, aJ (k 1) 9 anJ)]) (Tr := [(h7, aJ (k 1) 4 anJ), (h1, aI (k 0) 36 anI)]) (as := [h0, h4]) (zcV (q0 := 2) (ci := 8) (As := [.ref h4, .int 1, .int 1]) (rest := [.long r37, .int 1, .ref h7]) (Tc := [(h0, ob 8 [.int h0f0, .int h0f1, .int h0f2, .int h0f3, .int h0f4, .int h0f5, .ref h1, .ref h2, .int h0f8, .int h0f9, .ref h3, .ref h4, .ref h5, .ref h6, .ref h7, .ref h8, .ref h9, .int h0f17, .int h0f18, .int h0f19, .ref h10, .ref h11, .ref h12, .ref h13, .int h0f24, .int h0f25, .ref h14, .ref h15, .ref h16, .ref h17, .int h0f30, .int h0f31, .ref h18, .ref h19, .ref h20, .ref h21]), (h4, aJ (k 1) 9 anJ)]) hx hb hml hown hU hK hT rfl rfl [2, 3] rfl (by decide) (cX11_without_7ab45 l D k _ h0 h4 h1 h2 h3 h5 h6 h7 h8 h9 h10 h11 h12 h13 h14 h15 h16 h17 h18 h19 h20 h21 (1) (1) h0f0 h0f1 h0f2 h0f3 h0f4 h0f5 h0f8 h0f9 h0f17 h0f18 h0f19 h0f24 h0f25 h0f30 h0f31 (by have := li_1; omega) (by have := li_1; omega) (by omega) (by omega) (by omega) (by omega) (by omega) (by omega) (by omega) (by omega) (by omega) (by omega) (by omega) (by omega) (by omega) (by have := li_1; have := li_1; omega) (by have := li_1; have := li_1; omega)) w948 w945 w947 w34 w72 hdX11_without ⟨rfl, rfl⟩ ⟨Nat.le_of_ble_eq_true rfl, Nat.le_of_ble_eq_true rfl⟩ rfl hl.1 (Nat.le_of_ble_eq_true rfl) dX11_finds_113 ⟨Nat.le_of_ble_eq_true rfl, Nat.le_of_ble_eq_true rfl⟩) hT hS hA [2, 3] [0, 1] rfl rfl rfl (by decide) (by decide) (fun r40 H locs hB J hS => ?_)
        have hT1 := hB
        have hT := J _ hT1
        have hT : TP D A [(h7, aJ (k 1) 4 anJ), (h1, aI (k 0) 36 anI), (h0, ob 8 [.int h0f0, .int h0f1, .int h0f2, .int h0f3, .int h0f4, .int h0f5, .ref h1, .ref h2, .int h0f8, .int h0f9, .ref h3, .ref h4, .ref h5, .ref h6, .ref h7, .ref h8, .ref h9, .int h0f17, .int h0f18, .int h0f19, .ref h10, .ref h11, .ref h12, .ref h13, .int h0f24, .int h0f25, .ref h14, .ref h15, .ref h16, .ref h17, .int h0f30, .int h0f31, .ref h18, .ref h19, .ref h20, .ref h21]), (h4, aJ (k 1) 9 anJ)] H := hT
        refine lv_ladd hx hb dX11_finds_116 (lv_topl (fun v43 e_v43 => ?_))
        refine lv_aload_n hx hb dX11_finds_117 rfl (lv_at hl 1 rfl) ?_
        refine lv_aload_n hx hb dX11_finds_118 rfl (lv_at hl 1 rfl) ?_
        refine tz_get (ci := 8) (v := .ref h4) (C := RX11) (F := TX11) (N := 36) hx hb hU iX11 hown hK hT 2 rfl rfl 11 (by decide) w796 (fun _ h9 => h9) rfl dX11_finds_119 ?_
        refine lv_iconst (v := 2) hx hb dX11_finds_122 (by decide) ?_
        refine lv_iconst (v := 2) hx hb dX11_finds_123 (by decide) ?_
        have q_q45 := li_2
        have q_q46 := li_2
        refine tcL (Tc := [(h0, ob 8 [.int h0f0, .int h0f1, .int h0f2, .int h0f3, .int h0f4, .int h0f5, .ref h1, .ref h2, .int h0f8, .int h0f9, .ref h3, .ref h4, .ref h5, .ref h6, .ref h7, .ref h8, .ref h9, .int h0f17, .int h0f18, .int h0f19, .ref h10, .ref h11, .ref h12, .ref h13, .int h0f24, .int h0f25, .ref h14, .ref h15, .ref h16, .ref h17, .int h0f30, .int h0f31, .ref h18, .ref h19, .ref h20, .ref h21]), (h4, aJ (k 1) 9 anJ)]) (Tr := [(h7, aJ (k 1) 4 anJ), (h1, aI (k 0) 36 anI)]) (as := [h0, h4]) (zcV (q0 := 2) (ci := 8) (As := [.ref h4, .int 2, .int 2]) (rest := [.long v43, .int 1, .ref h7]) (Tc := [(h0, ob 8 [.int h0f0, .int h0f1, .int h0f2, .int h0f3, .int h0f4, .int h0f5, .ref h1, .ref h2, .int h0f8, .int h0f9, .ref h3, .ref h4, .ref h5, .ref h6, .ref h7, .ref h8, .ref h9, .int h0f17, .int h0f18, .int h0f19, .ref h10, .ref h11, .ref h12, .ref h13, .int h0f24, .int h0f25, .ref h14, .ref h15, .ref h16, .ref h17, .int h0f30, .int h0f31, .ref h18, .ref h19, .ref h20, .ref h21]), (h4, aJ (k 1) 9 anJ)]) hx hb hml hown hU hK hT rfl rfl [2, 3] rfl (by decide) (cX11_without_7ab45 l D k _ h0 h4 h1 h2 h3 h5 h6 h7 h8 h9 h10 h11 h12 h13 h14 h15 h16 h17 h18 h19 h20 h21 (2) (2) h0f0 h0f1 h0f2 h0f3 h0f4 h0f5 h0f8 h0f9 h0f17 h0f18 h0f19 h0f24 h0f25 h0f30 h0f31 (by have := li_2; omega) (by have := li_2; omega) (by omega) (by omega) (by omega) (by omega) (by omega) (by omega) (by omega) (by omega) (by omega) (by omega) (by omega) (by omega) (by omega) (by have := li_2; have := li_2; omega) (by have := li_2; have := li_2; omega)) w948 w945 w947 w34 w72 hdX11_without ⟨rfl, rfl⟩ ⟨Nat.le_of_ble_eq_true rfl, Nat.le_of_ble_eq_true rfl⟩ rfl hl.1 (Nat.le_of_ble_eq_true rfl) dX11_finds_124 ⟨Nat.le_of_ble_eq_true rfl, Nat.le_of_ble_eq_true rfl⟩) hT hS hA [2, 3] [0, 1] rfl rfl rfl (by decide) (by decide) (fun r44 H locs hB J hS => ?_)
        have hT1 := hB
        have hT := J _ hT1
        have hT : TP D A [(h7, aJ (k 1) 4 anJ), (h1, aI (k 0) 36 anI), (h0, ob 8 [.int h0f0, .int h0f1, .int h0f2, .int h0f3, .int h0f4, .int h0f5, .ref h1, .ref h2, .int h0f8, .int h0f9, .ref h3, .ref h4, .ref h5, .ref h6, .ref h7, .ref h8, .ref h9, .int h0f17, .int h0f18, .int h0f19, .ref h10, .ref h11, .ref h12, .ref h13, .int h0f24, .int h0f25, .ref h14, .ref h15, .ref h16, .ref h17, .int h0f30, .int h0f31, .ref h18, .ref h19, .ref h20, .ref h21]), (h4, aJ (k 1) 9 anJ)] H := hT
        refine lv_ladd hx hb dX11_finds_127 (lv_topl (fun v47 e_v47 => ?_))
        refine tz_last hx hb hK hT hS 0 rfl (by have := li_1; omega) (fun _ _ => trivial) dX11_finds_128 (fun H locs hT hS => ?_)
        refine lv_aload_n hx hb dX11_finds_129 rfl (lv_at hl 1 rfl) ?_
        refine tz_get (ci := 8) (v := .ref h7) (C := RX11) (F := TX11) (N := 36) hx hb hU iX11 hown hK hT 2 rfl rfl 14 (by decide) w799 (fun _ h9 => h9) rfl dX11_finds_130 ?_
        refine lv_iconst (v := 2) hx hb dX11_finds_133 (by decide) ?_
        refine lv_aload_n hx hb dX11_finds_134 rfl (lv_at hl 1 rfl) ?_
        refine tz_get (ci := 8) (v := .int h0f0) (C := RX11) (F := TX11) (N := 36) hx hb hU iX11 hown hK hT 2 rfl rfl 0 (by decide) w785 (fun _ h9 => h9) rfl dX11_finds_135 ?_
        refine lv_iconst (v := 2) hx hb dX11_finds_138 (by decide) ?_
        refine lv_icmp_ne (tgt := 146) hx hb dX11_finds_139 (by decide) (fun c_48 => ?_) (fun c_48 => ?_)
        · skip
          have c_48 := ni_ne c_48 rfl li_2
          refine lv_aload_n hx hb dX11_finds_146 rfl (lv_at hl 1 rfl) ?_
          refine tz_get (ci := 8) (v := .int h0f0) (C := RX11) (F := TX11) (N := 36) hx hb hU iX11 hown hK hT 2 rfl rfl 0 (by decide) w785 (fun _ h9 => h9) rfl dX11_finds_147 ?_
          refine lv_iconst (v := 3) hx hb dX11_finds_150 (by decide) ?_
          refine lv_icmp_ne (tgt := 159) hx hb dX11_finds_151 (by decide) (fun c_49 => ?_) (fun c_49 => ?_)
          · skip
            have c_49 := ni_ne c_49 rfl li_3
            exfalso; omega
          · skip
            have c_49 := ni_eq c_49 rfl li_3
            refine lv_lload_n hx hb dX11_finds_154 rfl (lv_at hl 0 rfl) ?_
            refine lv_lneg hx hb dX11_finds_155 (lv_topl (fun v50 e_v50 => ?_))
            have e_v50 := al_negz e_v50
            refine lv_goto (tgt := 160) hx hb dX11_finds_156 (by decide) ?_
            refine tz_last hx hb hK hT hS 0 rfl (by have := li_2; omega) (fun _ _ => trivial) dX11_finds_160 (fun H locs hT hS => ?_)
            refine lv_aload_n hx hb dX11_finds_161 rfl (lv_at hl 1 rfl) ?_
            refine tz_get (ci := 8) (v := .ref h7) (C := RX11) (F := TX11) (N := 36) hx hb hU iX11 hown hK hT 2 rfl rfl 14 (by decide) w799 (fun _ h9 => h9) rfl dX11_finds_162 ?_
            refine lv_iconst (v := 3) hx hb dX11_finds_165 (by decide) ?_
            refine lv_aload_n hx hb dX11_finds_166 rfl (lv_at hl 1 rfl) ?_
            refine tz_get (ci := 8) (v := .int h0f0) (C := RX11) (F := TX11) (N := 36) hx hb hU iX11 hown hK hT 2 rfl rfl 0 (by decide) w785 (fun _ h9 => h9) rfl dX11_finds_167 ?_
            refine lv_iconst (v := 3) hx hb dX11_finds_170 (by decide) ?_
            refine lv_icmp_ne (tgt := 178) hx hb dX11_finds_171 (by decide) (fun c_51 => ?_) (fun c_51 => ?_)
            · skip
              have c_51 := ni_ne c_51 rfl li_3
              exfalso; omega
            · skip
              have c_51 := ni_eq c_51 rfl li_3
              refine lv_lconst (v := 1) hx hb dX11_finds_174 (by decide) ?_
              refine lv_goto (tgt := 179) hx hb dX11_finds_175 (by decide) ?_
              refine tz_last hx hb hK hT hS 0 rfl (by have := li_3; omega) (fun _ _ => trivial) dX11_finds_179 (fun H locs hT hS => ?_)
              exact tz_retV (B := B_cX11_finds_682f6 D k h0 h1 h4 h7 h2 h3 h5 h6 h8 h9 h10 h11 h12 h13 h14 h15 h16 h17 h18 h19 h20 h21 x1 h0f0 h0f1 h0f2 h0f3 h0f4 h0f5 h0f8 h0f9 h0f17 h0f18 h0f19 h0f24 h0f25 h0f30 h0f31) hQ hx hb hr hlocks hS (Nat.le_of_ble_eq_true rfl) (Nat.le_of_ble_eq_true rfl) dX11_finds_180 ((hT.sub [2, 1, 3, 0] (by decide) rfl))
        · skip
          have c_48 := ni_eq c_48 rfl li_2
          exfalso; omega
      · skip
        have c_36 := ni_eq c_36 rfl li_2
        refine lv_lload_n hx hb dX11_finds_91 rfl (lv_at hl 0 rfl) ?_
        refine lv_lneg hx hb dX11_finds_92 (lv_topl (fun v52 e_v52 => ?_))
        have e_v52 := al_negz e_v52
        refine lv_goto (tgt := 128) hx hb dX11_finds_93 (by decide) ?_
        refine tz_last hx hb hK hT hS 0 rfl (by have := li_1; omega) (fun _ _ => trivial) dX11_finds_128 (fun H locs hT hS => ?_)
        refine lv_aload_n hx hb dX11_finds_129 rfl (lv_at hl 1 rfl) ?_
        refine tz_get (ci := 8) (v := .ref h7) (C := RX11) (F := TX11) (N := 36) hx hb hU iX11 hown hK hT 2 rfl rfl 14 (by decide) w799 (fun _ h9 => h9) rfl dX11_finds_130 ?_
        refine lv_iconst (v := 2) hx hb dX11_finds_133 (by decide) ?_
        refine lv_aload_n hx hb dX11_finds_134 rfl (lv_at hl 1 rfl) ?_
        refine tz_get (ci := 8) (v := .int h0f0) (C := RX11) (F := TX11) (N := 36) hx hb hU iX11 hown hK hT 2 rfl rfl 0 (by decide) w785 (fun _ h9 => h9) rfl dX11_finds_135 ?_
        refine lv_iconst (v := 2) hx hb dX11_finds_138 (by decide) ?_
        refine lv_icmp_ne (tgt := 146) hx hb dX11_finds_139 (by decide) (fun c_53 => ?_) (fun c_53 => ?_)
        · skip
          have c_53 := ni_ne c_53 rfl li_2
          exfalso; omega
        · skip
          have c_53 := ni_eq c_53 rfl li_2
          refine lv_lconst (v := 1) hx hb dX11_finds_142 (by decide) ?_
          refine lv_goto (tgt := 160) hx hb dX11_finds_143 (by decide) ?_
          refine tz_last hx hb hK hT hS 0 rfl (by have := li_2; omega) (fun _ _ => trivial) dX11_finds_160 (fun H locs hT hS => ?_)
          refine lv_aload_n hx hb dX11_finds_161 rfl (lv_at hl 1 rfl) ?_
          refine tz_get (ci := 8) (v := .ref h7) (C := RX11) (F := TX11) (N := 36) hx hb hU iX11 hown hK hT 2 rfl rfl 14 (by decide) w799 (fun _ h9 => h9) rfl dX11_finds_162 ?_
          refine lv_iconst (v := 3) hx hb dX11_finds_165 (by decide) ?_
          refine lv_aload_n hx hb dX11_finds_166 rfl (lv_at hl 1 rfl) ?_
          refine tz_get (ci := 8) (v := .int h0f0) (C := RX11) (F := TX11) (N := 36) hx hb hU iX11 hown hK hT 2 rfl rfl 0 (by decide) w785 (fun _ h9 => h9) rfl dX11_finds_167 ?_
          refine lv_iconst (v := 3) hx hb dX11_finds_170 (by decide) ?_
          refine lv_icmp_ne (tgt := 178) hx hb dX11_finds_171 (by decide) (fun c_54 => ?_) (fun c_54 => ?_)
          · skip
            have c_54 := ni_ne c_54 rfl li_3
            refine lv_lconst (v := 0) hx hb dX11_finds_178 (by decide) ?_
            refine tz_last hx hb hK hT hS 0 rfl (by have := li_3; omega) (fun _ _ => trivial) dX11_finds_179 (fun H locs hT hS => ?_)
            exact tz_retV (B := B_cX11_finds_682f6 D k h0 h1 h4 h7 h2 h3 h5 h6 h8 h9 h10 h11 h12 h13 h14 h15 h16 h17 h18 h19 h20 h21 x1 h0f0 h0f1 h0f2 h0f3 h0f4 h0f5 h0f8 h0f9 h0f17 h0f18 h0f19 h0f24 h0f25 h0f30 h0f31) hQ hx hb hr hlocks hS (Nat.le_of_ble_eq_true rfl) (Nat.le_of_ble_eq_true rfl) dX11_finds_180 ((hT.sub [2, 1, 3, 0] (by decide) rfl))
          · skip
            have c_54 := ni_eq c_54 rfl li_3
            exfalso; omega
    · skip
      have c_35 := ni_eq c_35 rfl li_1
      refine lv_lconst (v := 1) hx hb dX11_finds_79 (by decide) ?_
      refine lv_goto (tgt := 128) hx hb dX11_finds_80 (by decide) ?_
      refine tz_last hx hb hK hT hS 0 rfl (by have := li_1; omega) (fun _ _ => trivial) dX11_finds_128 (fun H locs hT hS => ?_)
      refine lv_aload_n hx hb dX11_finds_129 rfl (lv_at hl 1 rfl) ?_
      refine tz_get (ci := 8) (v := .ref h7) (C := RX11) (F := TX11) (N := 36) hx hb hU iX11 hown hK hT 2 rfl rfl 14 (by decide) w799 (fun _ h9 => h9) rfl dX11_finds_130 ?_
      refine lv_iconst (v := 2) hx hb dX11_finds_133 (by decide) ?_
      refine lv_aload_n hx hb dX11_finds_134 rfl (lv_at hl 1 rfl) ?_
      refine tz_get (ci := 8) (v := .int h0f0) (C := RX11) (F := TX11) (N := 36) hx hb hU iX11 hown hK hT 2 rfl rfl 0 (by decide) w785 (fun _ h9 => h9) rfl dX11_finds_135 ?_
      refine lv_iconst (v := 2) hx hb dX11_finds_138 (by decide) ?_
      refine lv_icmp_ne (tgt := 146) hx hb dX11_finds_139 (by decide) (fun c_55 => ?_) (fun c_55 => ?_)
      · skip
        have c_55 := ni_ne c_55 rfl li_2
        refine lv_aload_n hx hb dX11_finds_146 rfl (lv_at hl 1 rfl) ?_
        refine tz_get (ci := 8) (v := .int h0f0) (C := RX11) (F := TX11) (N := 36) hx hb hU iX11 hown hK hT 2 rfl rfl 0 (by decide) w785 (fun _ h9 => h9) rfl dX11_finds_147 ?_
        refine lv_iconst (v := 3) hx hb dX11_finds_150 (by decide) ?_
        refine lv_icmp_ne (tgt := 159) hx hb dX11_finds_151 (by decide) (fun c_56 => ?_) (fun c_56 => ?_)
        · skip
          have c_56 := ni_ne c_56 rfl li_3
          refine lv_lconst (v := 0) hx hb dX11_finds_159 (by decide) ?_
          refine tz_last hx hb hK hT hS 0 rfl (by have := li_2; omega) (fun _ _ => trivial) dX11_finds_160 (fun H locs hT hS => ?_)
          refine lv_aload_n hx hb dX11_finds_161 rfl (lv_at hl 1 rfl) ?_
          refine tz_get (ci := 8) (v := .ref h7) (C := RX11) (F := TX11) (N := 36) hx hb hU iX11 hown hK hT 2 rfl rfl 14 (by decide) w799 (fun _ h9 => h9) rfl dX11_finds_162 ?_
          refine lv_iconst (v := 3) hx hb dX11_finds_165 (by decide) ?_
          refine lv_aload_n hx hb dX11_finds_166 rfl (lv_at hl 1 rfl) ?_
          refine tz_get (ci := 8) (v := .int h0f0) (C := RX11) (F := TX11) (N := 36) hx hb hU iX11 hown hK hT 2 rfl rfl 0 (by decide) w785 (fun _ h9 => h9) rfl dX11_finds_167 ?_
          refine lv_iconst (v := 3) hx hb dX11_finds_170 (by decide) ?_
          refine lv_icmp_ne (tgt := 178) hx hb dX11_finds_171 (by decide) (fun c_57 => ?_) (fun c_57 => ?_)
          · skip
            have c_57 := ni_ne c_57 rfl li_3
            refine lv_lconst (v := 0) hx hb dX11_finds_178 (by decide) ?_
            refine tz_last hx hb hK hT hS 0 rfl (by have := li_3; omega) (fun _ _ => trivial) dX11_finds_179 (fun H locs hT hS => ?_)
            exact tz_retV (B := B_cX11_finds_682f6 D k h0 h1 h4 h7 h2 h3 h5 h6 h8 h9 h10 h11 h12 h13 h14 h15 h16 h17 h18 h19 h20 h21 x1 h0f0 h0f1 h0f2 h0f3 h0f4 h0f5 h0f8 h0f9 h0f17 h0f18 h0f19 h0f24 h0f25 h0f30 h0f31) hQ hx hb hr hlocks hS (Nat.le_of_ble_eq_true rfl) (Nat.le_of_ble_eq_true rfl) dX11_finds_180 ((hT.sub [2, 1, 3, 0] (by decide) rfl))
          · skip
            have c_57 := ni_eq c_57 rfl li_3
            exfalso; omega
        · skip
          have c_56 := ni_eq c_56 rfl li_3
          exfalso; omega
      · skip
        have c_55 := ni_eq c_55 rfl li_2
        exfalso; omega
abbrev Rm_cX11_takesOut_ae7df : Room := { frames := 0, cells := 0, slots := 0, locals := 0 }
abbrev B_cX11_takesOut_ae7df (D : va_G) (k : Nat → ClassId) (h0 h4 h5 h7 h1 h2 h3 h6 h8 h9 h10 h11 h12 h13 h14 h15 h16 h17 h18 h19 h20 h21 : Nat) (x1 : Int32) (x2 : Int32) (x3 : Int32) (h0f0 : Int32) (h0f1 : Int32) (h0f2 : Int32) (h0f3 : Int32) (h0f4 : Int32) (h0f5 : Int32) (h0f8 : Int32) (h0f9 : Int32) (h0f17 : Int32) (h0f18 : Int32) (h0f19 : Int32) (h0f24 : Int32) (h0f25 : Int32) (h0f30 : Int32) (h0f31 : Int32) (A : Nat → Prop) (r : Int32) (H : Heap) : Prop := (0 = r ∧ TP D A [(h0, ob 8 [.int h0f0, .int h0f1, .int h0f2, .int h0f3, .int h0f4, .int h0f5, .ref h1, .ref h2, .int h0f8, .int h0f9, .ref h3, .ref h4, .ref h5, .ref h6, .ref h7, .ref h8, .ref h9, .int h0f17, .int h0f18, .int h0f19, .ref h10, .ref h11, .ref h12, .ref h13, .int h0f24, .int h0f25, .ref h14, .ref h15, .ref h16, .ref h17, .int h0f30, .int h0f31, .ref h18, .ref h19, .ref h20, .ref h21]), (h4, aJ (k 1) 9 anJ), (h5, aJ (k 1) 9 anJ), (h7, aJ (k 1) 4 anJ)] H) ∨ (∃ o0 : Int64, ∃ o1 : Int64, (0 ≤ o1.toInt ∧ o1.toInt ≤ 0) ∧ h0f8.toInt ≤ h0f3.toInt ∧ h0f9.toInt ≤ h0f24.toInt ∧ x1.toInt = 1 ∧ o0.toInt ≠ 0 ∧ x1.toInt ≤ 3 ∧ x1.toInt ≠ 2 ∧ x1.toInt ≤ 2 ∧ x1.toInt ≤ 1 ∧ 0 < x1.toInt ∧ o1.toInt = 0 ∧ 1 = r ∧ TP D A [(h0, ob 8 [.int h0f0, .int h0f1, .int h0f2, .int h0f3, .int h0f4, .int h0f5, .ref h1, .ref h2, .int h0f8, .int h0f9, .ref h3, .ref h4, .ref h5, .ref h6, .ref h7, .ref h8, .ref h9, .int h0f17, .int h0f18, .int h0f19, .ref h10, .ref h11, .ref h12, .ref h13, .int h0f24, .int h0f25, .ref h14, .ref h15, .ref h16, .ref h17, .int h0f30, .int h0f31, .ref h18, .ref h19, .ref h20, .ref h21]), (h4, aJ (k 1) 9 anJ), (h5, aJ (k 1) 9 anJ), (h7, aJ (k 1) 4 (zJ [3]))] H) ∨ (∃ o0 : Int64, ∃ o1 : Int64, ∃ o2 : Int64, (0 ≤ o0.toInt ∧ o0.toInt ≤ 0) ∧ (0 ≤ o2.toInt ∧ o2.toInt ≤ 0) ∧ h0f8.toInt ≤ h0f3.toInt ∧ h0f9.toInt ≤ h0f24.toInt ∧ x1.toInt = 1 ∧ o0.toInt = 0 ∧ o1.toInt ≠ 0 ∧ x1.toInt ≤ 2 ∧ x1.toInt ≠ 2 ∧ x1.toInt ≤ 1 ∧ 0 < x1.toInt ∧ o2.toInt = 0 ∧ 1 = r ∧ TP D A [(h0, ob 8 [.int h0f0, .int h0f1, .int h0f2, .int h0f3, .int h0f4, .int h0f5, .ref h1, .ref h2, .int h0f8, .int h0f9, .ref h3, .ref h4, .ref h5, .ref h6, .ref h7, .ref h8, .ref h9, .int h0f17, .int h0f18, .int h0f19, .ref h10, .ref h11, .ref h12, .ref h13, .int h0f24, .int h0f25, .ref h14, .ref h15, .ref h16, .ref h17, .int h0f30, .int h0f31, .ref h18, .ref h19, .ref h20, .ref h21]), (h4, aJ (k 1) 9 anJ), (h5, aJ (k 1) 9 anJ), (h7, aJ (k 1) 4 (zJ [3]))] H) ∨ (∃ o0 : Int64, ∃ o1 : Int64, ∃ o2 : Int64, ∃ o3 : Int64, (0 ≤ o0.toInt ∧ o0.toInt ≤ 0) ∧ (0 ≤ o1.toInt ∧ o1.toInt ≤ 0) ∧ (0 ≤ o3.toInt ∧ o3.toInt ≤ 0) ∧ h0f8.toInt ≤ h0f3.toInt ∧ h0f9.toInt ≤ h0f24.toInt ∧ x1.toInt = 1 ∧ o0.toInt = 0 ∧ o1.toInt = 0 ∧ o2.toInt ≠ 0 ∧ x1.toInt ≤ 1 ∧ x1.toInt ≠ 2 ∧ 0 < x1.toInt ∧ o3.toInt = 0 ∧ 1 = r ∧ TP D A [(h0, ob 8 [.int h0f0, .int h0f1, .int h0f2, .int h0f3, .int h0f4, .int h0f5, .ref h1, .ref h2, .int h0f8, .int h0f9, .ref h3, .ref h4, .ref h5, .ref h6, .ref h7, .ref h8, .ref h9, .int h0f17, .int h0f18, .int h0f19, .ref h10, .ref h11, .ref h12, .ref h13, .int h0f24, .int h0f25, .ref h14, .ref h15, .ref h16, .ref h17, .int h0f30, .int h0f31, .ref h18, .ref h19, .ref h20, .ref h21]), (h4, aJ (k 1) 9 anJ), (h5, aJ (k 1) 9 anJ), (h7, aJ (k 1) 4 (zJ [3]))] H) ∨ (∃ o0 : Int64, ∃ o1 : Int64, ∃ o2 : Int64, (0 ≤ o1.toInt ∧ o1.toInt ≤ 0) ∧ (0 ≤ o2.toInt ∧ o2.toInt ≤ 0) ∧ h0f8.toInt ≤ h0f3.toInt ∧ h0f9.toInt ≤ h0f24.toInt ∧ x1.toInt = 2 ∧ o0.toInt ≠ 0 ∧ x1.toInt ≤ 3 ∧ x1.toInt ≤ 2 ∧ 1 < x1.toInt ∧ o1.toInt = 0 ∧ o2.toInt = 0 ∧ 1 = r ∧ TP D A [(h0, ob 8 [.int h0f0, .int h0f1, .int h0f2, .int h0f3, .int h0f4, .int h0f5, .ref h1, .ref h2, .int h0f8, .int h0f9, .ref h3, .ref h4, .ref h5, .ref h6, .ref h7, .ref h8, .ref h9, .int h0f17, .int h0f18, .int h0f19, .ref h10, .ref h11, .ref h12, .ref h13, .int h0f24, .int h0f25, .ref h14, .ref h15, .ref h16, .ref h17, .int h0f30, .int h0f31, .ref h18, .ref h19, .ref h20, .ref h21]), (h4, aJ (k 1) 9 anJ), (h5, aJ (k 1) 9 anJ), (h7, aJ (k 1) 4 (zJ [3]))] H) ∨ (∃ o0 : Int64, ∃ o1 : Int64, ∃ o2 : Int64, ∃ o3 : Int64, (0 ≤ o0.toInt ∧ o0.toInt ≤ 0) ∧ (0 ≤ o2.toInt ∧ o2.toInt ≤ 0) ∧ (0 ≤ o3.toInt ∧ o3.toInt ≤ 0) ∧ h0f8.toInt ≤ h0f3.toInt ∧ h0f9.toInt ≤ h0f24.toInt ∧ x1.toInt = 2 ∧ o0.toInt = 0 ∧ o1.toInt ≠ 0 ∧ x1.toInt ≤ 2 ∧ 1 < x1.toInt ∧ o2.toInt = 0 ∧ o3.toInt = 0 ∧ 1 = r ∧ TP D A [(h0, ob 8 [.int h0f0, .int h0f1, .int h0f2, .int h0f3, .int h0f4, .int h0f5, .ref h1, .ref h2, .int h0f8, .int h0f9, .ref h3, .ref h4, .ref h5, .ref h6, .ref h7, .ref h8, .ref h9, .int h0f17, .int h0f18, .int h0f19, .ref h10, .ref h11, .ref h12, .ref h13, .int h0f24, .int h0f25, .ref h14, .ref h15, .ref h16, .ref h17, .int h0f30, .int h0f31, .ref h18, .ref h19, .ref h20, .ref h21]), (h4, aJ (k 1) 9 anJ), (h5, aJ (k 1) 9 anJ), (h7, aJ (k 1) 4 (zJ [3]))] H)
set_option maxHeartbeats 4000000 in
set_option maxRecDepth 100000 in
theorem cX11_takesOut_ae7df (l : Launch) (D : va_G) (k : Nat → ClassId) (sz : Nat) (h0 h4 h5 h7 h1 h2 h3 h6 h8 h9 h10 h11 h12 h13 h14 h15 h16 h17 h18 h19 h20 h21 : Nat) (x1 : Int32) (x2 : Int32) (x3 : Int32) (h0f0 : Int32) (h0f1 : Int32) (h0f2 : Int32) (h0f3 : Int32) (h0f4 : Int32) (h0f5 : Int32) (h0f8 : Int32) (h0f9 : Int32) (h0f17 : Int32) (h0f18 : Int32) (h0f19 : Int32) (h0f24 : Int32) (h0f25 : Int32) (h0f30 : Int32) (h0f31 : Int32) (b_x1 : 1 ≤ x1.toInt ∧ x1.toInt ≤ 2) (b_x2 : (-1) ≤ x2.toInt ∧ x2.toInt ≤ 1) (b_x3 : (-1) ≤ x3.toInt ∧ x3.toInt ≤ 1) (b_h0f0 : 1 ≤ h0f0.toInt ∧ h0f0.toInt ≤ 3) (b_h0f1 : 1 ≤ h0f1.toInt ∧ h0f1.toInt ≤ 4) (b_h0f3 : 0 ≤ h0f3.toInt ∧ h0f3.toInt ≤ 3) (b_h0f4 : 0 ≤ h0f4.toInt ∧ h0f4.toInt ≤ 4) (b_h0f8 : 0 ≤ h0f8.toInt ∧ h0f8.toInt ≤ 1) (b_h0f9 : 0 ≤ h0f9.toInt ∧ h0f9.toInt ≤ 1) (b_h0f17 : 0 ≤ h0f17.toInt ∧ h0f17.toInt ≤ 120) (b_h0f18 : 0 ≤ h0f18.toInt ∧ h0f18.toInt ≤ 120) (b_h0f19 : 0 ≤ h0f19.toInt ∧ h0f19.toInt ≤ 4) (b_h0f24 : 0 ≤ h0f24.toInt ∧ h0f24.toInt ≤ 100) (b_h0f25 : 0 ≤ h0f25.toInt ∧ h0f25.toInt ≤ 1) (b_h0f30 : 0 ≤ h0f30.toInt ∧ h0f30.toInt ≤ 60) (b_h0f31 : 0 ≤ h0f31.toInt ∧ h0f31.toInt ≤ 1) (i_0 : h0f8.toInt ≤ h0f3.toInt) (i_1 : h0f9.toInt ≤ h0f24.toInt) : Met l yX11_takesOut (Cond.code yX11_takesOut cX11_takesOut 8 (some .boolean) :: uw) Rm_cX11_takesOut_ae7df (pT D k sz [.ref h0, .int x1, .int x2, .int x3] [(h0, ob 8 [.int h0f0, .int h0f1, .int h0f2, .int h0f3, .int h0f4, .int h0f5, .ref h1, .ref h2, .int h0f8, .int h0f9, .ref h3, .ref h4, .ref h5, .ref h6, .ref h7, .ref h8, .ref h9, .int h0f17, .int h0f18, .int h0f19, .ref h10, .ref h11, .ref h12, .ref h13, .int h0f24, .int h0f25, .ref h14, .ref h15, .ref h16, .ref h17, .int h0f30, .int h0f31, .ref h18, .ref h19, .ref h20, .ref h21]), (h4, aJ (k 1) 9 anJ), (h5, aJ (k 1) 9 anJ), (h7, aJ (k 1) 4 anJ)]) (qI (B_cX11_takesOut_ae7df D k h0 h4 h5 h7 h1 h2 h3 h6 h8 h9 h10 h11 h12 h13 h14 h15 h16 h17 h18 h19 h20 h21 x1 x2 x3 h0f0 h0f1 h0f2 h0f3 h0f4 h0f5 h0f8 h0f9 h0f17 h0f18 h0f19 h0f24 h0f25 h0f30 h0f31 (zA [h0, h4, h5, h7] sz)) (zA [h0, h4, h5, h7] sz)) 0 0 (zA [h0, h4, h5, h7] sz) := by
  refine tz_begin (as := [h0, h4, h5, h7]) (Qc := fun A => qI (B_cX11_takesOut_ae7df D k h0 h4 h5 h7 h1 h2 h3 h6 h8 h9 h10 h11 h12 h13 h14 h15 h16 h17 h18 h19 h20 h21 x1 x2 x3 h0f0 h0f1 h0f2 h0f3 h0f4 h0f5 h0f8 h0f9 h0f17 h0f18 h0f19 h0f24 h0f25 h0f30 h0f31 A) A) (by decide +kernel) rfl (Nat.le_of_ble_eq_true rfl) ?_
  intro p e s m args below meth c ls A Q hx hb hr hml hown hlocks hin hU hK hT hS hA hl hQ
  have hl : lv_has ls 8 [(0, .ref h0), (1, .int x1), (2, .int x2), (3, .int x3)] := hl
  have hT : TP D A [(h0, ob 8 [.int h0f0, .int h0f1, .int h0f2, .int h0f3, .int h0f4, .int h0f5, .ref h1, .ref h2, .int h0f8, .int h0f9, .ref h3, .ref h4, .ref h5, .ref h6, .ref h7, .ref h8, .ref h9, .int h0f17, .int h0f18, .int h0f19, .ref h10, .ref h11, .ref h12, .ref h13, .int h0f24, .int h0f25, .ref h14, .ref h15, .ref h16, .ref h17, .int h0f30, .int h0f31, .ref h18, .ref h19, .ref h20, .ref h21]), (h4, aJ (k 1) 9 anJ), (h5, aJ (k 1) 9 anJ), (h7, aJ (k 1) 4 anJ)] s.heap := hT
  rcases (show x1.toInt = 1 ∨ x1.toInt = 2 by omega) with hq1 | hq1
  · skip
    refine lv_iconst (v := 3) hx hb dX11_takesOut_0 (by decide) ?_
    refine lv_istore (lv' := [(4, .int 3), (0, .ref h0), (1, .int x1), (2, .int x2), (3, .int x3)]) hx hb dX11_takesOut_1 hl (by decide) rfl (fun ls hl => ?_)
    refine lv_iload hx hb dX11_takesOut_3 (lv_at hl 0 rfl) ?_
    refine lv_if_le (tgt := 26) hx hb dX11_takesOut_5 (by decide) (fun cc => absurd cc (by decide +kernel)) (fun _ => ?_)
    refine lv_aload_n hx hb dX11_takesOut_8 rfl (lv_at hl 1 rfl) ?_
    refine tz_get (ci := 8) (v := .ref h7) (C := RX11) (F := TX11) (N := 36) hx hb hU iX11 hown hK hT 0 rfl rfl 14 (by decide) w799 (fun _ h9 => h9) rfl dX11_takesOut_9 ?_
    refine lv_iload hx hb dX11_takesOut_12 (lv_at hl 0 rfl) ?_
    refine tz_lald hx hb hK hT 3 rfl (by have := li_3; omega) dX11_takesOut_14 (fun v2 e_v2 => ?_)
    clear e_v2
    refine lv_lconst (v := 0) hx hb dX11_takesOut_15 (by decide) ?_
    refine W.lcmp hx hb dX11_takesOut_16 ?_
    refine lv_if_ne (tgt := 26) hx hb dX11_takesOut_17 (by decide) (fun c_3 => ?_) (fun c_3 => ?_)
    · skip
      have c_3 := nl_ne c_3 rfl ll_0
      refine lv_iload hx hb dX11_takesOut_26 (lv_at hl 0 rfl) ?_
      refine lv_iload_n hx hb dX11_takesOut_28 rfl (lv_at hl 2 rfl) ?_
      refine lv_icmp_ge (tgt := 34) hx hb dX11_takesOut_29 (by decide) (fun c_4 => ?_) (fun c_4 => ?_)
      · skip
        have c_4 := ni_le c_4 hq1 li_3
        refine lv_iconst (v := 0) hx hb dX11_takesOut_34 (by decide) ?_
        refine lv_istore (lv' := [(5, .int 0), (4, .int 3), (0, .ref h0), (1, .int x1), (2, .int x2), (3, .int x3)]) hx hb dX11_takesOut_35 hl (by decide) rfl (fun ls hl => ?_)
        refine lv_iload hx hb dX11_takesOut_37 (lv_at hl 0 rfl) ?_
        refine lv_iconst (v := 4) hx hb dX11_takesOut_39 (by decide) ?_
        refine lv_icmp_ge (tgt := 71) hx hb dX11_takesOut_40 (by decide) (fun cc => absurd cc (by decide +kernel)) (fun _ => ?_)
        refine lv_aload_n hx hb dX11_takesOut_43 rfl (lv_at hl 2 rfl) ?_
        refine tz_get (ci := 8) (v := .ref h4) (C := RX11) (F := TX11) (N := 36) hx hb hU iX11 hown hK hT 0 rfl rfl 11 (by decide) w796 (fun _ h9 => h9) rfl dX11_takesOut_44 ?_
        refine lv_iload hx hb dX11_takesOut_47 (lv_at hl 0 rfl) ?_
        refine lv_aload_n hx hb dX11_takesOut_49 rfl (lv_at hl 2 rfl) ?_
        refine tz_get (ci := 8) (v := .ref h7) (C := RX11) (F := TX11) (N := 36) hx hb hU iX11 hown hK hT 0 rfl rfl 14 (by decide) w799 (fun _ h9 => h9) rfl dX11_takesOut_50 ?_
        refine lv_iload hx hb dX11_takesOut_53 (lv_at hl 0 rfl) ?_
        refine tz_lald hx hb hK hT 3 rfl (by have := li_0; omega) dX11_takesOut_55 (fun v5 e_v5 => ?_)
        clear e_v5
        have hT := hT.wk (q := 1) rfl (z_of (c := k 1) (n := 9))
        have hT : TP D A [(h0, ob 8 [.int h0f0, .int h0f1, .int h0f2, .int h0f3, .int h0f4, .int h0f5, .ref h1, .ref h2, .int h0f8, .int h0f9, .ref h3, .ref h4, .ref h5, .ref h6, .ref h7, .ref h8, .ref h9, .int h0f17, .int h0f18, .int h0f19, .ref h10, .ref h11, .ref h12, .ref h13, .int h0f24, .int h0f25, .ref h14, .ref h15, .ref h16, .ref h17, .int h0f30, .int h0f31, .ref h18, .ref h19, .ref h20, .ref h21]), (h4, aJ (k 1) 9 (zJ [])), (h5, aJ (k 1) 9 anJ), (h7, aJ (k 1) 4 anJ)] H := hT
        refine tz_lastP hx hb hK hT hS 1 (zJ []) rfl (by have := li_0; omega) (z_putx (z := 0) li_0 (by decide)) dX11_takesOut_56 (fun H locs hT hS => ?_)
        have hT : TP D A [(h0, ob 8 [.int h0f0, .int h0f1, .int h0f2, .int h0f3, .int h0f4, .int h0f5, .ref h1, .ref h2, .int h0f8, .int h0f9, .ref h3, .ref h4, .ref h5, .ref h6, .ref h7, .ref h8, .ref h9, .int h0f17, .int h0f18, .int h0f19, .ref h10, .ref h11, .ref h12, .ref h13, .int h0f24, .int h0f25, .ref h14, .ref h15, .ref h16, .ref h17, .int h0f30, .int h0f31, .ref h18, .ref h19, .ref h20, .ref h21]), (h4, aJ (k 1) 9 (zJ [])), (h5, aJ (k 1) 9 anJ), (h7, aJ (k 1) 4 anJ)] H := hT
        refine lv_aload_n hx hb dX11_takesOut_57 rfl (lv_at hl 2 rfl) ?_
        refine tz_get (ci := 8) (v := .ref h5) (C := RX11) (F := TX11) (N := 36) hx hb hU iX11 hown hK hT 0 rfl rfl 12 (by decide) w797 (fun _ h9 => h9) rfl dX11_takesOut_58 ?_
        refine lv_iload hx hb dX11_takesOut_61 (lv_at hl 0 rfl) ?_
        refine lv_lconst (v := 0) hx hb dX11_takesOut_63 (by decide) ?_
        have hT := hT.wk (q := 2) rfl (z_of (c := k 1) (n := 9))
        have hT : TP D A [(h0, ob 8 [.int h0f0, .int h0f1, .int h0f2, .int h0f3, .int h0f4, .int h0f5, .ref h1, .ref h2, .int h0f8, .int h0f9, .ref h3, .ref h4, .ref h5, .ref h6, .ref h7, .ref h8, .ref h9, .int h0f17, .int h0f18, .int h0f19, .ref h10, .ref h11, .ref h12, .ref h13, .int h0f24, .int h0f25, .ref h14, .ref h15, .ref h16, .ref h17, .int h0f30, .int h0f31, .ref h18, .ref h19, .ref h20, .ref h21]), (h4, aJ (k 1) 9 (zJ [])), (h5, aJ (k 1) 9 (zJ [])), (h7, aJ (k 1) 4 anJ)] H := hT
        refine tz_lastP hx hb hK hT hS 2 (zJ [0]) rfl (by have := li_0; omega) (z_put0 (z := 0) li_0 (by decide)) dX11_takesOut_64 (fun H locs hT hS => ?_)
        have hT : TP D A [(h0, ob 8 [.int h0f0, .int h0f1, .int h0f2, .int h0f3, .int h0f4, .int h0f5, .ref h1, .ref h2, .int h0f8, .int h0f9, .ref h3, .ref h4, .ref h5, .ref h6, .ref h7, .ref h8, .ref h9, .int h0f17, .int h0f18, .int h0f19, .ref h10, .ref h11, .ref h12, .ref h13, .int h0f24, .int h0f25, .ref h14, .ref h15, .ref h16, .ref h17, .int h0f30, .int h0f31, .ref h18, .ref h19, .ref h20, .ref h21]), (h4, aJ (k 1) 9 (zJ [])), (h5, aJ (k 1) 9 (zJ [0])), (h7, aJ (k 1) 4 anJ)] H := hT
        refine lv_iinc (v := 1) (lv' := [(5, .int 1), (4, .int 3), (0, .ref h0), (1, .int x1), (2, .int x2), (3, .int x3)]) hx hb dX11_takesOut_65 hl (k := 0) rfl (by decide) (by decide) rfl (fun ls hl => ?_)
        refine lv_goto (tgt := 37) hx hb dX11_takesOut_68 (by decide) ?_
        refine lv_iload hx hb dX11_takesOut_37 (lv_at hl 0 rfl) ?_
        refine lv_iconst (v := 4) hx hb dX11_takesOut_39 (by decide) ?_
        refine lv_icmp_ge (tgt := 71) hx hb dX11_takesOut_40 (by decide) (fun cc => absurd cc (by decide +kernel)) (fun _ => ?_)
        refine lv_aload_n hx hb dX11_takesOut_43 rfl (lv_at hl 2 rfl) ?_
        refine tz_get (ci := 8) (v := .ref h4) (C := RX11) (F := TX11) (N := 36) hx hb hU iX11 hown hK hT 0 rfl rfl 11 (by decide) w796 (fun _ h9 => h9) rfl dX11_takesOut_44 ?_
        refine lv_iload hx hb dX11_takesOut_47 (lv_at hl 0 rfl) ?_
        refine lv_aload_n hx hb dX11_takesOut_49 rfl (lv_at hl 2 rfl) ?_
        refine tz_get (ci := 8) (v := .ref h7) (C := RX11) (F := TX11) (N := 36) hx hb hU iX11 hown hK hT 0 rfl rfl 14 (by decide) w799 (fun _ h9 => h9) rfl dX11_takesOut_50 ?_
        refine lv_iload hx hb dX11_takesOut_53 (lv_at hl 0 rfl) ?_
        refine tz_lald hx hb hK hT 3 rfl (by have := li_1; omega) dX11_takesOut_55 (fun v6 e_v6 => ?_)
        clear e_v6
        refine tz_lastP hx hb hK hT hS 1 (zJ []) rfl (by have := li_1; omega) (z_putx (z := 1) li_1 (by decide)) dX11_takesOut_56 (fun H locs hT hS => ?_)
        have hT : TP D A [(h0, ob 8 [.int h0f0, .int h0f1, .int h0f2, .int h0f3, .int h0f4, .int h0f5, .ref h1, .ref h2, .int h0f8, .int h0f9, .ref h3, .ref h4, .ref h5, .ref h6, .ref h7, .ref h8, .ref h9, .int h0f17, .int h0f18, .int h0f19, .ref h10, .ref h11, .ref h12, .ref h13, .int h0f24, .int h0f25, .ref h14, .ref h15, .ref h16, .ref h17, .int h0f30, .int h0f31, .ref h18, .ref h19, .ref h20, .ref h21]), (h4, aJ (k 1) 9 (zJ [])), (h5, aJ (k 1) 9 (zJ [0])), (h7, aJ (k 1) 4 anJ)] H := hT
        refine lv_aload_n hx hb dX11_takesOut_57 rfl (lv_at hl 2 rfl) ?_
        refine tz_get (ci := 8) (v := .ref h5) (C := RX11) (F := TX11) (N := 36) hx hb hU iX11 hown hK hT 0 rfl rfl 12 (by decide) w797 (fun _ h9 => h9) rfl dX11_takesOut_58 ?_
        refine lv_iload hx hb dX11_takesOut_61 (lv_at hl 0 rfl) ?_
        refine lv_lconst (v := 0) hx hb dX11_takesOut_63 (by decide) ?_
        refine tz_lastP hx hb hK hT hS 2 (zJ [0, 1]) rfl (by have := li_1; omega) (z_put0 (z := 1) li_1 (by decide)) dX11_takesOut_64 (fun H locs hT hS => ?_)
        have hT : TP D A [(h0, ob 8 [.int h0f0, .int h0f1, .int h0f2, .int h0f3, .int h0f4, .int h0f5, .ref h1, .ref h2, .int h0f8, .int h0f9, .ref h3, .ref h4, .ref h5, .ref h6, .ref h7, .ref h8, .ref h9, .int h0f17, .int h0f18, .int h0f19, .ref h10, .ref h11, .ref h12, .ref h13, .int h0f24, .int h0f25, .ref h14, .ref h15, .ref h16, .ref h17, .int h0f30, .int h0f31, .ref h18, .ref h19, .ref h20, .ref h21]), (h4, aJ (k 1) 9 (zJ [])), (h5, aJ (k 1) 9 (zJ [0, 1])), (h7, aJ (k 1) 4 anJ)] H := hT
        refine lv_iinc (v := 2) (lv' := [(5, .int 2), (4, .int 3), (0, .ref h0), (1, .int x1), (2, .int x2), (3, .int x3)]) hx hb dX11_takesOut_65 hl (k := 0) rfl (by decide) (by decide) rfl (fun ls hl => ?_)
        refine lv_goto (tgt := 37) hx hb dX11_takesOut_68 (by decide) ?_
        refine lv_iload hx hb dX11_takesOut_37 (lv_at hl 0 rfl) ?_
        refine lv_iconst (v := 4) hx hb dX11_takesOut_39 (by decide) ?_
        refine lv_icmp_ge (tgt := 71) hx hb dX11_takesOut_40 (by decide) (fun cc => absurd cc (by decide +kernel)) (fun _ => ?_)
        refine lv_aload_n hx hb dX11_takesOut_43 rfl (lv_at hl 2 rfl) ?_
        refine tz_get (ci := 8) (v := .ref h4) (C := RX11) (F := TX11) (N := 36) hx hb hU iX11 hown hK hT 0 rfl rfl 11 (by decide) w796 (fun _ h9 => h9) rfl dX11_takesOut_44 ?_
        refine lv_iload hx hb dX11_takesOut_47 (lv_at hl 0 rfl) ?_
        refine lv_aload_n hx hb dX11_takesOut_49 rfl (lv_at hl 2 rfl) ?_
        refine tz_get (ci := 8) (v := .ref h7) (C := RX11) (F := TX11) (N := 36) hx hb hU iX11 hown hK hT 0 rfl rfl 14 (by decide) w799 (fun _ h9 => h9) rfl dX11_takesOut_50 ?_
        refine lv_iload hx hb dX11_takesOut_53 (lv_at hl 0 rfl) ?_
        refine tz_lald hx hb hK hT 3 rfl (by have := li_2; omega) dX11_takesOut_55 (fun v7 e_v7 => ?_)
        clear e_v7
        refine tz_lastP hx hb hK hT hS 1 (zJ []) rfl (by have := li_2; omega) (z_putx (z := 2) li_2 (by decide)) dX11_takesOut_56 (fun H locs hT hS => ?_)
        have hT : TP D A [(h0, ob 8 [.int h0f0, .int h0f1, .int h0f2, .int h0f3, .int h0f4, .int h0f5, .ref h1, .ref h2, .int h0f8, .int h0f9, .ref h3, .ref h4, .ref h5, .ref h6, .ref h7, .ref h8, .ref h9, .int h0f17, .int h0f18, .int h0f19, .ref h10, .ref h11, .ref h12, .ref h13, .int h0f24, .int h0f25, .ref h14, .ref h15, .ref h16, .ref h17, .int h0f30, .int h0f31, .ref h18, .ref h19, .ref h20, .ref h21]), (h4, aJ (k 1) 9 (zJ [])), (h5, aJ (k 1) 9 (zJ [0, 1])), (h7, aJ (k 1) 4 anJ)] H := hT
        refine lv_aload_n hx hb dX11_takesOut_57 rfl (lv_at hl 2 rfl) ?_
        refine tz_get (ci := 8) (v := .ref h5) (C := RX11) (F := TX11) (N := 36) hx hb hU iX11 hown hK hT 0 rfl rfl 12 (by decide) w797 (fun _ h9 => h9) rfl dX11_takesOut_58 ?_
        refine lv_iload hx hb dX11_takesOut_61 (lv_at hl 0 rfl) ?_
        refine lv_lconst (v := 0) hx hb dX11_takesOut_63 (by decide) ?_
        refine tz_lastP hx hb hK hT hS 2 (zJ [0, 1, 2]) rfl (by have := li_2; omega) (z_put0 (z := 2) li_2 (by decide)) dX11_takesOut_64 (fun H locs hT hS => ?_)
        have hT : TP D A [(h0, ob 8 [.int h0f0, .int h0f1, .int h0f2, .int h0f3, .int h0f4, .int h0f5, .ref h1, .ref h2, .int h0f8, .int h0f9, .ref h3, .ref h4, .ref h5, .ref h6, .ref h7, .ref h8, .ref h9, .int h0f17, .int h0f18, .int h0f19, .ref h10, .ref h11, .ref h12, .ref h13, .int h0f24, .int h0f25, .ref h14, .ref h15, .ref h16, .ref h17, .int h0f30, .int h0f31, .ref h18, .ref h19, .ref h20, .ref h21]), (h4, aJ (k 1) 9 (zJ [])), (h5, aJ (k 1) 9 (zJ [0, 1, 2])), (h7, aJ (k 1) 4 anJ)] H := hT
        refine lv_iinc (v := 3) (lv' := [(5, .int 3), (4, .int 3), (0, .ref h0), (1, .int x1), (2, .int x2), (3, .int x3)]) hx hb dX11_takesOut_65 hl (k := 0) rfl (by decide) (by decide) rfl (fun ls hl => ?_)
        refine lv_goto (tgt := 37) hx hb dX11_takesOut_68 (by decide) ?_
        refine lv_iload hx hb dX11_takesOut_37 (lv_at hl 0 rfl) ?_
        refine lv_iconst (v := 4) hx hb dX11_takesOut_39 (by decide) ?_
        refine lv_icmp_ge (tgt := 71) hx hb dX11_takesOut_40 (by decide) (fun cc => absurd cc (by decide +kernel)) (fun _ => ?_)
        refine lv_aload_n hx hb dX11_takesOut_43 rfl (lv_at hl 2 rfl) ?_
        refine tz_get (ci := 8) (v := .ref h4) (C := RX11) (F := TX11) (N := 36) hx hb hU iX11 hown hK hT 0 rfl rfl 11 (by decide) w796 (fun _ h9 => h9) rfl dX11_takesOut_44 ?_
        refine lv_iload hx hb dX11_takesOut_47 (lv_at hl 0 rfl) ?_
        refine lv_aload_n hx hb dX11_takesOut_49 rfl (lv_at hl 2 rfl) ?_
        refine tz_get (ci := 8) (v := .ref h7) (C := RX11) (F := TX11) (N := 36) hx hb hU iX11 hown hK hT 0 rfl rfl 14 (by decide) w799 (fun _ h9 => h9) rfl dX11_takesOut_50 ?_
        refine lv_iload hx hb dX11_takesOut_53 (lv_at hl 0 rfl) ?_
        refine tz_lald hx hb hK hT 3 rfl (by have := li_3; omega) dX11_takesOut_55 (fun v8 e_v8 => ?_)
        clear e_v8
        refine tz_lastP hx hb hK hT hS 1 (zJ []) rfl (by have := li_3; omega) (z_putx (z := 3) li_3 (by decide)) dX11_takesOut_56 (fun H locs hT hS => ?_)
        have hT : TP D A [(h0, ob 8 [.int h0f0, .int h0f1, .int h0f2, .int h0f3, .int h0f4, .int h0f5, .ref h1, .ref h2, .int h0f8, .int h0f9, .ref h3, .ref h4, .ref h5, .ref h6, .ref h7, .ref h8, .ref h9, .int h0f17, .int h0f18, .int h0f19, .ref h10, .ref h11, .ref h12, .ref h13, .int h0f24, .int h0f25, .ref h14, .ref h15, .ref h16, .ref h17, .int h0f30, .int h0f31, .ref h18, .ref h19, .ref h20, .ref h21]), (h4, aJ (k 1) 9 (zJ [])), (h5, aJ (k 1) 9 (zJ [0, 1, 2])), (h7, aJ (k 1) 4 anJ)] H := hT
        refine lv_aload_n hx hb dX11_takesOut_57 rfl (lv_at hl 2 rfl) ?_
        refine tz_get (ci := 8) (v := .ref h5) (C := RX11) (F := TX11) (N := 36) hx hb hU iX11 hown hK hT 0 rfl rfl 12 (by decide) w797 (fun _ h9 => h9) rfl dX11_takesOut_58 ?_
        refine lv_iload hx hb dX11_takesOut_61 (lv_at hl 0 rfl) ?_
        refine lv_lconst (v := 0) hx hb dX11_takesOut_63 (by decide) ?_
        refine tz_lastP hx hb hK hT hS 2 (zJ [0, 1, 2, 3]) rfl (by have := li_3; omega) (z_put0 (z := 3) li_3 (by decide)) dX11_takesOut_64 (fun H locs hT hS => ?_)
        have hT : TP D A [(h0, ob 8 [.int h0f0, .int h0f1, .int h0f2, .int h0f3, .int h0f4, .int h0f5, .ref h1, .ref h2, .int h0f8, .int h0f9, .ref h3, .ref h4, .ref h5, .ref h6, .ref h7, .ref h8, .ref h9, .int h0f17, .int h0f18, .int h0f19, .ref h10, .ref h11, .ref h12, .ref h13, .int h0f24, .int h0f25, .ref h14, .ref h15, .ref h16, .ref h17, .int h0f30, .int h0f31, .ref h18, .ref h19, .ref h20, .ref h21]), (h4, aJ (k 1) 9 (zJ [])), (h5, aJ (k 1) 9 (zJ [0, 1, 2, 3])), (h7, aJ (k 1) 4 anJ)] H := hT
        refine lv_iinc (v := 4) (lv' := [(5, .int 4), (4, .int 3), (0, .ref h0), (1, .int x1), (2, .int x2), (3, .int x3)]) hx hb dX11_takesOut_65 hl (k := 0) rfl (by decide) (by decide) rfl (fun ls hl => ?_)
        refine lv_goto (tgt := 37) hx hb dX11_takesOut_68 (by decide) ?_
        refine lv_iload hx hb dX11_takesOut_37 (lv_at hl 0 rfl) ?_
        refine lv_iconst (v := 4) hx hb dX11_takesOut_39 (by decide) ?_
        refine lv_icmp_ge (tgt := 71) hx hb dX11_takesOut_40 (by decide) (fun _ => ?_) (fun cc => absurd (by decide +kernel) cc)
        refine lv_iload hx hb dX11_takesOut_71 (lv_at hl 1 rfl) ?_
        refine lv_istore (lv' := [(5, .int 3), (4, .int 3), (0, .ref h0), (1, .int x1), (2, .int x2), (3, .int x3)]) hx hb dX11_takesOut_73 hl (by decide) rfl (fun ls hl => ?_)
        refine lv_iload hx hb dX11_takesOut_75 (lv_at hl 0 rfl) ?_
        refine lv_iload_n hx hb dX11_takesOut_77 rfl (lv_at hl 3 rfl) ?_
        refine lv_icmp_lt (tgt := 154) hx hb dX11_takesOut_78 (by decide) (fun c_9 => ?_) (fun c_9 => ?_)
        · skip
          have c_9 := ni_lt c_9 li_3 hq1
          exfalso; omega
        · skip
          have c_9 := ni_nlt c_9 li_3 hq1
          refine lv_aload_n hx hb dX11_takesOut_81 rfl (lv_at hl 2 rfl) ?_
          refine tz_get (ci := 8) (v := .ref h4) (C := RX11) (F := TX11) (N := 36) hx hb hU iX11 hown hK hT 0 rfl rfl 11 (by decide) w796 (fun _ h9 => h9) rfl dX11_takesOut_82 ?_
          refine lv_iload hx hb dX11_takesOut_85 (lv_at hl 0 rfl) ?_
          refine tz_lald hx hb hK hT 1 rfl (by have := li_3; omega) dX11_takesOut_87 (fun v10 e_v10 => ?_)
          clear e_v10
          refine lv_lstore (lv' := [(6, .long v10), (5, .int 3), (4, .int 3), (0, .ref h0), (1, .int x1), (2, .int x2), (3, .int x3)]) hx hb dX11_takesOut_88 hl (by decide) rfl (fun ls hl => ?_)
          refine lv_aload_n hx hb dX11_takesOut_90 rfl (lv_at hl 3 rfl) ?_
          refine tz_get (ci := 8) (v := .ref h5) (C := RX11) (F := TX11) (N := 36) hx hb hU iX11 hown hK hT 0 rfl rfl 12 (by decide) w797 (fun _ h9 => h9) rfl dX11_takesOut_91 ?_
          refine lv_iload hx hb dX11_takesOut_94 (lv_at hl 1 rfl) ?_
          refine lv_iload_n hx hb dX11_takesOut_96 rfl (lv_at hl 4 rfl) ?_
          refine lv_isub hx hb dX11_takesOut_97 (lv_topi (fun v11 e_v11 => ?_))
          have e_v11 := ai_sub e_v11 li_3 hq1 (by omega)
          refine lv_lload hx hb dX11_takesOut_98 (lv_at hl 0 rfl) ?_
          refine tz_lastP hx hb hK hT hS 2 (zJ [0, 1, 3]) rfl (by omega) (z_putx (z := 2) (show v11.toInt = 2 by omega) (by decide)) dX11_takesOut_100 (fun H locs hT hS => ?_)
          have hT : TP D A [(h0, ob 8 [.int h0f0, .int h0f1, .int h0f2, .int h0f3, .int h0f4, .int h0f5, .ref h1, .ref h2, .int h0f8, .int h0f9, .ref h3, .ref h4, .ref h5, .ref h6, .ref h7, .ref h8, .ref h9, .int h0f17, .int h0f18, .int h0f19, .ref h10, .ref h11, .ref h12, .ref h13, .int h0f24, .int h0f25, .ref h14, .ref h15, .ref h16, .ref h17, .int h0f30, .int h0f31, .ref h18, .ref h19, .ref h20, .ref h21]), (h4, aJ (k 1) 9 (zJ [])), (h5, aJ (k 1) 9 (zJ [0, 1, 3])), (h7, aJ (k 1) 4 anJ)] H := hT
          refine lv_aload_n hx hb dX11_takesOut_101 rfl (lv_at hl 3 rfl) ?_
          refine tz_get (ci := 8) (v := .ref h4) (C := RX11) (F := TX11) (N := 36) hx hb hU iX11 hown hK hT 0 rfl rfl 11 (by decide) w796 (fun _ h9 => h9) rfl dX11_takesOut_102 ?_
          refine lv_iload hx hb dX11_takesOut_105 (lv_at hl 1 rfl) ?_
          refine lv_iload_n hx hb dX11_takesOut_107 rfl (lv_at hl 4 rfl) ?_
          refine lv_isub hx hb dX11_takesOut_108 (lv_topi (fun v12 e_v12 => ?_))
          have e_v12 := ai_sub e_v12 li_3 hq1 (by omega)
          refine lv_dup2_11 hx hb dX11_takesOut_109 rfl rfl ?_
          refine tz_lald hx hb hK hT 1 rfl (by omega) dX11_takesOut_110 (fun v13 e_v13 => ?_)
          clear e_v13
          refine lv_lload hx hb dX11_takesOut_111 (lv_at hl 0 rfl) ?_
          refine lv_iload_n hx hb dX11_takesOut_113 rfl (lv_at hl 5 rfl) ?_
          obtain ⟨v14, e_v14⟩ : ∃ x : Int64, x2.toInt64 = x := ⟨_, rfl⟩
          refine lv_i2l (v := v14) hx hb dX11_takesOut_114 e_v14 ?_
          have e_v14 := ai_i2l e_v14 rfl
          refine lv_lmul hx hb dX11_takesOut_115 (lv_topl (fun v15 e_v15 => ?_))
          refine lv_lsub hx hb dX11_takesOut_116 (lv_topl (fun v16 e_v16 => ?_))
          refine tz_lastP hx hb hK hT hS 1 (zJ []) rfl (by omega) (z_putx (z := 2) (show v12.toInt = 2 by omega) (by decide)) dX11_takesOut_117 (fun H locs hT hS => ?_)
          have hT : TP D A [(h0, ob 8 [.int h0f0, .int h0f1, .int h0f2, .int h0f3, .int h0f4, .int h0f5, .ref h1, .ref h2, .int h0f8, .int h0f9, .ref h3, .ref h4, .ref h5, .ref h6, .ref h7, .ref h8, .ref h9, .int h0f17, .int h0f18, .int h0f19, .ref h10, .ref h11, .ref h12, .ref h13, .int h0f24, .int h0f25, .ref h14, .ref h15, .ref h16, .ref h17, .int h0f30, .int h0f31, .ref h18, .ref h19, .ref h20, .ref h21]), (h4, aJ (k 1) 9 (zJ [])), (h5, aJ (k 1) 9 (zJ [0, 1, 3])), (h7, aJ (k 1) 4 anJ)] H := hT
          refine lv_iload_n hx hb dX11_takesOut_118 rfl (lv_at hl 4 rfl) ?_
          refine lv_iconst (v := 2) hx hb dX11_takesOut_119 (by decide) ?_
          refine lv_icmp_ne (tgt := 140) hx hb dX11_takesOut_120 (by decide) (fun c_17 => ?_) (fun c_17 => ?_)
          · skip
            have c_17 := ni_ne c_17 hq1 li_2
            refine lv_aload_n hx hb dX11_takesOut_140 rfl (lv_at hl 3 rfl) ?_
            refine tz_get (ci := 8) (v := .ref h4) (C := RX11) (F := TX11) (N := 36) hx hb hU iX11 hown hK hT 0 rfl rfl 11 (by decide) w796 (fun _ h9 => h9) rfl dX11_takesOut_141 ?_
            refine lv_iload hx hb dX11_takesOut_144 (lv_at hl 1 rfl) ?_
            refine lv_lconst (v := 0) hx hb dX11_takesOut_146 (by decide) ?_
            refine tz_lastP hx hb hK hT hS 1 (zJ [3]) rfl (by have := li_3; omega) (z_put0 (z := 3) li_3 (by decide)) dX11_takesOut_147 (fun H locs hT hS => ?_)
            have hT : TP D A [(h0, ob 8 [.int h0f0, .int h0f1, .int h0f2, .int h0f3, .int h0f4, .int h0f5, .ref h1, .ref h2, .int h0f8, .int h0f9, .ref h3, .ref h4, .ref h5, .ref h6, .ref h7, .ref h8, .ref h9, .int h0f17, .int h0f18, .int h0f19, .ref h10, .ref h11, .ref h12, .ref h13, .int h0f24, .int h0f25, .ref h14, .ref h15, .ref h16, .ref h17, .int h0f30, .int h0f31, .ref h18, .ref h19, .ref h20, .ref h21]), (h4, aJ (k 1) 9 (zJ [3])), (h5, aJ (k 1) 9 (zJ [0, 1, 3])), (h7, aJ (k 1) 4 anJ)] H := hT
            refine lv_iinc (v := 2) (lv' := [(5, .int 2), (6, .long v10), (4, .int 3), (0, .ref h0), (1, .int x1), (2, .int x2), (3, .int x3)]) hx hb dX11_takesOut_148 hl (k := 1) rfl (by decide) (by decide) rfl (fun ls hl => ?_)
            refine lv_goto (tgt := 75) hx hb dX11_takesOut_151 (by decide) ?_
            refine lv_iload hx hb dX11_takesOut_75 (lv_at hl 0 rfl) ?_
            refine lv_iload_n hx hb dX11_takesOut_77 rfl (lv_at hl 4 rfl) ?_
            refine lv_icmp_lt (tgt := 154) hx hb dX11_takesOut_78 (by decide) (fun c_18 => ?_) (fun c_18 => ?_)
            · skip
              have c_18 := ni_lt c_18 li_2 hq1
              exfalso; omega
            · skip
              have c_18 := ni_nlt c_18 li_2 hq1
              refine lv_aload_n hx hb dX11_takesOut_81 rfl (lv_at hl 3 rfl) ?_
              refine tz_get (ci := 8) (v := .ref h4) (C := RX11) (F := TX11) (N := 36) hx hb hU iX11 hown hK hT 0 rfl rfl 11 (by decide) w796 (fun _ h9 => h9) rfl dX11_takesOut_82 ?_
              refine lv_iload hx hb dX11_takesOut_85 (lv_at hl 0 rfl) ?_
              refine tz_lald hx hb hK hT 1 rfl (by have := li_2; omega) dX11_takesOut_87 (fun v19 e_v19 => ?_)
              clear e_v19
              refine lv_lstore (lv' := [(6, .long v19), (5, .int 2), (4, .int 3), (0, .ref h0), (1, .int x1), (2, .int x2), (3, .int x3)]) hx hb dX11_takesOut_88 hl (by decide) rfl (fun ls hl => ?_)
              refine lv_aload_n hx hb dX11_takesOut_90 rfl (lv_at hl 3 rfl) ?_
              refine tz_get (ci := 8) (v := .ref h5) (C := RX11) (F := TX11) (N := 36) hx hb hU iX11 hown hK hT 0 rfl rfl 12 (by decide) w797 (fun _ h9 => h9) rfl dX11_takesOut_91 ?_
              refine lv_iload hx hb dX11_takesOut_94 (lv_at hl 1 rfl) ?_
              refine lv_iload_n hx hb dX11_takesOut_96 rfl (lv_at hl 4 rfl) ?_
              refine lv_isub hx hb dX11_takesOut_97 (lv_topi (fun v20 e_v20 => ?_))
              have e_v20 := ai_sub e_v20 li_2 hq1 (by omega)
              refine lv_lload hx hb dX11_takesOut_98 (lv_at hl 0 rfl) ?_
              refine tz_lastP hx hb hK hT hS 2 (zJ [0, 3]) rfl (by omega) (z_putx (z := 1) (show v20.toInt = 1 by omega) (by decide)) dX11_takesOut_100 (fun H locs hT hS => ?_)
              have hT : TP D A [(h0, ob 8 [.int h0f0, .int h0f1, .int h0f2, .int h0f3, .int h0f4, .int h0f5, .ref h1, .ref h2, .int h0f8, .int h0f9, .ref h3, .ref h4, .ref h5, .ref h6, .ref h7, .ref h8, .ref h9, .int h0f17, .int h0f18, .int h0f19, .ref h10, .ref h11, .ref h12, .ref h13, .int h0f24, .int h0f25, .ref h14, .ref h15, .ref h16, .ref h17, .int h0f30, .int h0f31, .ref h18, .ref h19, .ref h20, .ref h21]), (h4, aJ (k 1) 9 (zJ [3])), (h5, aJ (k 1) 9 (zJ [0, 3])), (h7, aJ (k 1) 4 anJ)] H := hT
              refine lv_aload_n hx hb dX11_takesOut_101 rfl (lv_at hl 3 rfl) ?_
              refine tz_get (ci := 8) (v := .ref h4) (C := RX11) (F := TX11) (N := 36) hx hb hU iX11 hown hK hT 0 rfl rfl 11 (by decide) w796 (fun _ h9 => h9) rfl dX11_takesOut_102 ?_
              refine lv_iload hx hb dX11_takesOut_105 (lv_at hl 1 rfl) ?_
              refine lv_iload_n hx hb dX11_takesOut_107 rfl (lv_at hl 4 rfl) ?_
              refine lv_isub hx hb dX11_takesOut_108 (lv_topi (fun v21 e_v21 => ?_))
              have e_v21 := ai_sub e_v21 li_2 hq1 (by omega)
              refine lv_dup2_11 hx hb dX11_takesOut_109 rfl rfl ?_
              refine tz_lald hx hb hK hT 1 rfl (by omega) dX11_takesOut_110 (fun v22 e_v22 => ?_)
              clear e_v22
              refine lv_lload hx hb dX11_takesOut_111 (lv_at hl 0 rfl) ?_
              refine lv_iload_n hx hb dX11_takesOut_113 rfl (lv_at hl 5 rfl) ?_
              obtain ⟨v23, e_v23⟩ : ∃ x : Int64, x2.toInt64 = x := ⟨_, rfl⟩
              refine lv_i2l (v := v23) hx hb dX11_takesOut_114 e_v23 ?_
              have e_v23 := ai_i2l e_v23 rfl
              refine lv_lmul hx hb dX11_takesOut_115 (lv_topl (fun v24 e_v24 => ?_))
              refine lv_lsub hx hb dX11_takesOut_116 (lv_topl (fun v25 e_v25 => ?_))
              refine tz_lastP hx hb hK hT hS 1 (zJ [3]) rfl (by omega) (z_putx (z := 1) (show v21.toInt = 1 by omega) (by decide)) dX11_takesOut_117 (fun H locs hT hS => ?_)
              have hT : TP D A [(h0, ob 8 [.int h0f0, .int h0f1, .int h0f2, .int h0f3, .int h0f4, .int h0f5, .ref h1, .ref h2, .int h0f8, .int h0f9, .ref h3, .ref h4, .ref h5, .ref h6, .ref h7, .ref h8, .ref h9, .int h0f17, .int h0f18, .int h0f19, .ref h10, .ref h11, .ref h12, .ref h13, .int h0f24, .int h0f25, .ref h14, .ref h15, .ref h16, .ref h17, .int h0f30, .int h0f31, .ref h18, .ref h19, .ref h20, .ref h21]), (h4, aJ (k 1) 9 (zJ [3])), (h5, aJ (k 1) 9 (zJ [0, 3])), (h7, aJ (k 1) 4 anJ)] H := hT
              refine lv_iload_n hx hb dX11_takesOut_118 rfl (lv_at hl 4 rfl) ?_
              refine lv_iconst (v := 2) hx hb dX11_takesOut_119 (by decide) ?_
              refine lv_icmp_ne (tgt := 140) hx hb dX11_takesOut_120 (by decide) (fun c_26 => ?_) (fun c_26 => ?_)
              · skip
                have c_26 := ni_ne c_26 hq1 li_2
                refine lv_aload_n hx hb dX11_takesOut_140 rfl (lv_at hl 3 rfl) ?_
                refine tz_get (ci := 8) (v := .ref h4) (C := RX11) (F := TX11) (N := 36) hx hb hU iX11 hown hK hT 0 rfl rfl 11 (by decide) w796 (fun _ h9 => h9) rfl dX11_takesOut_141 ?_
                refine lv_iload hx hb dX11_takesOut_144 (lv_at hl 1 rfl) ?_
                refine lv_lconst (v := 0) hx hb dX11_takesOut_146 (by decide) ?_
                refine tz_lastP hx hb hK hT hS 1 (zJ [2, 3]) rfl (by have := li_2; omega) (z_put0 (z := 2) li_2 (by decide)) dX11_takesOut_147 (fun H locs hT hS => ?_)
                have hT : TP D A [(h0, ob 8 [.int h0f0, .int h0f1, .int h0f2, .int h0f3, .int h0f4, .int h0f5, .ref h1, .ref h2, .int h0f8, .int h0f9, .ref h3, .ref h4, .ref h5, .ref h6, .ref h7, .ref h8, .ref h9, .int h0f17, .int h0f18, .int h0f19, .ref h10, .ref h11, .ref h12, .ref h13, .int h0f24, .int h0f25, .ref h14, .ref h15, .ref h16, .ref h17, .int h0f30, .int h0f31, .ref h18, .ref h19, .ref h20, .ref h21]), (h4, aJ (k 1) 9 (zJ [2, 3])), (h5, aJ (k 1) 9 (zJ [0, 3])), (h7, aJ (k 1) 4 anJ)] H := hT
                refine lv_iinc (v := 1) (lv' := [(5, .int 1), (6, .long v19), (4, .int 3), (0, .ref h0), (1, .int x1), (2, .int x2), (3, .int x3)]) hx hb dX11_takesOut_148 hl (k := 1) rfl (by decide) (by decide) rfl (fun ls hl => ?_)
                refine lv_goto (tgt := 75) hx hb dX11_takesOut_151 (by decide) ?_
                refine lv_iload hx hb dX11_takesOut_75 (lv_at hl 0 rfl) ?_
                refine lv_iload_n hx hb dX11_takesOut_77 rfl (lv_at hl 4 rfl) ?_
                refine lv_icmp_lt (tgt := 154) hx hb dX11_takesOut_78 (by decide) (fun c_27 => ?_) (fun c_27 => ?_)
                · skip
                  have c_27 := ni_lt c_27 li_1 hq1
                  exfalso; omega
                · skip
                  have c_27 := ni_nlt c_27 li_1 hq1
                  refine lv_aload_n hx hb dX11_takesOut_81 rfl (lv_at hl 3 rfl) ?_
                  refine tz_get (ci := 8) (v := .ref h4) (C := RX11) (F := TX11) (N := 36) hx hb hU iX11 hown hK hT 0 rfl rfl 11 (by decide) w796 (fun _ h9 => h9) rfl dX11_takesOut_82 ?_
                  refine lv_iload hx hb dX11_takesOut_85 (lv_at hl 0 rfl) ?_
                  refine tz_lald hx hb hK hT 1 rfl (by have := li_1; omega) dX11_takesOut_87 (fun v28 e_v28 => ?_)
                  clear e_v28
                  refine lv_lstore (lv' := [(6, .long v28), (5, .int 1), (4, .int 3), (0, .ref h0), (1, .int x1), (2, .int x2), (3, .int x3)]) hx hb dX11_takesOut_88 hl (by decide) rfl (fun ls hl => ?_)
                  refine lv_aload_n hx hb dX11_takesOut_90 rfl (lv_at hl 3 rfl) ?_
                  refine tz_get (ci := 8) (v := .ref h5) (C := RX11) (F := TX11) (N := 36) hx hb hU iX11 hown hK hT 0 rfl rfl 12 (by decide) w797 (fun _ h9 => h9) rfl dX11_takesOut_91 ?_
                  refine lv_iload hx hb dX11_takesOut_94 (lv_at hl 1 rfl) ?_
                  refine lv_iload_n hx hb dX11_takesOut_96 rfl (lv_at hl 4 rfl) ?_
                  refine lv_isub hx hb dX11_takesOut_97 (lv_topi (fun v29 e_v29 => ?_))
                  have e_v29 := ai_sub e_v29 li_1 hq1 (by omega)
                  refine lv_lload hx hb dX11_takesOut_98 (lv_at hl 0 rfl) ?_
                  refine tz_lastP hx hb hK hT hS 2 (zJ [3]) rfl (by omega) (z_putx (z := 0) (show v29.toInt = 0 by omega) (by decide)) dX11_takesOut_100 (fun H locs hT hS => ?_)
                  have hT : TP D A [(h0, ob 8 [.int h0f0, .int h0f1, .int h0f2, .int h0f3, .int h0f4, .int h0f5, .ref h1, .ref h2, .int h0f8, .int h0f9, .ref h3, .ref h4, .ref h5, .ref h6, .ref h7, .ref h8, .ref h9, .int h0f17, .int h0f18, .int h0f19, .ref h10, .ref h11, .ref h12, .ref h13, .int h0f24, .int h0f25, .ref h14, .ref h15, .ref h16, .ref h17, .int h0f30, .int h0f31, .ref h18, .ref h19, .ref h20, .ref h21]), (h4, aJ (k 1) 9 (zJ [2, 3])), (h5, aJ (k 1) 9 (zJ [3])), (h7, aJ (k 1) 4 anJ)] H := hT
                  refine lv_aload_n hx hb dX11_takesOut_101 rfl (lv_at hl 3 rfl) ?_
                  refine tz_get (ci := 8) (v := .ref h4) (C := RX11) (F := TX11) (N := 36) hx hb hU iX11 hown hK hT 0 rfl rfl 11 (by decide) w796 (fun _ h9 => h9) rfl dX11_takesOut_102 ?_
                  refine lv_iload hx hb dX11_takesOut_105 (lv_at hl 1 rfl) ?_
                  refine lv_iload_n hx hb dX11_takesOut_107 rfl (lv_at hl 4 rfl) ?_
                  refine lv_isub hx hb dX11_takesOut_108 (lv_topi (fun v30 e_v30 => ?_))
                  have e_v30 := ai_sub e_v30 li_1 hq1 (by omega)
                  refine lv_dup2_11 hx hb dX11_takesOut_109 rfl rfl ?_
                  refine tz_lald hx hb hK hT 1 rfl (by omega) dX11_takesOut_110 (fun v31 e_v31 => ?_)
                  clear e_v31
                  refine lv_lload hx hb dX11_takesOut_111 (lv_at hl 0 rfl) ?_
                  refine lv_iload_n hx hb dX11_takesOut_113 rfl (lv_at hl 5 rfl) ?_
                  obtain ⟨v32, e_v32⟩ : ∃ x : Int64, x2.toInt64 = x := ⟨_, rfl⟩
                  refine lv_i2l (v := v32) hx hb dX11_takesOut_114 e_v32 ?_
                  have e_v32 := ai_i2l e_v32 rfl
                  refine lv_lmul hx hb dX11_takesOut_115 (lv_topl (fun v33 e_v33 => ?_))
                  refine lv_lsub hx hb dX11_takesOut_116 (lv_topl (fun v34 e_v34 => ?_))
                  refine tz_lastP hx hb hK hT hS 1 (zJ [2, 3]) rfl (by omega) (z_putx (z := 0) (show v30.toInt = 0 by omega) (by decide)) dX11_takesOut_117 (fun H locs hT hS => ?_)
                  have hT : TP D A [(h0, ob 8 [.int h0f0, .int h0f1, .int h0f2, .int h0f3, .int h0f4, .int h0f5, .ref h1, .ref h2, .int h0f8, .int h0f9, .ref h3, .ref h4, .ref h5, .ref h6, .ref h7, .ref h8, .ref h9, .int h0f17, .int h0f18, .int h0f19, .ref h10, .ref h11, .ref h12, .ref h13, .int h0f24, .int h0f25, .ref h14, .ref h15, .ref h16, .ref h17, .int h0f30, .int h0f31, .ref h18, .ref h19, .ref h20, .ref h21]), (h4, aJ (k 1) 9 (zJ [2, 3])), (h5, aJ (k 1) 9 (zJ [3])), (h7, aJ (k 1) 4 anJ)] H := hT
                  refine lv_iload_n hx hb dX11_takesOut_118 rfl (lv_at hl 4 rfl) ?_
                  refine lv_iconst (v := 2) hx hb dX11_takesOut_119 (by decide) ?_
                  refine lv_icmp_ne (tgt := 140) hx hb dX11_takesOut_120 (by decide) (fun c_35 => ?_) (fun c_35 => ?_)
                  · skip
                    have c_35 := ni_ne c_35 hq1 li_2
                    refine lv_aload_n hx hb dX11_takesOut_140 rfl (lv_at hl 3 rfl) ?_
                    refine tz_get (ci := 8) (v := .ref h4) (C := RX11) (F := TX11) (N := 36) hx hb hU iX11 hown hK hT 0 rfl rfl 11 (by decide) w796 (fun _ h9 => h9) rfl dX11_takesOut_141 ?_
                    refine lv_iload hx hb dX11_takesOut_144 (lv_at hl 1 rfl) ?_
                    refine lv_lconst (v := 0) hx hb dX11_takesOut_146 (by decide) ?_
                    refine tz_lastP hx hb hK hT hS 1 (zJ [1, 2, 3]) rfl (by have := li_1; omega) (z_put0 (z := 1) li_1 (by decide)) dX11_takesOut_147 (fun H locs hT hS => ?_)
                    have hT : TP D A [(h0, ob 8 [.int h0f0, .int h0f1, .int h0f2, .int h0f3, .int h0f4, .int h0f5, .ref h1, .ref h2, .int h0f8, .int h0f9, .ref h3, .ref h4, .ref h5, .ref h6, .ref h7, .ref h8, .ref h9, .int h0f17, .int h0f18, .int h0f19, .ref h10, .ref h11, .ref h12, .ref h13, .int h0f24, .int h0f25, .ref h14, .ref h15, .ref h16, .ref h17, .int h0f30, .int h0f31, .ref h18, .ref h19, .ref h20, .ref h21]), (h4, aJ (k 1) 9 (zJ [1, 2, 3])), (h5, aJ (k 1) 9 (zJ [3])), (h7, aJ (k 1) 4 anJ)] H := hT
                    refine lv_iinc (v := 0) (lv' := [(5, .int 0), (6, .long v28), (4, .int 3), (0, .ref h0), (1, .int x1), (2, .int x2), (3, .int x3)]) hx hb dX11_takesOut_148 hl (k := 1) rfl (by decide) (by decide) rfl (fun ls hl => ?_)
                    refine lv_goto (tgt := 75) hx hb dX11_takesOut_151 (by decide) ?_
                    refine lv_iload hx hb dX11_takesOut_75 (lv_at hl 0 rfl) ?_
                    refine lv_iload_n hx hb dX11_takesOut_77 rfl (lv_at hl 4 rfl) ?_
                    refine lv_icmp_lt (tgt := 154) hx hb dX11_takesOut_78 (by decide) (fun c_36 => ?_) (fun c_36 => ?_)
                    · skip
                      have c_36 := ni_lt c_36 li_0 hq1
                      refine lv_aload_n hx hb dX11_takesOut_154 rfl (lv_at hl 3 rfl) ?_
                      refine tz_get (ci := 8) (v := .ref h4) (C := RX11) (F := TX11) (N := 36) hx hb hU iX11 hown hK hT 0 rfl rfl 11 (by decide) w796 (fun _ h9 => h9) rfl dX11_takesOut_155 ?_
                      refine lv_iconst (v := 0) hx hb dX11_takesOut_158 (by decide) ?_
                      refine tz_lald hx hb hK hT 1 rfl (by have := li_0; omega) dX11_takesOut_159 (fun v37 e_v37 => ?_)
                      clear e_v37
                      refine lv_lconst (v := 0) hx hb dX11_takesOut_160 (by decide) ?_
                      refine W.lcmp hx hb dX11_takesOut_161 ?_
                      refine lv_if_ne (tgt := 176) hx hb dX11_takesOut_162 (by decide) (fun c_38 => ?_) (fun c_38 => ?_)
                      · skip
                        have c_38 := nl_ne c_38 rfl ll_0
                        refine lv_iconst (v := 0) hx hb dX11_takesOut_176 (by decide) ?_
                        have hT := hT.wk (q := 1) rfl (an_J (c := k 1) (n := 9))
                        have hT : TP D A [(h0, ob 8 [.int h0f0, .int h0f1, .int h0f2, .int h0f3, .int h0f4, .int h0f5, .ref h1, .ref h2, .int h0f8, .int h0f9, .ref h3, .ref h4, .ref h5, .ref h6, .ref h7, .ref h8, .ref h9, .int h0f17, .int h0f18, .int h0f19, .ref h10, .ref h11, .ref h12, .ref h13, .int h0f24, .int h0f25, .ref h14, .ref h15, .ref h16, .ref h17, .int h0f30, .int h0f31, .ref h18, .ref h19, .ref h20, .ref h21]), (h4, aJ (k 1) 9 anJ), (h5, aJ (k 1) 9 (zJ [3])), (h7, aJ (k 1) 4 anJ)] H := hT
                        have hT := hT.wk (q := 2) rfl (an_J (c := k 1) (n := 9))
                        have hT : TP D A [(h0, ob 8 [.int h0f0, .int h0f1, .int h0f2, .int h0f3, .int h0f4, .int h0f5, .ref h1, .ref h2, .int h0f8, .int h0f9, .ref h3, .ref h4, .ref h5, .ref h6, .ref h7, .ref h8, .ref h9, .int h0f17, .int h0f18, .int h0f19, .ref h10, .ref h11, .ref h12, .ref h13, .int h0f24, .int h0f25, .ref h14, .ref h15, .ref h16, .ref h17, .int h0f30, .int h0f31, .ref h18, .ref h19, .ref h20, .ref h21]), (h4, aJ (k 1) 9 anJ), (h5, aJ (k 1) 9 anJ), (h7, aJ (k 1) 4 anJ)] H := hT
                        exact tz_retZ (B := B_cX11_takesOut_ae7df D k h0 h4 h5 h7 h1 h2 h3 h6 h8 h9 h10 h11 h12 h13 h14 h15 h16 h17 h18 h19 h20 h21 x1 x2 x3 h0f0 h0f1 h0f2 h0f3 h0f4 h0f5 h0f8 h0f9 h0f17 h0f18 h0f19 h0f24 h0f25 h0f30 h0f31) (v := 0) hQ hx hb hr hlocks hS (Nat.le_of_ble_eq_true rfl) (Nat.le_of_ble_eq_true rfl) dX11_takesOut_177 (by have := li_0; omega) (Or.inl ⟨rfl, hT⟩)
                      · skip
                        have c_38 := nl_eq c_38 rfl ll_0
                        refine lv_aload_n hx hb dX11_takesOut_165 rfl (lv_at hl 3 rfl) ?_
                        refine tz_get (ci := 8) (v := .ref h4) (C := RX11) (F := TX11) (N := 36) hx hb hU iX11 hown hK hT 0 rfl rfl 11 (by decide) w796 (fun _ h9 => h9) rfl dX11_takesOut_166 ?_
                        refine lv_iconst (v := 1) hx hb dX11_takesOut_169 (by decide) ?_
                        refine tz_lald hx hb hK hT 1 rfl (by have := li_1; omega) dX11_takesOut_170 (fun v39 e_v39 => ?_)
                        have e_v39 := z_get (z := 1) e_v39 li_1 (by decide)
                        subst e_v39
                        refine lv_lconst (v := 0) hx hb dX11_takesOut_171 (by decide) ?_
                        refine W.lcmp hx hb dX11_takesOut_172 (sv_i (v := 0) (by decide +kernel) ?_)
                        refine lv_if_eq (tgt := 178) hx hb dX11_takesOut_173 (by decide) (fun _ => ?_) (fun cc => absurd (by decide +kernel) cc)
                        refine lv_iconst (v := 0) hx hb dX11_takesOut_178 (by decide) ?_
                        refine lv_istore (lv' := [(5, .int 0), (6, .long v28), (4, .int 3), (0, .ref h0), (1, .int x1), (2, .int x2), (3, .int x3)]) hx hb dX11_takesOut_179 hl (by decide) rfl (fun ls hl => ?_)
                        refine lv_iload hx hb dX11_takesOut_181 (lv_at hl 0 rfl) ?_
                        refine lv_iconst (v := 4) hx hb dX11_takesOut_183 (by decide) ?_
                        refine lv_icmp_ge (tgt := 207) hx hb dX11_takesOut_184 (by decide) (fun cc => absurd cc (by decide +kernel)) (fun _ => ?_)
                        refine lv_aload_n hx hb dX11_takesOut_187 rfl (lv_at hl 3 rfl) ?_
                        refine tz_get (ci := 8) (v := .ref h7) (C := RX11) (F := TX11) (N := 36) hx hb hU iX11 hown hK hT 0 rfl rfl 14 (by decide) w799 (fun _ h9 => h9) rfl dX11_takesOut_188 ?_
                        refine lv_iload hx hb dX11_takesOut_191 (lv_at hl 0 rfl) ?_
                        refine lv_aload_n hx hb dX11_takesOut_193 rfl (lv_at hl 3 rfl) ?_
                        refine tz_get (ci := 8) (v := .ref h5) (C := RX11) (F := TX11) (N := 36) hx hb hU iX11 hown hK hT 0 rfl rfl 12 (by decide) w797 (fun _ h9 => h9) rfl dX11_takesOut_194 ?_
                        refine lv_iload hx hb dX11_takesOut_197 (lv_at hl 0 rfl) ?_
                        refine tz_lald hx hb hK hT 2 rfl (by have := li_0; omega) dX11_takesOut_199 (fun v40 e_v40 => ?_)
                        clear e_v40
                        have hT := hT.wk (q := 3) rfl (z_of (c := k 1) (n := 4))
                        have hT : TP D A [(h0, ob 8 [.int h0f0, .int h0f1, .int h0f2, .int h0f3, .int h0f4, .int h0f5, .ref h1, .ref h2, .int h0f8, .int h0f9, .ref h3, .ref h4, .ref h5, .ref h6, .ref h7, .ref h8, .ref h9, .int h0f17, .int h0f18, .int h0f19, .ref h10, .ref h11, .ref h12, .ref h13, .int h0f24, .int h0f25, .ref h14, .ref h15, .ref h16, .ref h17, .int h0f30, .int h0f31, .ref h18, .ref h19, .ref h20, .ref h21]), (h4, aJ (k 1) 9 (zJ [1, 2, 3])), (h5, aJ (k 1) 9 (zJ [3])), (h7, aJ (k 1) 4 (zJ []))] H := hT
                        refine tz_lastP hx hb hK hT hS 3 (zJ []) rfl (by have := li_0; omega) (z_putx (z := 0) li_0 (by decide)) dX11_takesOut_200 (fun H locs hT hS => ?_)
                        have hT : TP D A [(h0, ob 8 [.int h0f0, .int h0f1, .int h0f2, .int h0f3, .int h0f4, .int h0f5, .ref h1, .ref h2, .int h0f8, .int h0f9, .ref h3, .ref h4, .ref h5, .ref h6, .ref h7, .ref h8, .ref h9, .int h0f17, .int h0f18, .int h0f19, .ref h10, .ref h11, .ref h12, .ref h13, .int h0f24, .int h0f25, .ref h14, .ref h15, .ref h16, .ref h17, .int h0f30, .int h0f31, .ref h18, .ref h19, .ref h20, .ref h21]), (h4, aJ (k 1) 9 (zJ [1, 2, 3])), (h5, aJ (k 1) 9 (zJ [3])), (h7, aJ (k 1) 4 (zJ []))] H := hT
                        refine lv_iinc (v := 1) (lv' := [(5, .int 1), (6, .long v28), (4, .int 3), (0, .ref h0), (1, .int x1), (2, .int x2), (3, .int x3)]) hx hb dX11_takesOut_201 hl (k := 0) rfl (by decide) (by decide) rfl (fun ls hl => ?_)
                        refine lv_goto (tgt := 181) hx hb dX11_takesOut_204 (by decide) ?_
                        refine lv_iload hx hb dX11_takesOut_181 (lv_at hl 0 rfl) ?_
                        refine lv_iconst (v := 4) hx hb dX11_takesOut_183 (by decide) ?_
                        refine lv_icmp_ge (tgt := 207) hx hb dX11_takesOut_184 (by decide) (fun cc => absurd cc (by decide +kernel)) (fun _ => ?_)
                        refine lv_aload_n hx hb dX11_takesOut_187 rfl (lv_at hl 3 rfl) ?_
                        refine tz_get (ci := 8) (v := .ref h7) (C := RX11) (F := TX11) (N := 36) hx hb hU iX11 hown hK hT 0 rfl rfl 14 (by decide) w799 (fun _ h9 => h9) rfl dX11_takesOut_188 ?_
                        refine lv_iload hx hb dX11_takesOut_191 (lv_at hl 0 rfl) ?_
                        refine lv_aload_n hx hb dX11_takesOut_193 rfl (lv_at hl 3 rfl) ?_
                        refine tz_get (ci := 8) (v := .ref h5) (C := RX11) (F := TX11) (N := 36) hx hb hU iX11 hown hK hT 0 rfl rfl 12 (by decide) w797 (fun _ h9 => h9) rfl dX11_takesOut_194 ?_
                        refine lv_iload hx hb dX11_takesOut_197 (lv_at hl 0 rfl) ?_
                        refine tz_lald hx hb hK hT 2 rfl (by have := li_1; omega) dX11_takesOut_199 (fun v41 e_v41 => ?_)
                        clear e_v41
                        refine tz_lastP hx hb hK hT hS 3 (zJ []) rfl (by have := li_1; omega) (z_putx (z := 1) li_1 (by decide)) dX11_takesOut_200 (fun H locs hT hS => ?_)
                        have hT : TP D A [(h0, ob 8 [.int h0f0, .int h0f1, .int h0f2, .int h0f3, .int h0f4, .int h0f5, .ref h1, .ref h2, .int h0f8, .int h0f9, .ref h3, .ref h4, .ref h5, .ref h6, .ref h7, .ref h8, .ref h9, .int h0f17, .int h0f18, .int h0f19, .ref h10, .ref h11, .ref h12, .ref h13, .int h0f24, .int h0f25, .ref h14, .ref h15, .ref h16, .ref h17, .int h0f30, .int h0f31, .ref h18, .ref h19, .ref h20, .ref h21]), (h4, aJ (k 1) 9 (zJ [1, 2, 3])), (h5, aJ (k 1) 9 (zJ [3])), (h7, aJ (k 1) 4 (zJ []))] H := hT
                        refine lv_iinc (v := 2) (lv' := [(5, .int 2), (6, .long v28), (4, .int 3), (0, .ref h0), (1, .int x1), (2, .int x2), (3, .int x3)]) hx hb dX11_takesOut_201 hl (k := 0) rfl (by decide) (by decide) rfl (fun ls hl => ?_)
                        refine lv_goto (tgt := 181) hx hb dX11_takesOut_204 (by decide) ?_
                        refine lv_iload hx hb dX11_takesOut_181 (lv_at hl 0 rfl) ?_
                        refine lv_iconst (v := 4) hx hb dX11_takesOut_183 (by decide) ?_
                        refine lv_icmp_ge (tgt := 207) hx hb dX11_takesOut_184 (by decide) (fun cc => absurd cc (by decide +kernel)) (fun _ => ?_)
                        refine lv_aload_n hx hb dX11_takesOut_187 rfl (lv_at hl 3 rfl) ?_
                        refine tz_get (ci := 8) (v := .ref h7) (C := RX11) (F := TX11) (N := 36) hx hb hU iX11 hown hK hT 0 rfl rfl 14 (by decide) w799 (fun _ h9 => h9) rfl dX11_takesOut_188 ?_
                        refine lv_iload hx hb dX11_takesOut_191 (lv_at hl 0 rfl) ?_
                        refine lv_aload_n hx hb dX11_takesOut_193 rfl (lv_at hl 3 rfl) ?_
                        refine tz_get (ci := 8) (v := .ref h5) (C := RX11) (F := TX11) (N := 36) hx hb hU iX11 hown hK hT 0 rfl rfl 12 (by decide) w797 (fun _ h9 => h9) rfl dX11_takesOut_194 ?_
                        refine lv_iload hx hb dX11_takesOut_197 (lv_at hl 0 rfl) ?_
                        refine tz_lald hx hb hK hT 2 rfl (by have := li_2; omega) dX11_takesOut_199 (fun v42 e_v42 => ?_)
                        clear e_v42
                        refine tz_lastP hx hb hK hT hS 3 (zJ []) rfl (by have := li_2; omega) (z_putx (z := 2) li_2 (by decide)) dX11_takesOut_200 (fun H locs hT hS => ?_)
                        have hT : TP D A [(h0, ob 8 [.int h0f0, .int h0f1, .int h0f2, .int h0f3, .int h0f4, .int h0f5, .ref h1, .ref h2, .int h0f8, .int h0f9, .ref h3, .ref h4, .ref h5, .ref h6, .ref h7, .ref h8, .ref h9, .int h0f17, .int h0f18, .int h0f19, .ref h10, .ref h11, .ref h12, .ref h13, .int h0f24, .int h0f25, .ref h14, .ref h15, .ref h16, .ref h17, .int h0f30, .int h0f31, .ref h18, .ref h19, .ref h20, .ref h21]), (h4, aJ (k 1) 9 (zJ [1, 2, 3])), (h5, aJ (k 1) 9 (zJ [3])), (h7, aJ (k 1) 4 (zJ []))] H := hT
                        refine lv_iinc (v := 3) (lv' := [(5, .int 3), (6, .long v28), (4, .int 3), (0, .ref h0), (1, .int x1), (2, .int x2), (3, .int x3)]) hx hb dX11_takesOut_201 hl (k := 0) rfl (by decide) (by decide) rfl (fun ls hl => ?_)
                        refine lv_goto (tgt := 181) hx hb dX11_takesOut_204 (by decide) ?_
                        refine lv_iload hx hb dX11_takesOut_181 (lv_at hl 0 rfl) ?_
                        refine lv_iconst (v := 4) hx hb dX11_takesOut_183 (by decide) ?_
                        refine lv_icmp_ge (tgt := 207) hx hb dX11_takesOut_184 (by decide) (fun cc => absurd cc (by decide +kernel)) (fun _ => ?_)
                        refine lv_aload_n hx hb dX11_takesOut_187 rfl (lv_at hl 3 rfl) ?_
                        refine tz_get (ci := 8) (v := .ref h7) (C := RX11) (F := TX11) (N := 36) hx hb hU iX11 hown hK hT 0 rfl rfl 14 (by decide) w799 (fun _ h9 => h9) rfl dX11_takesOut_188 ?_
                        refine lv_iload hx hb dX11_takesOut_191 (lv_at hl 0 rfl) ?_
                        refine lv_aload_n hx hb dX11_takesOut_193 rfl (lv_at hl 3 rfl) ?_
                        refine tz_get (ci := 8) (v := .ref h5) (C := RX11) (F := TX11) (N := 36) hx hb hU iX11 hown hK hT 0 rfl rfl 12 (by decide) w797 (fun _ h9 => h9) rfl dX11_takesOut_194 ?_
                        refine lv_iload hx hb dX11_takesOut_197 (lv_at hl 0 rfl) ?_
                        refine tz_lald hx hb hK hT 2 rfl (by have := li_3; omega) dX11_takesOut_199 (fun v43 e_v43 => ?_)
                        have e_v43 := z_get (z := 3) e_v43 li_3 (by decide)
                        subst e_v43
                        refine tz_lastP hx hb hK hT hS 3 (zJ [3]) rfl (by have := li_3; omega) (z_put0 (z := 3) li_3 (by decide)) dX11_takesOut_200 (fun H locs hT hS => ?_)
                        have hT : TP D A [(h0, ob 8 [.int h0f0, .int h0f1, .int h0f2, .int h0f3, .int h0f4, .int h0f5, .ref h1, .ref h2, .int h0f8, .int h0f9, .ref h3, .ref h4, .ref h5, .ref h6, .ref h7, .ref h8, .ref h9, .int h0f17, .int h0f18, .int h0f19, .ref h10, .ref h11, .ref h12, .ref h13, .int h0f24, .int h0f25, .ref h14, .ref h15, .ref h16, .ref h17, .int h0f30, .int h0f31, .ref h18, .ref h19, .ref h20, .ref h21]), (h4, aJ (k 1) 9 (zJ [1, 2, 3])), (h5, aJ (k 1) 9 (zJ [3])), (h7, aJ (k 1) 4 (zJ [3]))] H := hT
                        refine lv_iinc (v := 4) (lv' := [(5, .int 4), (6, .long v28), (4, .int 3), (0, .ref h0), (1, .int x1), (2, .int x2), (3, .int x3)]) hx hb dX11_takesOut_201 hl (k := 0) rfl (by decide) (by decide) rfl (fun ls hl => ?_)
                        refine lv_goto (tgt := 181) hx hb dX11_takesOut_204 (by decide) ?_
                        refine lv_iload hx hb dX11_takesOut_181 (lv_at hl 0 rfl) ?_
                        refine lv_iconst (v := 4) hx hb dX11_takesOut_183 (by decide) ?_
                        refine lv_icmp_ge (tgt := 207) hx hb dX11_takesOut_184 (by decide) (fun _ => ?_) (fun cc => absurd (by decide +kernel) cc)
                        refine lv_iconst (v := 1) hx hb dX11_takesOut_207 (by decide) ?_
                        have hT := hT.wk (q := 1) rfl (an_J (c := k 1) (n := 9))
                        have hT : TP D A [(h0, ob 8 [.int h0f0, .int h0f1, .int h0f2, .int h0f3, .int h0f4, .int h0f5, .ref h1, .ref h2, .int h0f8, .int h0f9, .ref h3, .ref h4, .ref h5, .ref h6, .ref h7, .ref h8, .ref h9, .int h0f17, .int h0f18, .int h0f19, .ref h10, .ref h11, .ref h12, .ref h13, .int h0f24, .int h0f25, .ref h14, .ref h15, .ref h16, .ref h17, .int h0f30, .int h0f31, .ref h18, .ref h19, .ref h20, .ref h21]), (h4, aJ (k 1) 9 anJ), (h5, aJ (k 1) 9 (zJ [3])), (h7, aJ (k 1) 4 (zJ [3]))] H := hT
                        have hT := hT.wk (q := 2) rfl (an_J (c := k 1) (n := 9))
                        have hT : TP D A [(h0, ob 8 [.int h0f0, .int h0f1, .int h0f2, .int h0f3, .int h0f4, .int h0f5, .ref h1, .ref h2, .int h0f8, .int h0f9, .ref h3, .ref h4, .ref h5, .ref h6, .ref h7, .ref h8, .ref h9, .int h0f17, .int h0f18, .int h0f19, .ref h10, .ref h11, .ref h12, .ref h13, .int h0f24, .int h0f25, .ref h14, .ref h15, .ref h16, .ref h17, .int h0f30, .int h0f31, .ref h18, .ref h19, .ref h20, .ref h21]), (h4, aJ (k 1) 9 anJ), (h5, aJ (k 1) 9 anJ), (h7, aJ (k 1) 4 (zJ [3]))] H := hT
                        exact tz_retZ (B := B_cX11_takesOut_ae7df D k h0 h4 h5 h7 h1 h2 h3 h6 h8 h9 h10 h11 h12 h13 h14 h15 h16 h17 h18 h19 h20 h21 x1 x2 x3 h0f0 h0f1 h0f2 h0f3 h0f4 h0f5 h0f8 h0f9 h0f17 h0f18 h0f19 h0f24 h0f25 h0f30 h0f31) (v := 1) hQ hx hb hr hlocks hS (Nat.le_of_ble_eq_true rfl) (Nat.le_of_ble_eq_true rfl) dX11_takesOut_208 (by have := li_1; omega) (Or.inr (Or.inl ⟨v2, v37, (by have := li_1; omega), (by have := li_1; omega), (by have := li_1; omega), (by have := li_1; omega), (by have := li_1; omega), (by have := li_1; omega), (by have := li_1; omega), (by have := li_1; omega), (by have := li_1; omega), (by have := li_1; omega), (by have := li_1; omega), rfl, hT⟩))
                    · skip
                      have c_36 := ni_nlt c_36 li_0 hq1
                      exfalso; omega
                  · skip
                    have c_35 := ni_eq c_35 hq1 li_2
                    exfalso; omega
              · skip
                have c_26 := ni_eq c_26 hq1 li_2
                exfalso; omega
          · skip
            have c_17 := ni_eq c_17 hq1 li_2
            exfalso; omega
      · skip
        have c_4 := ni_nle c_4 hq1 li_3
        exfalso; omega
    · skip
      have c_3 := nl_eq c_3 rfl ll_0
      refine lv_iinc (v := 2) (lv' := [(4, .int 2), (0, .ref h0), (1, .int x1), (2, .int x2), (3, .int x3)]) hx hb dX11_takesOut_20 hl (k := 0) rfl (by decide) (by decide) rfl (fun ls hl => ?_)
      refine lv_goto (tgt := 3) hx hb dX11_takesOut_23 (by decide) ?_
      refine lv_iload hx hb dX11_takesOut_3 (lv_at hl 0 rfl) ?_
      refine lv_if_le (tgt := 26) hx hb dX11_takesOut_5 (by decide) (fun cc => absurd cc (by decide +kernel)) (fun _ => ?_)
      refine lv_aload_n hx hb dX11_takesOut_8 rfl (lv_at hl 1 rfl) ?_
      refine tz_get (ci := 8) (v := .ref h7) (C := RX11) (F := TX11) (N := 36) hx hb hU iX11 hown hK hT 0 rfl rfl 14 (by decide) w799 (fun _ h9 => h9) rfl dX11_takesOut_9 ?_
      refine lv_iload hx hb dX11_takesOut_12 (lv_at hl 0 rfl) ?_
      refine tz_lald hx hb hK hT 3 rfl (by have := li_2; omega) dX11_takesOut_14 (fun v44 e_v44 => ?_)
      clear e_v44
      refine lv_lconst (v := 0) hx hb dX11_takesOut_15 (by decide) ?_
      refine W.lcmp hx hb dX11_takesOut_16 ?_
      refine lv_if_ne (tgt := 26) hx hb dX11_takesOut_17 (by decide) (fun c_45 => ?_) (fun c_45 => ?_)
      · skip
        have c_45 := nl_ne c_45 rfl ll_0
        refine lv_iload hx hb dX11_takesOut_26 (lv_at hl 0 rfl) ?_
        refine lv_iload_n hx hb dX11_takesOut_28 rfl (lv_at hl 2 rfl) ?_
        refine lv_icmp_ge (tgt := 34) hx hb dX11_takesOut_29 (by decide) (fun c_46 => ?_) (fun c_46 => ?_)
        · skip
          have c_46 := ni_le c_46 hq1 li_2
          refine lv_iconst (v := 0) hx hb dX11_takesOut_34 (by decide) ?_
          refine lv_istore (lv' := [(5, .int 0), (4, .int 2), (0, .ref h0), (1, .int x1), (2, .int x2), (3, .int x3)]) hx hb dX11_takesOut_35 hl (by decide) rfl (fun ls hl => ?_)
          refine lv_iload hx hb dX11_takesOut_37 (lv_at hl 0 rfl) ?_
          refine lv_iconst (v := 4) hx hb dX11_takesOut_39 (by decide) ?_
          refine lv_icmp_ge (tgt := 71) hx hb dX11_takesOut_40 (by decide) (fun cc => absurd cc (by decide +kernel)) (fun _ => ?_)
          refine lv_aload_n hx hb dX11_takesOut_43 rfl (lv_at hl 2 rfl) ?_
          refine tz_get (ci := 8) (v := .ref h4) (C := RX11) (F := TX11) (N := 36) hx hb hU iX11 hown hK hT 0 rfl rfl 11 (by decide) w796 (fun _ h9 => h9) rfl dX11_takesOut_44 ?_
          refine lv_iload hx hb dX11_takesOut_47 (lv_at hl 0 rfl) ?_
          refine lv_aload_n hx hb dX11_takesOut_49 rfl (lv_at hl 2 rfl) ?_
          refine tz_get (ci := 8) (v := .ref h7) (C := RX11) (F := TX11) (N := 36) hx hb hU iX11 hown hK hT 0 rfl rfl 14 (by decide) w799 (fun _ h9 => h9) rfl dX11_takesOut_50 ?_
          refine lv_iload hx hb dX11_takesOut_53 (lv_at hl 0 rfl) ?_
          refine tz_lald hx hb hK hT 3 rfl (by have := li_0; omega) dX11_takesOut_55 (fun v47 e_v47 => ?_)
          clear e_v47
          have hT := hT.wk (q := 1) rfl (z_of (c := k 1) (n := 9))
          have hT : TP D A [(h0, ob 8 [.int h0f0, .int h0f1, .int h0f2, .int h0f3, .int h0f4, .int h0f5, .ref h1, .ref h2, .int h0f8, .int h0f9, .ref h3, .ref h4, .ref h5, .ref h6, .ref h7, .ref h8, .ref h9, .int h0f17, .int h0f18, .int h0f19, .ref h10, .ref h11, .ref h12, .ref h13, .int h0f24, .int h0f25, .ref h14, .ref h15, .ref h16, .ref h17, .int h0f30, .int h0f31, .ref h18, .ref h19, .ref h20, .ref h21]), (h4, aJ (k 1) 9 (zJ [])), (h5, aJ (k 1) 9 anJ), (h7, aJ (k 1) 4 anJ)] H := hT
          refine tz_lastP hx hb hK hT hS 1 (zJ []) rfl (by have := li_0; omega) (z_putx (z := 0) li_0 (by decide)) dX11_takesOut_56 (fun H locs hT hS => ?_)
          have hT : TP D A [(h0, ob 8 [.int h0f0, .int h0f1, .int h0f2, .int h0f3, .int h0f4, .int h0f5, .ref h1, .ref h2, .int h0f8, .int h0f9, .ref h3, .ref h4, .ref h5, .ref h6, .ref h7, .ref h8, .ref h9, .int h0f17, .int h0f18, .int h0f19, .ref h10, .ref h11, .ref h12, .ref h13, .int h0f24, .int h0f25, .ref h14, .ref h15, .ref h16, .ref h17, .int h0f30, .int h0f31, .ref h18, .ref h19, .ref h20, .ref h21]), (h4, aJ (k 1) 9 (zJ [])), (h5, aJ (k 1) 9 anJ), (h7, aJ (k 1) 4 anJ)] H := hT
          refine lv_aload_n hx hb dX11_takesOut_57 rfl (lv_at hl 2 rfl) ?_
          refine tz_get (ci := 8) (v := .ref h5) (C := RX11) (F := TX11) (N := 36) hx hb hU iX11 hown hK hT 0 rfl rfl 12 (by decide) w797 (fun _ h9 => h9) rfl dX11_takesOut_58 ?_
          refine lv_iload hx hb dX11_takesOut_61 (lv_at hl 0 rfl) ?_
          refine lv_lconst (v := 0) hx hb dX11_takesOut_63 (by decide) ?_
          have hT := hT.wk (q := 2) rfl (z_of (c := k 1) (n := 9))
          have hT : TP D A [(h0, ob 8 [.int h0f0, .int h0f1, .int h0f2, .int h0f3, .int h0f4, .int h0f5, .ref h1, .ref h2, .int h0f8, .int h0f9, .ref h3, .ref h4, .ref h5, .ref h6, .ref h7, .ref h8, .ref h9, .int h0f17, .int h0f18, .int h0f19, .ref h10, .ref h11, .ref h12, .ref h13, .int h0f24, .int h0f25, .ref h14, .ref h15, .ref h16, .ref h17, .int h0f30, .int h0f31, .ref h18, .ref h19, .ref h20, .ref h21]), (h4, aJ (k 1) 9 (zJ [])), (h5, aJ (k 1) 9 (zJ [])), (h7, aJ (k 1) 4 anJ)] H := hT
          refine tz_lastP hx hb hK hT hS 2 (zJ [0]) rfl (by have := li_0; omega) (z_put0 (z := 0) li_0 (by decide)) dX11_takesOut_64 (fun H locs hT hS => ?_)
          have hT : TP D A [(h0, ob 8 [.int h0f0, .int h0f1, .int h0f2, .int h0f3, .int h0f4, .int h0f5, .ref h1, .ref h2, .int h0f8, .int h0f9, .ref h3, .ref h4, .ref h5, .ref h6, .ref h7, .ref h8, .ref h9, .int h0f17, .int h0f18, .int h0f19, .ref h10, .ref h11, .ref h12, .ref h13, .int h0f24, .int h0f25, .ref h14, .ref h15, .ref h16, .ref h17, .int h0f30, .int h0f31, .ref h18, .ref h19, .ref h20, .ref h21]), (h4, aJ (k 1) 9 (zJ [])), (h5, aJ (k 1) 9 (zJ [0])), (h7, aJ (k 1) 4 anJ)] H := hT
          refine lv_iinc (v := 1) (lv' := [(5, .int 1), (4, .int 2), (0, .ref h0), (1, .int x1), (2, .int x2), (3, .int x3)]) hx hb dX11_takesOut_65 hl (k := 0) rfl (by decide) (by decide) rfl (fun ls hl => ?_)
          refine lv_goto (tgt := 37) hx hb dX11_takesOut_68 (by decide) ?_
          refine lv_iload hx hb dX11_takesOut_37 (lv_at hl 0 rfl) ?_
          refine lv_iconst (v := 4) hx hb dX11_takesOut_39 (by decide) ?_
          refine lv_icmp_ge (tgt := 71) hx hb dX11_takesOut_40 (by decide) (fun cc => absurd cc (by decide +kernel)) (fun _ => ?_)
          refine lv_aload_n hx hb dX11_takesOut_43 rfl (lv_at hl 2 rfl) ?_
          refine tz_get (ci := 8) (v := .ref h4) (C := RX11) (F := TX11) (N := 36) hx hb hU iX11 hown hK hT 0 rfl rfl 11 (by decide) w796 (fun _ h9 => h9) rfl dX11_takesOut_44 ?_
          refine lv_iload hx hb dX11_takesOut_47 (lv_at hl 0 rfl) ?_
          refine lv_aload_n hx hb dX11_takesOut_49 rfl (lv_at hl 2 rfl) ?_
          refine tz_get (ci := 8) (v := .ref h7) (C := RX11) (F := TX11) (N := 36) hx hb hU iX11 hown hK hT 0 rfl rfl 14 (by decide) w799 (fun _ h9 => h9) rfl dX11_takesOut_50 ?_
          refine lv_iload hx hb dX11_takesOut_53 (lv_at hl 0 rfl) ?_
          refine tz_lald hx hb hK hT 3 rfl (by have := li_1; omega) dX11_takesOut_55 (fun v48 e_v48 => ?_)
          clear e_v48
          refine tz_lastP hx hb hK hT hS 1 (zJ []) rfl (by have := li_1; omega) (z_putx (z := 1) li_1 (by decide)) dX11_takesOut_56 (fun H locs hT hS => ?_)
          have hT : TP D A [(h0, ob 8 [.int h0f0, .int h0f1, .int h0f2, .int h0f3, .int h0f4, .int h0f5, .ref h1, .ref h2, .int h0f8, .int h0f9, .ref h3, .ref h4, .ref h5, .ref h6, .ref h7, .ref h8, .ref h9, .int h0f17, .int h0f18, .int h0f19, .ref h10, .ref h11, .ref h12, .ref h13, .int h0f24, .int h0f25, .ref h14, .ref h15, .ref h16, .ref h17, .int h0f30, .int h0f31, .ref h18, .ref h19, .ref h20, .ref h21]), (h4, aJ (k 1) 9 (zJ [])), (h5, aJ (k 1) 9 (zJ [0])), (h7, aJ (k 1) 4 anJ)] H := hT
          refine lv_aload_n hx hb dX11_takesOut_57 rfl (lv_at hl 2 rfl) ?_
          refine tz_get (ci := 8) (v := .ref h5) (C := RX11) (F := TX11) (N := 36) hx hb hU iX11 hown hK hT 0 rfl rfl 12 (by decide) w797 (fun _ h9 => h9) rfl dX11_takesOut_58 ?_
          refine lv_iload hx hb dX11_takesOut_61 (lv_at hl 0 rfl) ?_
          refine lv_lconst (v := 0) hx hb dX11_takesOut_63 (by decide) ?_
          refine tz_lastP hx hb hK hT hS 2 (zJ [0, 1]) rfl (by have := li_1; omega) (z_put0 (z := 1) li_1 (by decide)) dX11_takesOut_64 (fun H locs hT hS => ?_)
          have hT : TP D A [(h0, ob 8 [.int h0f0, .int h0f1, .int h0f2, .int h0f3, .int h0f4, .int h0f5, .ref h1, .ref h2, .int h0f8, .int h0f9, .ref h3, .ref h4, .ref h5, .ref h6, .ref h7, .ref h8, .ref h9, .int h0f17, .int h0f18, .int h0f19, .ref h10, .ref h11, .ref h12, .ref h13, .int h0f24, .int h0f25, .ref h14, .ref h15, .ref h16, .ref h17, .int h0f30, .int h0f31, .ref h18, .ref h19, .ref h20, .ref h21]), (h4, aJ (k 1) 9 (zJ [])), (h5, aJ (k 1) 9 (zJ [0, 1])), (h7, aJ (k 1) 4 anJ)] H := hT
          refine lv_iinc (v := 2) (lv' := [(5, .int 2), (4, .int 2), (0, .ref h0), (1, .int x1), (2, .int x2), (3, .int x3)]) hx hb dX11_takesOut_65 hl (k := 0) rfl (by decide) (by decide) rfl (fun ls hl => ?_)
          refine lv_goto (tgt := 37) hx hb dX11_takesOut_68 (by decide) ?_
          refine lv_iload hx hb dX11_takesOut_37 (lv_at hl 0 rfl) ?_
          refine lv_iconst (v := 4) hx hb dX11_takesOut_39 (by decide) ?_
          refine lv_icmp_ge (tgt := 71) hx hb dX11_takesOut_40 (by decide) (fun cc => absurd cc (by decide +kernel)) (fun _ => ?_)
          refine lv_aload_n hx hb dX11_takesOut_43 rfl (lv_at hl 2 rfl) ?_
          refine tz_get (ci := 8) (v := .ref h4) (C := RX11) (F := TX11) (N := 36) hx hb hU iX11 hown hK hT 0 rfl rfl 11 (by decide) w796 (fun _ h9 => h9) rfl dX11_takesOut_44 ?_
          refine lv_iload hx hb dX11_takesOut_47 (lv_at hl 0 rfl) ?_
          refine lv_aload_n hx hb dX11_takesOut_49 rfl (lv_at hl 2 rfl) ?_
          refine tz_get (ci := 8) (v := .ref h7) (C := RX11) (F := TX11) (N := 36) hx hb hU iX11 hown hK hT 0 rfl rfl 14 (by decide) w799 (fun _ h9 => h9) rfl dX11_takesOut_50 ?_
          refine lv_iload hx hb dX11_takesOut_53 (lv_at hl 0 rfl) ?_
          refine tz_lald hx hb hK hT 3 rfl (by have := li_2; omega) dX11_takesOut_55 (fun v49 e_v49 => ?_)
          clear e_v49
          refine tz_lastP hx hb hK hT hS 1 (zJ []) rfl (by have := li_2; omega) (z_putx (z := 2) li_2 (by decide)) dX11_takesOut_56 (fun H locs hT hS => ?_)
          have hT : TP D A [(h0, ob 8 [.int h0f0, .int h0f1, .int h0f2, .int h0f3, .int h0f4, .int h0f5, .ref h1, .ref h2, .int h0f8, .int h0f9, .ref h3, .ref h4, .ref h5, .ref h6, .ref h7, .ref h8, .ref h9, .int h0f17, .int h0f18, .int h0f19, .ref h10, .ref h11, .ref h12, .ref h13, .int h0f24, .int h0f25, .ref h14, .ref h15, .ref h16, .ref h17, .int h0f30, .int h0f31, .ref h18, .ref h19, .ref h20, .ref h21]), (h4, aJ (k 1) 9 (zJ [])), (h5, aJ (k 1) 9 (zJ [0, 1])), (h7, aJ (k 1) 4 anJ)] H := hT
          refine lv_aload_n hx hb dX11_takesOut_57 rfl (lv_at hl 2 rfl) ?_
          refine tz_get (ci := 8) (v := .ref h5) (C := RX11) (F := TX11) (N := 36) hx hb hU iX11 hown hK hT 0 rfl rfl 12 (by decide) w797 (fun _ h9 => h9) rfl dX11_takesOut_58 ?_
          refine lv_iload hx hb dX11_takesOut_61 (lv_at hl 0 rfl) ?_
          refine lv_lconst (v := 0) hx hb dX11_takesOut_63 (by decide) ?_
          refine tz_lastP hx hb hK hT hS 2 (zJ [0, 1, 2]) rfl (by have := li_2; omega) (z_put0 (z := 2) li_2 (by decide)) dX11_takesOut_64 (fun H locs hT hS => ?_)
          have hT : TP D A [(h0, ob 8 [.int h0f0, .int h0f1, .int h0f2, .int h0f3, .int h0f4, .int h0f5, .ref h1, .ref h2, .int h0f8, .int h0f9, .ref h3, .ref h4, .ref h5, .ref h6, .ref h7, .ref h8, .ref h9, .int h0f17, .int h0f18, .int h0f19, .ref h10, .ref h11, .ref h12, .ref h13, .int h0f24, .int h0f25, .ref h14, .ref h15, .ref h16, .ref h17, .int h0f30, .int h0f31, .ref h18, .ref h19, .ref h20, .ref h21]), (h4, aJ (k 1) 9 (zJ [])), (h5, aJ (k 1) 9 (zJ [0, 1, 2])), (h7, aJ (k 1) 4 anJ)] H := hT
          refine lv_iinc (v := 3) (lv' := [(5, .int 3), (4, .int 2), (0, .ref h0), (1, .int x1), (2, .int x2), (3, .int x3)]) hx hb dX11_takesOut_65 hl (k := 0) rfl (by decide) (by decide) rfl (fun ls hl => ?_)
          refine lv_goto (tgt := 37) hx hb dX11_takesOut_68 (by decide) ?_
          refine lv_iload hx hb dX11_takesOut_37 (lv_at hl 0 rfl) ?_
          refine lv_iconst (v := 4) hx hb dX11_takesOut_39 (by decide) ?_
          refine lv_icmp_ge (tgt := 71) hx hb dX11_takesOut_40 (by decide) (fun cc => absurd cc (by decide +kernel)) (fun _ => ?_)
          refine lv_aload_n hx hb dX11_takesOut_43 rfl (lv_at hl 2 rfl) ?_
          refine tz_get (ci := 8) (v := .ref h4) (C := RX11) (F := TX11) (N := 36) hx hb hU iX11 hown hK hT 0 rfl rfl 11 (by decide) w796 (fun _ h9 => h9) rfl dX11_takesOut_44 ?_
          refine lv_iload hx hb dX11_takesOut_47 (lv_at hl 0 rfl) ?_
          refine lv_aload_n hx hb dX11_takesOut_49 rfl (lv_at hl 2 rfl) ?_
          refine tz_get (ci := 8) (v := .ref h7) (C := RX11) (F := TX11) (N := 36) hx hb hU iX11 hown hK hT 0 rfl rfl 14 (by decide) w799 (fun _ h9 => h9) rfl dX11_takesOut_50 ?_
          refine lv_iload hx hb dX11_takesOut_53 (lv_at hl 0 rfl) ?_
          refine tz_lald hx hb hK hT 3 rfl (by have := li_3; omega) dX11_takesOut_55 (fun v50 e_v50 => ?_)
          clear e_v50
          refine tz_lastP hx hb hK hT hS 1 (zJ []) rfl (by have := li_3; omega) (z_putx (z := 3) li_3 (by decide)) dX11_takesOut_56 (fun H locs hT hS => ?_)
          have hT : TP D A [(h0, ob 8 [.int h0f0, .int h0f1, .int h0f2, .int h0f3, .int h0f4, .int h0f5, .ref h1, .ref h2, .int h0f8, .int h0f9, .ref h3, .ref h4, .ref h5, .ref h6, .ref h7, .ref h8, .ref h9, .int h0f17, .int h0f18, .int h0f19, .ref h10, .ref h11, .ref h12, .ref h13, .int h0f24, .int h0f25, .ref h14, .ref h15, .ref h16, .ref h17, .int h0f30, .int h0f31, .ref h18, .ref h19, .ref h20, .ref h21]), (h4, aJ (k 1) 9 (zJ [])), (h5, aJ (k 1) 9 (zJ [0, 1, 2])), (h7, aJ (k 1) 4 anJ)] H := hT
          refine lv_aload_n hx hb dX11_takesOut_57 rfl (lv_at hl 2 rfl) ?_
          refine tz_get (ci := 8) (v := .ref h5) (C := RX11) (F := TX11) (N := 36) hx hb hU iX11 hown hK hT 0 rfl rfl 12 (by decide) w797 (fun _ h9 => h9) rfl dX11_takesOut_58 ?_
          refine lv_iload hx hb dX11_takesOut_61 (lv_at hl 0 rfl) ?_
          refine lv_lconst (v := 0) hx hb dX11_takesOut_63 (by decide) ?_
          refine tz_lastP hx hb hK hT hS 2 (zJ [0, 1, 2, 3]) rfl (by have := li_3; omega) (z_put0 (z := 3) li_3 (by decide)) dX11_takesOut_64 (fun H locs hT hS => ?_)
          have hT : TP D A [(h0, ob 8 [.int h0f0, .int h0f1, .int h0f2, .int h0f3, .int h0f4, .int h0f5, .ref h1, .ref h2, .int h0f8, .int h0f9, .ref h3, .ref h4, .ref h5, .ref h6, .ref h7, .ref h8, .ref h9, .int h0f17, .int h0f18, .int h0f19, .ref h10, .ref h11, .ref h12, .ref h13, .int h0f24, .int h0f25, .ref h14, .ref h15, .ref h16, .ref h17, .int h0f30, .int h0f31, .ref h18, .ref h19, .ref h20, .ref h21]), (h4, aJ (k 1) 9 (zJ [])), (h5, aJ (k 1) 9 (zJ [0, 1, 2, 3])), (h7, aJ (k 1) 4 anJ)] H := hT
          refine lv_iinc (v := 4) (lv' := [(5, .int 4), (4, .int 2), (0, .ref h0), (1, .int x1), (2, .int x2), (3, .int x3)]) hx hb dX11_takesOut_65 hl (k := 0) rfl (by decide) (by decide) rfl (fun ls hl => ?_)
          refine lv_goto (tgt := 37) hx hb dX11_takesOut_68 (by decide) ?_
          refine lv_iload hx hb dX11_takesOut_37 (lv_at hl 0 rfl) ?_
          refine lv_iconst (v := 4) hx hb dX11_takesOut_39 (by decide) ?_
          refine lv_icmp_ge (tgt := 71) hx hb dX11_takesOut_40 (by decide) (fun _ => ?_) (fun cc => absurd (by decide +kernel) cc)
          refine lv_iload hx hb dX11_takesOut_71 (lv_at hl 1 rfl) ?_
          refine lv_istore (lv' := [(5, .int 2), (4, .int 2), (0, .ref h0), (1, .int x1), (2, .int x2), (3, .int x3)]) hx hb dX11_takesOut_73 hl (by decide) rfl (fun ls hl => ?_)
          refine lv_iload hx hb dX11_takesOut_75 (lv_at hl 0 rfl) ?_
          refine lv_iload_n hx hb dX11_takesOut_77 rfl (lv_at hl 3 rfl) ?_
          refine lv_icmp_lt (tgt := 154) hx hb dX11_takesOut_78 (by decide) (fun c_51 => ?_) (fun c_51 => ?_)
          · skip
            have c_51 := ni_lt c_51 li_2 hq1
            exfalso; omega
          · skip
            have c_51 := ni_nlt c_51 li_2 hq1
            refine lv_aload_n hx hb dX11_takesOut_81 rfl (lv_at hl 2 rfl) ?_
            refine tz_get (ci := 8) (v := .ref h4) (C := RX11) (F := TX11) (N := 36) hx hb hU iX11 hown hK hT 0 rfl rfl 11 (by decide) w796 (fun _ h9 => h9) rfl dX11_takesOut_82 ?_
            refine lv_iload hx hb dX11_takesOut_85 (lv_at hl 0 rfl) ?_
            refine tz_lald hx hb hK hT 1 rfl (by have := li_2; omega) dX11_takesOut_87 (fun v52 e_v52 => ?_)
            clear e_v52
            refine lv_lstore (lv' := [(6, .long v52), (5, .int 2), (4, .int 2), (0, .ref h0), (1, .int x1), (2, .int x2), (3, .int x3)]) hx hb dX11_takesOut_88 hl (by decide) rfl (fun ls hl => ?_)
            refine lv_aload_n hx hb dX11_takesOut_90 rfl (lv_at hl 3 rfl) ?_
            refine tz_get (ci := 8) (v := .ref h5) (C := RX11) (F := TX11) (N := 36) hx hb hU iX11 hown hK hT 0 rfl rfl 12 (by decide) w797 (fun _ h9 => h9) rfl dX11_takesOut_91 ?_
            refine lv_iload hx hb dX11_takesOut_94 (lv_at hl 1 rfl) ?_
            refine lv_iload_n hx hb dX11_takesOut_96 rfl (lv_at hl 4 rfl) ?_
            refine lv_isub hx hb dX11_takesOut_97 (lv_topi (fun v53 e_v53 => ?_))
            have e_v53 := ai_sub e_v53 li_2 hq1 (by omega)
            refine lv_lload hx hb dX11_takesOut_98 (lv_at hl 0 rfl) ?_
            refine tz_lastP hx hb hK hT hS 2 (zJ [0, 2, 3]) rfl (by omega) (z_putx (z := 1) (show v53.toInt = 1 by omega) (by decide)) dX11_takesOut_100 (fun H locs hT hS => ?_)
            have hT : TP D A [(h0, ob 8 [.int h0f0, .int h0f1, .int h0f2, .int h0f3, .int h0f4, .int h0f5, .ref h1, .ref h2, .int h0f8, .int h0f9, .ref h3, .ref h4, .ref h5, .ref h6, .ref h7, .ref h8, .ref h9, .int h0f17, .int h0f18, .int h0f19, .ref h10, .ref h11, .ref h12, .ref h13, .int h0f24, .int h0f25, .ref h14, .ref h15, .ref h16, .ref h17, .int h0f30, .int h0f31, .ref h18, .ref h19, .ref h20, .ref h21]), (h4, aJ (k 1) 9 (zJ [])), (h5, aJ (k 1) 9 (zJ [0, 2, 3])), (h7, aJ (k 1) 4 anJ)] H := hT
            refine lv_aload_n hx hb dX11_takesOut_101 rfl (lv_at hl 3 rfl) ?_
            refine tz_get (ci := 8) (v := .ref h4) (C := RX11) (F := TX11) (N := 36) hx hb hU iX11 hown hK hT 0 rfl rfl 11 (by decide) w796 (fun _ h9 => h9) rfl dX11_takesOut_102 ?_
            refine lv_iload hx hb dX11_takesOut_105 (lv_at hl 1 rfl) ?_
            refine lv_iload_n hx hb dX11_takesOut_107 rfl (lv_at hl 4 rfl) ?_
            refine lv_isub hx hb dX11_takesOut_108 (lv_topi (fun v54 e_v54 => ?_))
            have e_v54 := ai_sub e_v54 li_2 hq1 (by omega)
            refine lv_dup2_11 hx hb dX11_takesOut_109 rfl rfl ?_
            refine tz_lald hx hb hK hT 1 rfl (by omega) dX11_takesOut_110 (fun v55 e_v55 => ?_)
            clear e_v55
            refine lv_lload hx hb dX11_takesOut_111 (lv_at hl 0 rfl) ?_
            refine lv_iload_n hx hb dX11_takesOut_113 rfl (lv_at hl 5 rfl) ?_
            obtain ⟨v56, e_v56⟩ : ∃ x : Int64, x2.toInt64 = x := ⟨_, rfl⟩
            refine lv_i2l (v := v56) hx hb dX11_takesOut_114 e_v56 ?_
            have e_v56 := ai_i2l e_v56 rfl
            refine lv_lmul hx hb dX11_takesOut_115 (lv_topl (fun v57 e_v57 => ?_))
            refine lv_lsub hx hb dX11_takesOut_116 (lv_topl (fun v58 e_v58 => ?_))
            refine tz_lastP hx hb hK hT hS 1 (zJ []) rfl (by omega) (z_putx (z := 1) (show v54.toInt = 1 by omega) (by decide)) dX11_takesOut_117 (fun H locs hT hS => ?_)
            have hT : TP D A [(h0, ob 8 [.int h0f0, .int h0f1, .int h0f2, .int h0f3, .int h0f4, .int h0f5, .ref h1, .ref h2, .int h0f8, .int h0f9, .ref h3, .ref h4, .ref h5, .ref h6, .ref h7, .ref h8, .ref h9, .int h0f17, .int h0f18, .int h0f19, .ref h10, .ref h11, .ref h12, .ref h13, .int h0f24, .int h0f25, .ref h14, .ref h15, .ref h16, .ref h17, .int h0f30, .int h0f31, .ref h18, .ref h19, .ref h20, .ref h21]), (h4, aJ (k 1) 9 (zJ [])), (h5, aJ (k 1) 9 (zJ [0, 2, 3])), (h7, aJ (k 1) 4 anJ)] H := hT
            refine lv_iload_n hx hb dX11_takesOut_118 rfl (lv_at hl 4 rfl) ?_
            refine lv_iconst (v := 2) hx hb dX11_takesOut_119 (by decide) ?_
            refine lv_icmp_ne (tgt := 140) hx hb dX11_takesOut_120 (by decide) (fun c_59 => ?_) (fun c_59 => ?_)
            · skip
              have c_59 := ni_ne c_59 hq1 li_2
              refine lv_aload_n hx hb dX11_takesOut_140 rfl (lv_at hl 3 rfl) ?_
              refine tz_get (ci := 8) (v := .ref h4) (C := RX11) (F := TX11) (N := 36) hx hb hU iX11 hown hK hT 0 rfl rfl 11 (by decide) w796 (fun _ h9 => h9) rfl dX11_takesOut_141 ?_
              refine lv_iload hx hb dX11_takesOut_144 (lv_at hl 1 rfl) ?_
              refine lv_lconst (v := 0) hx hb dX11_takesOut_146 (by decide) ?_
              refine tz_lastP hx hb hK hT hS 1 (zJ [2]) rfl (by have := li_2; omega) (z_put0 (z := 2) li_2 (by decide)) dX11_takesOut_147 (fun H locs hT hS => ?_)
              have hT : TP D A [(h0, ob 8 [.int h0f0, .int h0f1, .int h0f2, .int h0f3, .int h0f4, .int h0f5, .ref h1, .ref h2, .int h0f8, .int h0f9, .ref h3, .ref h4, .ref h5, .ref h6, .ref h7, .ref h8, .ref h9, .int h0f17, .int h0f18, .int h0f19, .ref h10, .ref h11, .ref h12, .ref h13, .int h0f24, .int h0f25, .ref h14, .ref h15, .ref h16, .ref h17, .int h0f30, .int h0f31, .ref h18, .ref h19, .ref h20, .ref h21]), (h4, aJ (k 1) 9 (zJ [2])), (h5, aJ (k 1) 9 (zJ [0, 2, 3])), (h7, aJ (k 1) 4 anJ)] H := hT
              refine lv_iinc (v := 1) (lv' := [(5, .int 1), (6, .long v52), (4, .int 2), (0, .ref h0), (1, .int x1), (2, .int x2), (3, .int x3)]) hx hb dX11_takesOut_148 hl (k := 1) rfl (by decide) (by decide) rfl (fun ls hl => ?_)
              refine lv_goto (tgt := 75) hx hb dX11_takesOut_151 (by decide) ?_
              refine lv_iload hx hb dX11_takesOut_75 (lv_at hl 0 rfl) ?_
              refine lv_iload_n hx hb dX11_takesOut_77 rfl (lv_at hl 4 rfl) ?_
              refine lv_icmp_lt (tgt := 154) hx hb dX11_takesOut_78 (by decide) (fun c_60 => ?_) (fun c_60 => ?_)
              · skip
                have c_60 := ni_lt c_60 li_1 hq1
                exfalso; omega
              · skip
                have c_60 := ni_nlt c_60 li_1 hq1
                refine lv_aload_n hx hb dX11_takesOut_81 rfl (lv_at hl 3 rfl) ?_
                refine tz_get (ci := 8) (v := .ref h4) (C := RX11) (F := TX11) (N := 36) hx hb hU iX11 hown hK hT 0 rfl rfl 11 (by decide) w796 (fun _ h9 => h9) rfl dX11_takesOut_82 ?_
                refine lv_iload hx hb dX11_takesOut_85 (lv_at hl 0 rfl) ?_
                refine tz_lald hx hb hK hT 1 rfl (by have := li_1; omega) dX11_takesOut_87 (fun v61 e_v61 => ?_)
                clear e_v61
                refine lv_lstore (lv' := [(6, .long v61), (5, .int 1), (4, .int 2), (0, .ref h0), (1, .int x1), (2, .int x2), (3, .int x3)]) hx hb dX11_takesOut_88 hl (by decide) rfl (fun ls hl => ?_)
                refine lv_aload_n hx hb dX11_takesOut_90 rfl (lv_at hl 3 rfl) ?_
                refine tz_get (ci := 8) (v := .ref h5) (C := RX11) (F := TX11) (N := 36) hx hb hU iX11 hown hK hT 0 rfl rfl 12 (by decide) w797 (fun _ h9 => h9) rfl dX11_takesOut_91 ?_
                refine lv_iload hx hb dX11_takesOut_94 (lv_at hl 1 rfl) ?_
                refine lv_iload_n hx hb dX11_takesOut_96 rfl (lv_at hl 4 rfl) ?_
                refine lv_isub hx hb dX11_takesOut_97 (lv_topi (fun v62 e_v62 => ?_))
                have e_v62 := ai_sub e_v62 li_1 hq1 (by omega)
                refine lv_lload hx hb dX11_takesOut_98 (lv_at hl 0 rfl) ?_
                refine tz_lastP hx hb hK hT hS 2 (zJ [2, 3]) rfl (by omega) (z_putx (z := 0) (show v62.toInt = 0 by omega) (by decide)) dX11_takesOut_100 (fun H locs hT hS => ?_)
                have hT : TP D A [(h0, ob 8 [.int h0f0, .int h0f1, .int h0f2, .int h0f3, .int h0f4, .int h0f5, .ref h1, .ref h2, .int h0f8, .int h0f9, .ref h3, .ref h4, .ref h5, .ref h6, .ref h7, .ref h8, .ref h9, .int h0f17, .int h0f18, .int h0f19, .ref h10, .ref h11, .ref h12, .ref h13, .int h0f24, .int h0f25, .ref h14, .ref h15, .ref h16, .ref h17, .int h0f30, .int h0f31, .ref h18, .ref h19, .ref h20, .ref h21]), (h4, aJ (k 1) 9 (zJ [2])), (h5, aJ (k 1) 9 (zJ [2, 3])), (h7, aJ (k 1) 4 anJ)] H := hT
                refine lv_aload_n hx hb dX11_takesOut_101 rfl (lv_at hl 3 rfl) ?_
                refine tz_get (ci := 8) (v := .ref h4) (C := RX11) (F := TX11) (N := 36) hx hb hU iX11 hown hK hT 0 rfl rfl 11 (by decide) w796 (fun _ h9 => h9) rfl dX11_takesOut_102 ?_
                refine lv_iload hx hb dX11_takesOut_105 (lv_at hl 1 rfl) ?_
                refine lv_iload_n hx hb dX11_takesOut_107 rfl (lv_at hl 4 rfl) ?_
                refine lv_isub hx hb dX11_takesOut_108 (lv_topi (fun v63 e_v63 => ?_))
                have e_v63 := ai_sub e_v63 li_1 hq1 (by omega)
                refine lv_dup2_11 hx hb dX11_takesOut_109 rfl rfl ?_
                refine tz_lald hx hb hK hT 1 rfl (by omega) dX11_takesOut_110 (fun v64 e_v64 => ?_)
                clear e_v64
                refine lv_lload hx hb dX11_takesOut_111 (lv_at hl 0 rfl) ?_
                refine lv_iload_n hx hb dX11_takesOut_113 rfl (lv_at hl 5 rfl) ?_
                obtain ⟨v65, e_v65⟩ : ∃ x : Int64, x2.toInt64 = x := ⟨_, rfl⟩
                refine lv_i2l (v := v65) hx hb dX11_takesOut_114 e_v65 ?_
                have e_v65 := ai_i2l e_v65 rfl
                refine lv_lmul hx hb dX11_takesOut_115 (lv_topl (fun v66 e_v66 => ?_))
                refine lv_lsub hx hb dX11_takesOut_116 (lv_topl (fun v67 e_v67 => ?_))
                refine tz_lastP hx hb hK hT hS 1 (zJ [2]) rfl (by omega) (z_putx (z := 0) (show v63.toInt = 0 by omega) (by decide)) dX11_takesOut_117 (fun H locs hT hS => ?_)
                have hT : TP D A [(h0, ob 8 [.int h0f0, .int h0f1, .int h0f2, .int h0f3, .int h0f4, .int h0f5, .ref h1, .ref h2, .int h0f8, .int h0f9, .ref h3, .ref h4, .ref h5, .ref h6, .ref h7, .ref h8, .ref h9, .int h0f17, .int h0f18, .int h0f19, .ref h10, .ref h11, .ref h12, .ref h13, .int h0f24, .int h0f25, .ref h14, .ref h15, .ref h16, .ref h17, .int h0f30, .int h0f31, .ref h18, .ref h19, .ref h20, .ref h21]), (h4, aJ (k 1) 9 (zJ [2])), (h5, aJ (k 1) 9 (zJ [2, 3])), (h7, aJ (k 1) 4 anJ)] H := hT
                refine lv_iload_n hx hb dX11_takesOut_118 rfl (lv_at hl 4 rfl) ?_
                refine lv_iconst (v := 2) hx hb dX11_takesOut_119 (by decide) ?_
                refine lv_icmp_ne (tgt := 140) hx hb dX11_takesOut_120 (by decide) (fun c_68 => ?_) (fun c_68 => ?_)
                · skip
                  have c_68 := ni_ne c_68 hq1 li_2
                  refine lv_aload_n hx hb dX11_takesOut_140 rfl (lv_at hl 3 rfl) ?_
                  refine tz_get (ci := 8) (v := .ref h4) (C := RX11) (F := TX11) (N := 36) hx hb hU iX11 hown hK hT 0 rfl rfl 11 (by decide) w796 (fun _ h9 => h9) rfl dX11_takesOut_141 ?_
                  refine lv_iload hx hb dX11_takesOut_144 (lv_at hl 1 rfl) ?_
                  refine lv_lconst (v := 0) hx hb dX11_takesOut_146 (by decide) ?_
                  refine tz_lastP hx hb hK hT hS 1 (zJ [1, 2]) rfl (by have := li_1; omega) (z_put0 (z := 1) li_1 (by decide)) dX11_takesOut_147 (fun H locs hT hS => ?_)
                  have hT : TP D A [(h0, ob 8 [.int h0f0, .int h0f1, .int h0f2, .int h0f3, .int h0f4, .int h0f5, .ref h1, .ref h2, .int h0f8, .int h0f9, .ref h3, .ref h4, .ref h5, .ref h6, .ref h7, .ref h8, .ref h9, .int h0f17, .int h0f18, .int h0f19, .ref h10, .ref h11, .ref h12, .ref h13, .int h0f24, .int h0f25, .ref h14, .ref h15, .ref h16, .ref h17, .int h0f30, .int h0f31, .ref h18, .ref h19, .ref h20, .ref h21]), (h4, aJ (k 1) 9 (zJ [1, 2])), (h5, aJ (k 1) 9 (zJ [2, 3])), (h7, aJ (k 1) 4 anJ)] H := hT
                  refine lv_iinc (v := 0) (lv' := [(5, .int 0), (6, .long v61), (4, .int 2), (0, .ref h0), (1, .int x1), (2, .int x2), (3, .int x3)]) hx hb dX11_takesOut_148 hl (k := 1) rfl (by decide) (by decide) rfl (fun ls hl => ?_)
                  refine lv_goto (tgt := 75) hx hb dX11_takesOut_151 (by decide) ?_
                  refine lv_iload hx hb dX11_takesOut_75 (lv_at hl 0 rfl) ?_
                  refine lv_iload_n hx hb dX11_takesOut_77 rfl (lv_at hl 4 rfl) ?_
                  refine lv_icmp_lt (tgt := 154) hx hb dX11_takesOut_78 (by decide) (fun c_69 => ?_) (fun c_69 => ?_)
                  · skip
                    have c_69 := ni_lt c_69 li_0 hq1
                    refine lv_aload_n hx hb dX11_takesOut_154 rfl (lv_at hl 3 rfl) ?_
                    refine tz_get (ci := 8) (v := .ref h4) (C := RX11) (F := TX11) (N := 36) hx hb hU iX11 hown hK hT 0 rfl rfl 11 (by decide) w796 (fun _ h9 => h9) rfl dX11_takesOut_155 ?_
                    refine lv_iconst (v := 0) hx hb dX11_takesOut_158 (by decide) ?_
                    refine tz_lald hx hb hK hT 1 rfl (by have := li_0; omega) dX11_takesOut_159 (fun v70 e_v70 => ?_)
                    clear e_v70
                    refine lv_lconst (v := 0) hx hb dX11_takesOut_160 (by decide) ?_
                    refine W.lcmp hx hb dX11_takesOut_161 ?_
                    refine lv_if_ne (tgt := 176) hx hb dX11_takesOut_162 (by decide) (fun c_71 => ?_) (fun c_71 => ?_)
                    · skip
                      have c_71 := nl_ne c_71 rfl ll_0
                      refine lv_iconst (v := 0) hx hb dX11_takesOut_176 (by decide) ?_
                      have hT := hT.wk (q := 1) rfl (an_J (c := k 1) (n := 9))
                      have hT : TP D A [(h0, ob 8 [.int h0f0, .int h0f1, .int h0f2, .int h0f3, .int h0f4, .int h0f5, .ref h1, .ref h2, .int h0f8, .int h0f9, .ref h3, .ref h4, .ref h5, .ref h6, .ref h7, .ref h8, .ref h9, .int h0f17, .int h0f18, .int h0f19, .ref h10, .ref h11, .ref h12, .ref h13, .int h0f24, .int h0f25, .ref h14, .ref h15, .ref h16, .ref h17, .int h0f30, .int h0f31, .ref h18, .ref h19, .ref h20, .ref h21]), (h4, aJ (k 1) 9 anJ), (h5, aJ (k 1) 9 (zJ [2, 3])), (h7, aJ (k 1) 4 anJ)] H := hT
                      have hT := hT.wk (q := 2) rfl (an_J (c := k 1) (n := 9))
                      have hT : TP D A [(h0, ob 8 [.int h0f0, .int h0f1, .int h0f2, .int h0f3, .int h0f4, .int h0f5, .ref h1, .ref h2, .int h0f8, .int h0f9, .ref h3, .ref h4, .ref h5, .ref h6, .ref h7, .ref h8, .ref h9, .int h0f17, .int h0f18, .int h0f19, .ref h10, .ref h11, .ref h12, .ref h13, .int h0f24, .int h0f25, .ref h14, .ref h15, .ref h16, .ref h17, .int h0f30, .int h0f31, .ref h18, .ref h19, .ref h20, .ref h21]), (h4, aJ (k 1) 9 anJ), (h5, aJ (k 1) 9 anJ), (h7, aJ (k 1) 4 anJ)] H := hT
                      exact tz_retZ (B := B_cX11_takesOut_ae7df D k h0 h4 h5 h7 h1 h2 h3 h6 h8 h9 h10 h11 h12 h13 h14 h15 h16 h17 h18 h19 h20 h21 x1 x2 x3 h0f0 h0f1 h0f2 h0f3 h0f4 h0f5 h0f8 h0f9 h0f17 h0f18 h0f19 h0f24 h0f25 h0f30 h0f31) (v := 0) hQ hx hb hr hlocks hS (Nat.le_of_ble_eq_true rfl) (Nat.le_of_ble_eq_true rfl) dX11_takesOut_177 (by have := li_0; omega) (Or.inl ⟨rfl, hT⟩)
                    · skip
                      have c_71 := nl_eq c_71 rfl ll_0
                      refine lv_aload_n hx hb dX11_takesOut_165 rfl (lv_at hl 3 rfl) ?_
                      refine tz_get (ci := 8) (v := .ref h4) (C := RX11) (F := TX11) (N := 36) hx hb hU iX11 hown hK hT 0 rfl rfl 11 (by decide) w796 (fun _ h9 => h9) rfl dX11_takesOut_166 ?_
                      refine lv_iconst (v := 1) hx hb dX11_takesOut_169 (by decide) ?_
                      refine tz_lald hx hb hK hT 1 rfl (by have := li_1; omega) dX11_takesOut_170 (fun v72 e_v72 => ?_)
                      have e_v72 := z_get (z := 1) e_v72 li_1 (by decide)
                      subst e_v72
                      refine lv_lconst (v := 0) hx hb dX11_takesOut_171 (by decide) ?_
                      refine W.lcmp hx hb dX11_takesOut_172 (sv_i (v := 0) (by decide +kernel) ?_)
                      refine lv_if_eq (tgt := 178) hx hb dX11_takesOut_173 (by decide) (fun _ => ?_) (fun cc => absurd (by decide +kernel) cc)
                      refine lv_iconst (v := 0) hx hb dX11_takesOut_178 (by decide) ?_
                      refine lv_istore (lv' := [(5, .int 0), (6, .long v61), (4, .int 2), (0, .ref h0), (1, .int x1), (2, .int x2), (3, .int x3)]) hx hb dX11_takesOut_179 hl (by decide) rfl (fun ls hl => ?_)
                      refine lv_iload hx hb dX11_takesOut_181 (lv_at hl 0 rfl) ?_
                      refine lv_iconst (v := 4) hx hb dX11_takesOut_183 (by decide) ?_
                      refine lv_icmp_ge (tgt := 207) hx hb dX11_takesOut_184 (by decide) (fun cc => absurd cc (by decide +kernel)) (fun _ => ?_)
                      refine lv_aload_n hx hb dX11_takesOut_187 rfl (lv_at hl 3 rfl) ?_
                      refine tz_get (ci := 8) (v := .ref h7) (C := RX11) (F := TX11) (N := 36) hx hb hU iX11 hown hK hT 0 rfl rfl 14 (by decide) w799 (fun _ h9 => h9) rfl dX11_takesOut_188 ?_
                      refine lv_iload hx hb dX11_takesOut_191 (lv_at hl 0 rfl) ?_
                      refine lv_aload_n hx hb dX11_takesOut_193 rfl (lv_at hl 3 rfl) ?_
                      refine tz_get (ci := 8) (v := .ref h5) (C := RX11) (F := TX11) (N := 36) hx hb hU iX11 hown hK hT 0 rfl rfl 12 (by decide) w797 (fun _ h9 => h9) rfl dX11_takesOut_194 ?_
                      refine lv_iload hx hb dX11_takesOut_197 (lv_at hl 0 rfl) ?_
                      refine tz_lald hx hb hK hT 2 rfl (by have := li_0; omega) dX11_takesOut_199 (fun v73 e_v73 => ?_)
                      clear e_v73
                      have hT := hT.wk (q := 3) rfl (z_of (c := k 1) (n := 4))
                      have hT : TP D A [(h0, ob 8 [.int h0f0, .int h0f1, .int h0f2, .int h0f3, .int h0f4, .int h0f5, .ref h1, .ref h2, .int h0f8, .int h0f9, .ref h3, .ref h4, .ref h5, .ref h6, .ref h7, .ref h8, .ref h9, .int h0f17, .int h0f18, .int h0f19, .ref h10, .ref h11, .ref h12, .ref h13, .int h0f24, .int h0f25, .ref h14, .ref h15, .ref h16, .ref h17, .int h0f30, .int h0f31, .ref h18, .ref h19, .ref h20, .ref h21]), (h4, aJ (k 1) 9 (zJ [1, 2])), (h5, aJ (k 1) 9 (zJ [2, 3])), (h7, aJ (k 1) 4 (zJ []))] H := hT
                      refine tz_lastP hx hb hK hT hS 3 (zJ []) rfl (by have := li_0; omega) (z_putx (z := 0) li_0 (by decide)) dX11_takesOut_200 (fun H locs hT hS => ?_)
                      have hT : TP D A [(h0, ob 8 [.int h0f0, .int h0f1, .int h0f2, .int h0f3, .int h0f4, .int h0f5, .ref h1, .ref h2, .int h0f8, .int h0f9, .ref h3, .ref h4, .ref h5, .ref h6, .ref h7, .ref h8, .ref h9, .int h0f17, .int h0f18, .int h0f19, .ref h10, .ref h11, .ref h12, .ref h13, .int h0f24, .int h0f25, .ref h14, .ref h15, .ref h16, .ref h17, .int h0f30, .int h0f31, .ref h18, .ref h19, .ref h20, .ref h21]), (h4, aJ (k 1) 9 (zJ [1, 2])), (h5, aJ (k 1) 9 (zJ [2, 3])), (h7, aJ (k 1) 4 (zJ []))] H := hT
                      refine lv_iinc (v := 1) (lv' := [(5, .int 1), (6, .long v61), (4, .int 2), (0, .ref h0), (1, .int x1), (2, .int x2), (3, .int x3)]) hx hb dX11_takesOut_201 hl (k := 0) rfl (by decide) (by decide) rfl (fun ls hl => ?_)
                      refine lv_goto (tgt := 181) hx hb dX11_takesOut_204 (by decide) ?_
                      refine lv_iload hx hb dX11_takesOut_181 (lv_at hl 0 rfl) ?_
                      refine lv_iconst (v := 4) hx hb dX11_takesOut_183 (by decide) ?_
                      refine lv_icmp_ge (tgt := 207) hx hb dX11_takesOut_184 (by decide) (fun cc => absurd cc (by decide +kernel)) (fun _ => ?_)
                      refine lv_aload_n hx hb dX11_takesOut_187 rfl (lv_at hl 3 rfl) ?_
                      refine tz_get (ci := 8) (v := .ref h7) (C := RX11) (F := TX11) (N := 36) hx hb hU iX11 hown hK hT 0 rfl rfl 14 (by decide) w799 (fun _ h9 => h9) rfl dX11_takesOut_188 ?_
                      refine lv_iload hx hb dX11_takesOut_191 (lv_at hl 0 rfl) ?_
                      refine lv_aload_n hx hb dX11_takesOut_193 rfl (lv_at hl 3 rfl) ?_
                      refine tz_get (ci := 8) (v := .ref h5) (C := RX11) (F := TX11) (N := 36) hx hb hU iX11 hown hK hT 0 rfl rfl 12 (by decide) w797 (fun _ h9 => h9) rfl dX11_takesOut_194 ?_
                      refine lv_iload hx hb dX11_takesOut_197 (lv_at hl 0 rfl) ?_
                      refine tz_lald hx hb hK hT 2 rfl (by have := li_1; omega) dX11_takesOut_199 (fun v74 e_v74 => ?_)
                      clear e_v74
                      refine tz_lastP hx hb hK hT hS 3 (zJ []) rfl (by have := li_1; omega) (z_putx (z := 1) li_1 (by decide)) dX11_takesOut_200 (fun H locs hT hS => ?_)
                      have hT : TP D A [(h0, ob 8 [.int h0f0, .int h0f1, .int h0f2, .int h0f3, .int h0f4, .int h0f5, .ref h1, .ref h2, .int h0f8, .int h0f9, .ref h3, .ref h4, .ref h5, .ref h6, .ref h7, .ref h8, .ref h9, .int h0f17, .int h0f18, .int h0f19, .ref h10, .ref h11, .ref h12, .ref h13, .int h0f24, .int h0f25, .ref h14, .ref h15, .ref h16, .ref h17, .int h0f30, .int h0f31, .ref h18, .ref h19, .ref h20, .ref h21]), (h4, aJ (k 1) 9 (zJ [1, 2])), (h5, aJ (k 1) 9 (zJ [2, 3])), (h7, aJ (k 1) 4 (zJ []))] H := hT
                      refine lv_iinc (v := 2) (lv' := [(5, .int 2), (6, .long v61), (4, .int 2), (0, .ref h0), (1, .int x1), (2, .int x2), (3, .int x3)]) hx hb dX11_takesOut_201 hl (k := 0) rfl (by decide) (by decide) rfl (fun ls hl => ?_)
                      refine lv_goto (tgt := 181) hx hb dX11_takesOut_204 (by decide) ?_
                      refine lv_iload hx hb dX11_takesOut_181 (lv_at hl 0 rfl) ?_
                      refine lv_iconst (v := 4) hx hb dX11_takesOut_183 (by decide) ?_
                      refine lv_icmp_ge (tgt := 207) hx hb dX11_takesOut_184 (by decide) (fun cc => absurd cc (by decide +kernel)) (fun _ => ?_)
                      refine lv_aload_n hx hb dX11_takesOut_187 rfl (lv_at hl 3 rfl) ?_
                      refine tz_get (ci := 8) (v := .ref h7) (C := RX11) (F := TX11) (N := 36) hx hb hU iX11 hown hK hT 0 rfl rfl 14 (by decide) w799 (fun _ h9 => h9) rfl dX11_takesOut_188 ?_
                      refine lv_iload hx hb dX11_takesOut_191 (lv_at hl 0 rfl) ?_
                      refine lv_aload_n hx hb dX11_takesOut_193 rfl (lv_at hl 3 rfl) ?_
                      refine tz_get (ci := 8) (v := .ref h5) (C := RX11) (F := TX11) (N := 36) hx hb hU iX11 hown hK hT 0 rfl rfl 12 (by decide) w797 (fun _ h9 => h9) rfl dX11_takesOut_194 ?_
                      refine lv_iload hx hb dX11_takesOut_197 (lv_at hl 0 rfl) ?_
                      refine tz_lald hx hb hK hT 2 rfl (by have := li_2; omega) dX11_takesOut_199 (fun v75 e_v75 => ?_)
                      have e_v75 := z_get (z := 2) e_v75 li_2 (by decide)
                      subst e_v75
                      refine tz_lastP hx hb hK hT hS 3 (zJ [2]) rfl (by have := li_2; omega) (z_put0 (z := 2) li_2 (by decide)) dX11_takesOut_200 (fun H locs hT hS => ?_)
                      have hT : TP D A [(h0, ob 8 [.int h0f0, .int h0f1, .int h0f2, .int h0f3, .int h0f4, .int h0f5, .ref h1, .ref h2, .int h0f8, .int h0f9, .ref h3, .ref h4, .ref h5, .ref h6, .ref h7, .ref h8, .ref h9, .int h0f17, .int h0f18, .int h0f19, .ref h10, .ref h11, .ref h12, .ref h13, .int h0f24, .int h0f25, .ref h14, .ref h15, .ref h16, .ref h17, .int h0f30, .int h0f31, .ref h18, .ref h19, .ref h20, .ref h21]), (h4, aJ (k 1) 9 (zJ [1, 2])), (h5, aJ (k 1) 9 (zJ [2, 3])), (h7, aJ (k 1) 4 (zJ [2]))] H := hT
                      refine lv_iinc (v := 3) (lv' := [(5, .int 3), (6, .long v61), (4, .int 2), (0, .ref h0), (1, .int x1), (2, .int x2), (3, .int x3)]) hx hb dX11_takesOut_201 hl (k := 0) rfl (by decide) (by decide) rfl (fun ls hl => ?_)
                      refine lv_goto (tgt := 181) hx hb dX11_takesOut_204 (by decide) ?_
                      refine lv_iload hx hb dX11_takesOut_181 (lv_at hl 0 rfl) ?_
                      refine lv_iconst (v := 4) hx hb dX11_takesOut_183 (by decide) ?_
                      refine lv_icmp_ge (tgt := 207) hx hb dX11_takesOut_184 (by decide) (fun cc => absurd cc (by decide +kernel)) (fun _ => ?_)
                      refine lv_aload_n hx hb dX11_takesOut_187 rfl (lv_at hl 3 rfl) ?_
                      refine tz_get (ci := 8) (v := .ref h7) (C := RX11) (F := TX11) (N := 36) hx hb hU iX11 hown hK hT 0 rfl rfl 14 (by decide) w799 (fun _ h9 => h9) rfl dX11_takesOut_188 ?_
                      refine lv_iload hx hb dX11_takesOut_191 (lv_at hl 0 rfl) ?_
                      refine lv_aload_n hx hb dX11_takesOut_193 rfl (lv_at hl 3 rfl) ?_
                      refine tz_get (ci := 8) (v := .ref h5) (C := RX11) (F := TX11) (N := 36) hx hb hU iX11 hown hK hT 0 rfl rfl 12 (by decide) w797 (fun _ h9 => h9) rfl dX11_takesOut_194 ?_
                      refine lv_iload hx hb dX11_takesOut_197 (lv_at hl 0 rfl) ?_
                      refine tz_lald hx hb hK hT 2 rfl (by have := li_3; omega) dX11_takesOut_199 (fun v76 e_v76 => ?_)
                      have e_v76 := z_get (z := 3) e_v76 li_3 (by decide)
                      subst e_v76
                      refine tz_lastP hx hb hK hT hS 3 (zJ [2, 3]) rfl (by have := li_3; omega) (z_put0 (z := 3) li_3 (by decide)) dX11_takesOut_200 (fun H locs hT hS => ?_)
                      have hT : TP D A [(h0, ob 8 [.int h0f0, .int h0f1, .int h0f2, .int h0f3, .int h0f4, .int h0f5, .ref h1, .ref h2, .int h0f8, .int h0f9, .ref h3, .ref h4, .ref h5, .ref h6, .ref h7, .ref h8, .ref h9, .int h0f17, .int h0f18, .int h0f19, .ref h10, .ref h11, .ref h12, .ref h13, .int h0f24, .int h0f25, .ref h14, .ref h15, .ref h16, .ref h17, .int h0f30, .int h0f31, .ref h18, .ref h19, .ref h20, .ref h21]), (h4, aJ (k 1) 9 (zJ [1, 2])), (h5, aJ (k 1) 9 (zJ [2, 3])), (h7, aJ (k 1) 4 (zJ [2, 3]))] H := hT
                      refine lv_iinc (v := 4) (lv' := [(5, .int 4), (6, .long v61), (4, .int 2), (0, .ref h0), (1, .int x1), (2, .int x2), (3, .int x3)]) hx hb dX11_takesOut_201 hl (k := 0) rfl (by decide) (by decide) rfl (fun ls hl => ?_)
                      refine lv_goto (tgt := 181) hx hb dX11_takesOut_204 (by decide) ?_
                      refine lv_iload hx hb dX11_takesOut_181 (lv_at hl 0 rfl) ?_
                      refine lv_iconst (v := 4) hx hb dX11_takesOut_183 (by decide) ?_
                      refine lv_icmp_ge (tgt := 207) hx hb dX11_takesOut_184 (by decide) (fun _ => ?_) (fun cc => absurd (by decide +kernel) cc)
                      refine lv_iconst (v := 1) hx hb dX11_takesOut_207 (by decide) ?_
                      have hT := hT.wk (q := 1) rfl (an_J (c := k 1) (n := 9))
                      have hT : TP D A [(h0, ob 8 [.int h0f0, .int h0f1, .int h0f2, .int h0f3, .int h0f4, .int h0f5, .ref h1, .ref h2, .int h0f8, .int h0f9, .ref h3, .ref h4, .ref h5, .ref h6, .ref h7, .ref h8, .ref h9, .int h0f17, .int h0f18, .int h0f19, .ref h10, .ref h11, .ref h12, .ref h13, .int h0f24, .int h0f25, .ref h14, .ref h15, .ref h16, .ref h17, .int h0f30, .int h0f31, .ref h18, .ref h19, .ref h20, .ref h21]), (h4, aJ (k 1) 9 anJ), (h5, aJ (k 1) 9 (zJ [2, 3])), (h7, aJ (k 1) 4 (zJ [2, 3]))] H := hT
                      have hT := hT.wk (q := 2) rfl (an_J (c := k 1) (n := 9))
                      have hT : TP D A [(h0, ob 8 [.int h0f0, .int h0f1, .int h0f2, .int h0f3, .int h0f4, .int h0f5, .ref h1, .ref h2, .int h0f8, .int h0f9, .ref h3, .ref h4, .ref h5, .ref h6, .ref h7, .ref h8, .ref h9, .int h0f17, .int h0f18, .int h0f19, .ref h10, .ref h11, .ref h12, .ref h13, .int h0f24, .int h0f25, .ref h14, .ref h15, .ref h16, .ref h17, .int h0f30, .int h0f31, .ref h18, .ref h19, .ref h20, .ref h21]), (h4, aJ (k 1) 9 anJ), (h5, aJ (k 1) 9 anJ), (h7, aJ (k 1) 4 (zJ [2, 3]))] H := hT
                      have hT := hT.wk (q := 3) rfl (z_sub (c := k 1) (n := 4) (l := [2, 3]) (m := [3]) (by decide))
                      have hT : TP D A [(h0, ob 8 [.int h0f0, .int h0f1, .int h0f2, .int h0f3, .int h0f4, .int h0f5, .ref h1, .ref h2, .int h0f8, .int h0f9, .ref h3, .ref h4, .ref h5, .ref h6, .ref h7, .ref h8, .ref h9, .int h0f17, .int h0f18, .int h0f19, .ref h10, .ref h11, .ref h12, .ref h13, .int h0f24, .int h0f25, .ref h14, .ref h15, .ref h16, .ref h17, .int h0f30, .int h0f31, .ref h18, .ref h19, .ref h20, .ref h21]), (h4, aJ (k 1) 9 anJ), (h5, aJ (k 1) 9 anJ), (h7, aJ (k 1) 4 (zJ [3]))] H := hT
                      exact tz_retZ (B := B_cX11_takesOut_ae7df D k h0 h4 h5 h7 h1 h2 h3 h6 h8 h9 h10 h11 h12 h13 h14 h15 h16 h17 h18 h19 h20 h21 x1 x2 x3 h0f0 h0f1 h0f2 h0f3 h0f4 h0f5 h0f8 h0f9 h0f17 h0f18 h0f19 h0f24 h0f25 h0f30 h0f31) (v := 1) hQ hx hb hr hlocks hS (Nat.le_of_ble_eq_true rfl) (Nat.le_of_ble_eq_true rfl) dX11_takesOut_208 (by have := li_1; omega) (Or.inr (Or.inr (Or.inl ⟨v2, v44, v70, (by have := li_1; omega), (by have := li_1; omega), (by have := li_1; omega), (by have := li_1; omega), (by have := li_1; omega), (by have := li_1; omega), (by have := li_1; omega), (by have := li_1; omega), (by have := li_1; omega), (by have := li_1; omega), (by have := li_1; omega), (by have := li_1; omega), rfl, hT⟩)))
                  · skip
                    have c_69 := ni_nlt c_69 li_0 hq1
                    exfalso; omega
                · skip
                  have c_68 := ni_eq c_68 hq1 li_2
                  exfalso; omega
            · skip
              have c_59 := ni_eq c_59 hq1 li_2
              exfalso; omega
        · skip
          have c_46 := ni_nle c_46 hq1 li_2
          exfalso; omega
      · skip
        have c_45 := nl_eq c_45 rfl ll_0
        refine lv_iinc (v := 1) (lv' := [(4, .int 1), (0, .ref h0), (1, .int x1), (2, .int x2), (3, .int x3)]) hx hb dX11_takesOut_20 hl (k := 0) rfl (by decide) (by decide) rfl (fun ls hl => ?_)
        refine lv_goto (tgt := 3) hx hb dX11_takesOut_23 (by decide) ?_
        refine lv_iload hx hb dX11_takesOut_3 (lv_at hl 0 rfl) ?_
        refine lv_if_le (tgt := 26) hx hb dX11_takesOut_5 (by decide) (fun cc => absurd cc (by decide +kernel)) (fun _ => ?_)
        refine lv_aload_n hx hb dX11_takesOut_8 rfl (lv_at hl 1 rfl) ?_
        refine tz_get (ci := 8) (v := .ref h7) (C := RX11) (F := TX11) (N := 36) hx hb hU iX11 hown hK hT 0 rfl rfl 14 (by decide) w799 (fun _ h9 => h9) rfl dX11_takesOut_9 ?_
        refine lv_iload hx hb dX11_takesOut_12 (lv_at hl 0 rfl) ?_
        refine tz_lald hx hb hK hT 3 rfl (by have := li_1; omega) dX11_takesOut_14 (fun v77 e_v77 => ?_)
        clear e_v77
        refine lv_lconst (v := 0) hx hb dX11_takesOut_15 (by decide) ?_
        refine W.lcmp hx hb dX11_takesOut_16 ?_
        refine lv_if_ne (tgt := 26) hx hb dX11_takesOut_17 (by decide) (fun c_78 => ?_) (fun c_78 => ?_)
        · skip
          have c_78 := nl_ne c_78 rfl ll_0
          refine lv_iload hx hb dX11_takesOut_26 (lv_at hl 0 rfl) ?_
          refine lv_iload_n hx hb dX11_takesOut_28 rfl (lv_at hl 2 rfl) ?_
          refine lv_icmp_ge (tgt := 34) hx hb dX11_takesOut_29 (by decide) (fun c_79 => ?_) (fun c_79 => ?_)
          · skip
            have c_79 := ni_le c_79 hq1 li_1
            refine lv_iconst (v := 0) hx hb dX11_takesOut_34 (by decide) ?_
            refine lv_istore (lv' := [(5, .int 0), (4, .int 1), (0, .ref h0), (1, .int x1), (2, .int x2), (3, .int x3)]) hx hb dX11_takesOut_35 hl (by decide) rfl (fun ls hl => ?_)
            refine lv_iload hx hb dX11_takesOut_37 (lv_at hl 0 rfl) ?_
            refine lv_iconst (v := 4) hx hb dX11_takesOut_39 (by decide) ?_
            refine lv_icmp_ge (tgt := 71) hx hb dX11_takesOut_40 (by decide) (fun cc => absurd cc (by decide +kernel)) (fun _ => ?_)
            refine lv_aload_n hx hb dX11_takesOut_43 rfl (lv_at hl 2 rfl) ?_
            refine tz_get (ci := 8) (v := .ref h4) (C := RX11) (F := TX11) (N := 36) hx hb hU iX11 hown hK hT 0 rfl rfl 11 (by decide) w796 (fun _ h9 => h9) rfl dX11_takesOut_44 ?_
            refine lv_iload hx hb dX11_takesOut_47 (lv_at hl 0 rfl) ?_
            refine lv_aload_n hx hb dX11_takesOut_49 rfl (lv_at hl 2 rfl) ?_
            refine tz_get (ci := 8) (v := .ref h7) (C := RX11) (F := TX11) (N := 36) hx hb hU iX11 hown hK hT 0 rfl rfl 14 (by decide) w799 (fun _ h9 => h9) rfl dX11_takesOut_50 ?_
            refine lv_iload hx hb dX11_takesOut_53 (lv_at hl 0 rfl) ?_
            refine tz_lald hx hb hK hT 3 rfl (by have := li_0; omega) dX11_takesOut_55 (fun v80 e_v80 => ?_)
            clear e_v80
            have hT := hT.wk (q := 1) rfl (z_of (c := k 1) (n := 9))
            have hT : TP D A [(h0, ob 8 [.int h0f0, .int h0f1, .int h0f2, .int h0f3, .int h0f4, .int h0f5, .ref h1, .ref h2, .int h0f8, .int h0f9, .ref h3, .ref h4, .ref h5, .ref h6, .ref h7, .ref h8, .ref h9, .int h0f17, .int h0f18, .int h0f19, .ref h10, .ref h11, .ref h12, .ref h13, .int h0f24, .int h0f25, .ref h14, .ref h15, .ref h16, .ref h17, .int h0f30, .int h0f31, .ref h18, .ref h19, .ref h20, .ref h21]), (h4, aJ (k 1) 9 (zJ [])), (h5, aJ (k 1) 9 anJ), (h7, aJ (k 1) 4 anJ)] H := hT
            refine tz_lastP hx hb hK hT hS 1 (zJ []) rfl (by have := li_0; omega) (z_putx (z := 0) li_0 (by decide)) dX11_takesOut_56 (fun H locs hT hS => ?_)
            have hT : TP D A [(h0, ob 8 [.int h0f0, .int h0f1, .int h0f2, .int h0f3, .int h0f4, .int h0f5, .ref h1, .ref h2, .int h0f8, .int h0f9, .ref h3, .ref h4, .ref h5, .ref h6, .ref h7, .ref h8, .ref h9, .int h0f17, .int h0f18, .int h0f19, .ref h10, .ref h11, .ref h12, .ref h13, .int h0f24, .int h0f25, .ref h14, .ref h15, .ref h16, .ref h17, .int h0f30, .int h0f31, .ref h18, .ref h19, .ref h20, .ref h21]), (h4, aJ (k 1) 9 (zJ [])), (h5, aJ (k 1) 9 anJ), (h7, aJ (k 1) 4 anJ)] H := hT
            refine lv_aload_n hx hb dX11_takesOut_57 rfl (lv_at hl 2 rfl) ?_
            refine tz_get (ci := 8) (v := .ref h5) (C := RX11) (F := TX11) (N := 36) hx hb hU iX11 hown hK hT 0 rfl rfl 12 (by decide) w797 (fun _ h9 => h9) rfl dX11_takesOut_58 ?_
            refine lv_iload hx hb dX11_takesOut_61 (lv_at hl 0 rfl) ?_
            refine lv_lconst (v := 0) hx hb dX11_takesOut_63 (by decide) ?_
            have hT := hT.wk (q := 2) rfl (z_of (c := k 1) (n := 9))
            have hT : TP D A [(h0, ob 8 [.int h0f0, .int h0f1, .int h0f2, .int h0f3, .int h0f4, .int h0f5, .ref h1, .ref h2, .int h0f8, .int h0f9, .ref h3, .ref h4, .ref h5, .ref h6, .ref h7, .ref h8, .ref h9, .int h0f17, .int h0f18, .int h0f19, .ref h10, .ref h11, .ref h12, .ref h13, .int h0f24, .int h0f25, .ref h14, .ref h15, .ref h16, .ref h17, .int h0f30, .int h0f31, .ref h18, .ref h19, .ref h20, .ref h21]), (h4, aJ (k 1) 9 (zJ [])), (h5, aJ (k 1) 9 (zJ [])), (h7, aJ (k 1) 4 anJ)] H := hT
            refine tz_lastP hx hb hK hT hS 2 (zJ [0]) rfl (by have := li_0; omega) (z_put0 (z := 0) li_0 (by decide)) dX11_takesOut_64 (fun H locs hT hS => ?_)
            have hT : TP D A [(h0, ob 8 [.int h0f0, .int h0f1, .int h0f2, .int h0f3, .int h0f4, .int h0f5, .ref h1, .ref h2, .int h0f8, .int h0f9, .ref h3, .ref h4, .ref h5, .ref h6, .ref h7, .ref h8, .ref h9, .int h0f17, .int h0f18, .int h0f19, .ref h10, .ref h11, .ref h12, .ref h13, .int h0f24, .int h0f25, .ref h14, .ref h15, .ref h16, .ref h17, .int h0f30, .int h0f31, .ref h18, .ref h19, .ref h20, .ref h21]), (h4, aJ (k 1) 9 (zJ [])), (h5, aJ (k 1) 9 (zJ [0])), (h7, aJ (k 1) 4 anJ)] H := hT
            refine lv_iinc (v := 1) (lv' := [(5, .int 1), (4, .int 1), (0, .ref h0), (1, .int x1), (2, .int x2), (3, .int x3)]) hx hb dX11_takesOut_65 hl (k := 0) rfl (by decide) (by decide) rfl (fun ls hl => ?_)
            refine lv_goto (tgt := 37) hx hb dX11_takesOut_68 (by decide) ?_
            refine lv_iload hx hb dX11_takesOut_37 (lv_at hl 0 rfl) ?_
            refine lv_iconst (v := 4) hx hb dX11_takesOut_39 (by decide) ?_
            refine lv_icmp_ge (tgt := 71) hx hb dX11_takesOut_40 (by decide) (fun cc => absurd cc (by decide +kernel)) (fun _ => ?_)
            refine lv_aload_n hx hb dX11_takesOut_43 rfl (lv_at hl 2 rfl) ?_
            refine tz_get (ci := 8) (v := .ref h4) (C := RX11) (F := TX11) (N := 36) hx hb hU iX11 hown hK hT 0 rfl rfl 11 (by decide) w796 (fun _ h9 => h9) rfl dX11_takesOut_44 ?_
            refine lv_iload hx hb dX11_takesOut_47 (lv_at hl 0 rfl) ?_
            refine lv_aload_n hx hb dX11_takesOut_49 rfl (lv_at hl 2 rfl) ?_
            refine tz_get (ci := 8) (v := .ref h7) (C := RX11) (F := TX11) (N := 36) hx hb hU iX11 hown hK hT 0 rfl rfl 14 (by decide) w799 (fun _ h9 => h9) rfl dX11_takesOut_50 ?_
            refine lv_iload hx hb dX11_takesOut_53 (lv_at hl 0 rfl) ?_
            refine tz_lald hx hb hK hT 3 rfl (by have := li_1; omega) dX11_takesOut_55 (fun v81 e_v81 => ?_)
            clear e_v81
            refine tz_lastP hx hb hK hT hS 1 (zJ []) rfl (by have := li_1; omega) (z_putx (z := 1) li_1 (by decide)) dX11_takesOut_56 (fun H locs hT hS => ?_)
            have hT : TP D A [(h0, ob 8 [.int h0f0, .int h0f1, .int h0f2, .int h0f3, .int h0f4, .int h0f5, .ref h1, .ref h2, .int h0f8, .int h0f9, .ref h3, .ref h4, .ref h5, .ref h6, .ref h7, .ref h8, .ref h9, .int h0f17, .int h0f18, .int h0f19, .ref h10, .ref h11, .ref h12, .ref h13, .int h0f24, .int h0f25, .ref h14, .ref h15, .ref h16, .ref h17, .int h0f30, .int h0f31, .ref h18, .ref h19, .ref h20, .ref h21]), (h4, aJ (k 1) 9 (zJ [])), (h5, aJ (k 1) 9 (zJ [0])), (h7, aJ (k 1) 4 anJ)] H := hT
            refine lv_aload_n hx hb dX11_takesOut_57 rfl (lv_at hl 2 rfl) ?_
            refine tz_get (ci := 8) (v := .ref h5) (C := RX11) (F := TX11) (N := 36) hx hb hU iX11 hown hK hT 0 rfl rfl 12 (by decide) w797 (fun _ h9 => h9) rfl dX11_takesOut_58 ?_
            refine lv_iload hx hb dX11_takesOut_61 (lv_at hl 0 rfl) ?_
            refine lv_lconst (v := 0) hx hb dX11_takesOut_63 (by decide) ?_
            refine tz_lastP hx hb hK hT hS 2 (zJ [0, 1]) rfl (by have := li_1; omega) (z_put0 (z := 1) li_1 (by decide)) dX11_takesOut_64 (fun H locs hT hS => ?_)
            have hT : TP D A [(h0, ob 8 [.int h0f0, .int h0f1, .int h0f2, .int h0f3, .int h0f4, .int h0f5, .ref h1, .ref h2, .int h0f8, .int h0f9, .ref h3, .ref h4, .ref h5, .ref h6, .ref h7, .ref h8, .ref h9, .int h0f17, .int h0f18, .int h0f19, .ref h10, .ref h11, .ref h12, .ref h13, .int h0f24, .int h0f25, .ref h14, .ref h15, .ref h16, .ref h17, .int h0f30, .int h0f31, .ref h18, .ref h19, .ref h20, .ref h21]), (h4, aJ (k 1) 9 (zJ [])), (h5, aJ (k 1) 9 (zJ [0, 1])), (h7, aJ (k 1) 4 anJ)] H := hT
            refine lv_iinc (v := 2) (lv' := [(5, .int 2), (4, .int 1), (0, .ref h0), (1, .int x1), (2, .int x2), (3, .int x3)]) hx hb dX11_takesOut_65 hl (k := 0) rfl (by decide) (by decide) rfl (fun ls hl => ?_)
            refine lv_goto (tgt := 37) hx hb dX11_takesOut_68 (by decide) ?_
            refine lv_iload hx hb dX11_takesOut_37 (lv_at hl 0 rfl) ?_
            refine lv_iconst (v := 4) hx hb dX11_takesOut_39 (by decide) ?_
            refine lv_icmp_ge (tgt := 71) hx hb dX11_takesOut_40 (by decide) (fun cc => absurd cc (by decide +kernel)) (fun _ => ?_)
            refine lv_aload_n hx hb dX11_takesOut_43 rfl (lv_at hl 2 rfl) ?_
            refine tz_get (ci := 8) (v := .ref h4) (C := RX11) (F := TX11) (N := 36) hx hb hU iX11 hown hK hT 0 rfl rfl 11 (by decide) w796 (fun _ h9 => h9) rfl dX11_takesOut_44 ?_
            refine lv_iload hx hb dX11_takesOut_47 (lv_at hl 0 rfl) ?_
            refine lv_aload_n hx hb dX11_takesOut_49 rfl (lv_at hl 2 rfl) ?_
            refine tz_get (ci := 8) (v := .ref h7) (C := RX11) (F := TX11) (N := 36) hx hb hU iX11 hown hK hT 0 rfl rfl 14 (by decide) w799 (fun _ h9 => h9) rfl dX11_takesOut_50 ?_
            refine lv_iload hx hb dX11_takesOut_53 (lv_at hl 0 rfl) ?_
            refine tz_lald hx hb hK hT 3 rfl (by have := li_2; omega) dX11_takesOut_55 (fun v82 e_v82 => ?_)
            clear e_v82
            refine tz_lastP hx hb hK hT hS 1 (zJ []) rfl (by have := li_2; omega) (z_putx (z := 2) li_2 (by decide)) dX11_takesOut_56 (fun H locs hT hS => ?_)
            have hT : TP D A [(h0, ob 8 [.int h0f0, .int h0f1, .int h0f2, .int h0f3, .int h0f4, .int h0f5, .ref h1, .ref h2, .int h0f8, .int h0f9, .ref h3, .ref h4, .ref h5, .ref h6, .ref h7, .ref h8, .ref h9, .int h0f17, .int h0f18, .int h0f19, .ref h10, .ref h11, .ref h12, .ref h13, .int h0f24, .int h0f25, .ref h14, .ref h15, .ref h16, .ref h17, .int h0f30, .int h0f31, .ref h18, .ref h19, .ref h20, .ref h21]), (h4, aJ (k 1) 9 (zJ [])), (h5, aJ (k 1) 9 (zJ [0, 1])), (h7, aJ (k 1) 4 anJ)] H := hT
            refine lv_aload_n hx hb dX11_takesOut_57 rfl (lv_at hl 2 rfl) ?_
            refine tz_get (ci := 8) (v := .ref h5) (C := RX11) (F := TX11) (N := 36) hx hb hU iX11 hown hK hT 0 rfl rfl 12 (by decide) w797 (fun _ h9 => h9) rfl dX11_takesOut_58 ?_
            refine lv_iload hx hb dX11_takesOut_61 (lv_at hl 0 rfl) ?_
            refine lv_lconst (v := 0) hx hb dX11_takesOut_63 (by decide) ?_
            refine tz_lastP hx hb hK hT hS 2 (zJ [0, 1, 2]) rfl (by have := li_2; omega) (z_put0 (z := 2) li_2 (by decide)) dX11_takesOut_64 (fun H locs hT hS => ?_)
            have hT : TP D A [(h0, ob 8 [.int h0f0, .int h0f1, .int h0f2, .int h0f3, .int h0f4, .int h0f5, .ref h1, .ref h2, .int h0f8, .int h0f9, .ref h3, .ref h4, .ref h5, .ref h6, .ref h7, .ref h8, .ref h9, .int h0f17, .int h0f18, .int h0f19, .ref h10, .ref h11, .ref h12, .ref h13, .int h0f24, .int h0f25, .ref h14, .ref h15, .ref h16, .ref h17, .int h0f30, .int h0f31, .ref h18, .ref h19, .ref h20, .ref h21]), (h4, aJ (k 1) 9 (zJ [])), (h5, aJ (k 1) 9 (zJ [0, 1, 2])), (h7, aJ (k 1) 4 anJ)] H := hT
            refine lv_iinc (v := 3) (lv' := [(5, .int 3), (4, .int 1), (0, .ref h0), (1, .int x1), (2, .int x2), (3, .int x3)]) hx hb dX11_takesOut_65 hl (k := 0) rfl (by decide) (by decide) rfl (fun ls hl => ?_)
            refine lv_goto (tgt := 37) hx hb dX11_takesOut_68 (by decide) ?_
            refine lv_iload hx hb dX11_takesOut_37 (lv_at hl 0 rfl) ?_
            refine lv_iconst (v := 4) hx hb dX11_takesOut_39 (by decide) ?_
            refine lv_icmp_ge (tgt := 71) hx hb dX11_takesOut_40 (by decide) (fun cc => absurd cc (by decide +kernel)) (fun _ => ?_)
            refine lv_aload_n hx hb dX11_takesOut_43 rfl (lv_at hl 2 rfl) ?_
            refine tz_get (ci := 8) (v := .ref h4) (C := RX11) (F := TX11) (N := 36) hx hb hU iX11 hown hK hT 0 rfl rfl 11 (by decide) w796 (fun _ h9 => h9) rfl dX11_takesOut_44 ?_
            refine lv_iload hx hb dX11_takesOut_47 (lv_at hl 0 rfl) ?_
            refine lv_aload_n hx hb dX11_takesOut_49 rfl (lv_at hl 2 rfl) ?_
            refine tz_get (ci := 8) (v := .ref h7) (C := RX11) (F := TX11) (N := 36) hx hb hU iX11 hown hK hT 0 rfl rfl 14 (by decide) w799 (fun _ h9 => h9) rfl dX11_takesOut_50 ?_
            refine lv_iload hx hb dX11_takesOut_53 (lv_at hl 0 rfl) ?_
            refine tz_lald hx hb hK hT 3 rfl (by have := li_3; omega) dX11_takesOut_55 (fun v83 e_v83 => ?_)
            clear e_v83
            refine tz_lastP hx hb hK hT hS 1 (zJ []) rfl (by have := li_3; omega) (z_putx (z := 3) li_3 (by decide)) dX11_takesOut_56 (fun H locs hT hS => ?_)
            have hT : TP D A [(h0, ob 8 [.int h0f0, .int h0f1, .int h0f2, .int h0f3, .int h0f4, .int h0f5, .ref h1, .ref h2, .int h0f8, .int h0f9, .ref h3, .ref h4, .ref h5, .ref h6, .ref h7, .ref h8, .ref h9, .int h0f17, .int h0f18, .int h0f19, .ref h10, .ref h11, .ref h12, .ref h13, .int h0f24, .int h0f25, .ref h14, .ref h15, .ref h16, .ref h17, .int h0f30, .int h0f31, .ref h18, .ref h19, .ref h20, .ref h21]), (h4, aJ (k 1) 9 (zJ [])), (h5, aJ (k 1) 9 (zJ [0, 1, 2])), (h7, aJ (k 1) 4 anJ)] H := hT
            refine lv_aload_n hx hb dX11_takesOut_57 rfl (lv_at hl 2 rfl) ?_
            refine tz_get (ci := 8) (v := .ref h5) (C := RX11) (F := TX11) (N := 36) hx hb hU iX11 hown hK hT 0 rfl rfl 12 (by decide) w797 (fun _ h9 => h9) rfl dX11_takesOut_58 ?_
            refine lv_iload hx hb dX11_takesOut_61 (lv_at hl 0 rfl) ?_
            refine lv_lconst (v := 0) hx hb dX11_takesOut_63 (by decide) ?_
            refine tz_lastP hx hb hK hT hS 2 (zJ [0, 1, 2, 3]) rfl (by have := li_3; omega) (z_put0 (z := 3) li_3 (by decide)) dX11_takesOut_64 (fun H locs hT hS => ?_)
            have hT : TP D A [(h0, ob 8 [.int h0f0, .int h0f1, .int h0f2, .int h0f3, .int h0f4, .int h0f5, .ref h1, .ref h2, .int h0f8, .int h0f9, .ref h3, .ref h4, .ref h5, .ref h6, .ref h7, .ref h8, .ref h9, .int h0f17, .int h0f18, .int h0f19, .ref h10, .ref h11, .ref h12, .ref h13, .int h0f24, .int h0f25, .ref h14, .ref h15, .ref h16, .ref h17, .int h0f30, .int h0f31, .ref h18, .ref h19, .ref h20, .ref h21]), (h4, aJ (k 1) 9 (zJ [])), (h5, aJ (k 1) 9 (zJ [0, 1, 2, 3])), (h7, aJ (k 1) 4 anJ)] H := hT
            refine lv_iinc (v := 4) (lv' := [(5, .int 4), (4, .int 1), (0, .ref h0), (1, .int x1), (2, .int x2), (3, .int x3)]) hx hb dX11_takesOut_65 hl (k := 0) rfl (by decide) (by decide) rfl (fun ls hl => ?_)
            refine lv_goto (tgt := 37) hx hb dX11_takesOut_68 (by decide) ?_
            refine lv_iload hx hb dX11_takesOut_37 (lv_at hl 0 rfl) ?_
            refine lv_iconst (v := 4) hx hb dX11_takesOut_39 (by decide) ?_
            refine lv_icmp_ge (tgt := 71) hx hb dX11_takesOut_40 (by decide) (fun _ => ?_) (fun cc => absurd (by decide +kernel) cc)
            refine lv_iload hx hb dX11_takesOut_71 (lv_at hl 1 rfl) ?_
            refine lv_istore (lv' := [(5, .int 1), (4, .int 1), (0, .ref h0), (1, .int x1), (2, .int x2), (3, .int x3)]) hx hb dX11_takesOut_73 hl (by decide) rfl (fun ls hl => ?_)
            refine lv_iload hx hb dX11_takesOut_75 (lv_at hl 0 rfl) ?_
            refine lv_iload_n hx hb dX11_takesOut_77 rfl (lv_at hl 3 rfl) ?_
            refine lv_icmp_lt (tgt := 154) hx hb dX11_takesOut_78 (by decide) (fun c_84 => ?_) (fun c_84 => ?_)
            · skip
              have c_84 := ni_lt c_84 li_1 hq1
              exfalso; omega
            · skip
              have c_84 := ni_nlt c_84 li_1 hq1
              refine lv_aload_n hx hb dX11_takesOut_81 rfl (lv_at hl 2 rfl) ?_
              refine tz_get (ci := 8) (v := .ref h4) (C := RX11) (F := TX11) (N := 36) hx hb hU iX11 hown hK hT 0 rfl rfl 11 (by decide) w796 (fun _ h9 => h9) rfl dX11_takesOut_82 ?_
              refine lv_iload hx hb dX11_takesOut_85 (lv_at hl 0 rfl) ?_
              refine tz_lald hx hb hK hT 1 rfl (by have := li_1; omega) dX11_takesOut_87 (fun v85 e_v85 => ?_)
              clear e_v85
              refine lv_lstore (lv' := [(6, .long v85), (5, .int 1), (4, .int 1), (0, .ref h0), (1, .int x1), (2, .int x2), (3, .int x3)]) hx hb dX11_takesOut_88 hl (by decide) rfl (fun ls hl => ?_)
              refine lv_aload_n hx hb dX11_takesOut_90 rfl (lv_at hl 3 rfl) ?_
              refine tz_get (ci := 8) (v := .ref h5) (C := RX11) (F := TX11) (N := 36) hx hb hU iX11 hown hK hT 0 rfl rfl 12 (by decide) w797 (fun _ h9 => h9) rfl dX11_takesOut_91 ?_
              refine lv_iload hx hb dX11_takesOut_94 (lv_at hl 1 rfl) ?_
              refine lv_iload_n hx hb dX11_takesOut_96 rfl (lv_at hl 4 rfl) ?_
              refine lv_isub hx hb dX11_takesOut_97 (lv_topi (fun v86 e_v86 => ?_))
              have e_v86 := ai_sub e_v86 li_1 hq1 (by omega)
              refine lv_lload hx hb dX11_takesOut_98 (lv_at hl 0 rfl) ?_
              refine tz_lastP hx hb hK hT hS 2 (zJ [1, 2, 3]) rfl (by omega) (z_putx (z := 0) (show v86.toInt = 0 by omega) (by decide)) dX11_takesOut_100 (fun H locs hT hS => ?_)
              have hT : TP D A [(h0, ob 8 [.int h0f0, .int h0f1, .int h0f2, .int h0f3, .int h0f4, .int h0f5, .ref h1, .ref h2, .int h0f8, .int h0f9, .ref h3, .ref h4, .ref h5, .ref h6, .ref h7, .ref h8, .ref h9, .int h0f17, .int h0f18, .int h0f19, .ref h10, .ref h11, .ref h12, .ref h13, .int h0f24, .int h0f25, .ref h14, .ref h15, .ref h16, .ref h17, .int h0f30, .int h0f31, .ref h18, .ref h19, .ref h20, .ref h21]), (h4, aJ (k 1) 9 (zJ [])), (h5, aJ (k 1) 9 (zJ [1, 2, 3])), (h7, aJ (k 1) 4 anJ)] H := hT
              refine lv_aload_n hx hb dX11_takesOut_101 rfl (lv_at hl 3 rfl) ?_
              refine tz_get (ci := 8) (v := .ref h4) (C := RX11) (F := TX11) (N := 36) hx hb hU iX11 hown hK hT 0 rfl rfl 11 (by decide) w796 (fun _ h9 => h9) rfl dX11_takesOut_102 ?_
              refine lv_iload hx hb dX11_takesOut_105 (lv_at hl 1 rfl) ?_
              refine lv_iload_n hx hb dX11_takesOut_107 rfl (lv_at hl 4 rfl) ?_
              refine lv_isub hx hb dX11_takesOut_108 (lv_topi (fun v87 e_v87 => ?_))
              have e_v87 := ai_sub e_v87 li_1 hq1 (by omega)
              refine lv_dup2_11 hx hb dX11_takesOut_109 rfl rfl ?_
              refine tz_lald hx hb hK hT 1 rfl (by omega) dX11_takesOut_110 (fun v88 e_v88 => ?_)
              clear e_v88
              refine lv_lload hx hb dX11_takesOut_111 (lv_at hl 0 rfl) ?_
              refine lv_iload_n hx hb dX11_takesOut_113 rfl (lv_at hl 5 rfl) ?_
              obtain ⟨v89, e_v89⟩ : ∃ x : Int64, x2.toInt64 = x := ⟨_, rfl⟩
              refine lv_i2l (v := v89) hx hb dX11_takesOut_114 e_v89 ?_
              have e_v89 := ai_i2l e_v89 rfl
              refine lv_lmul hx hb dX11_takesOut_115 (lv_topl (fun v90 e_v90 => ?_))
              refine lv_lsub hx hb dX11_takesOut_116 (lv_topl (fun v91 e_v91 => ?_))
              refine tz_lastP hx hb hK hT hS 1 (zJ []) rfl (by omega) (z_putx (z := 0) (show v87.toInt = 0 by omega) (by decide)) dX11_takesOut_117 (fun H locs hT hS => ?_)
              have hT : TP D A [(h0, ob 8 [.int h0f0, .int h0f1, .int h0f2, .int h0f3, .int h0f4, .int h0f5, .ref h1, .ref h2, .int h0f8, .int h0f9, .ref h3, .ref h4, .ref h5, .ref h6, .ref h7, .ref h8, .ref h9, .int h0f17, .int h0f18, .int h0f19, .ref h10, .ref h11, .ref h12, .ref h13, .int h0f24, .int h0f25, .ref h14, .ref h15, .ref h16, .ref h17, .int h0f30, .int h0f31, .ref h18, .ref h19, .ref h20, .ref h21]), (h4, aJ (k 1) 9 (zJ [])), (h5, aJ (k 1) 9 (zJ [1, 2, 3])), (h7, aJ (k 1) 4 anJ)] H := hT
              refine lv_iload_n hx hb dX11_takesOut_118 rfl (lv_at hl 4 rfl) ?_
              refine lv_iconst (v := 2) hx hb dX11_takesOut_119 (by decide) ?_
              refine lv_icmp_ne (tgt := 140) hx hb dX11_takesOut_120 (by decide) (fun c_92 => ?_) (fun c_92 => ?_)
              · skip
                have c_92 := ni_ne c_92 hq1 li_2
                refine lv_aload_n hx hb dX11_takesOut_140 rfl (lv_at hl 3 rfl) ?_
                refine tz_get (ci := 8) (v := .ref h4) (C := RX11) (F := TX11) (N := 36) hx hb hU iX11 hown hK hT 0 rfl rfl 11 (by decide) w796 (fun _ h9 => h9) rfl dX11_takesOut_141 ?_
                refine lv_iload hx hb dX11_takesOut_144 (lv_at hl 1 rfl) ?_
                refine lv_lconst (v := 0) hx hb dX11_takesOut_146 (by decide) ?_
                refine tz_lastP hx hb hK hT hS 1 (zJ [1]) rfl (by have := li_1; omega) (z_put0 (z := 1) li_1 (by decide)) dX11_takesOut_147 (fun H locs hT hS => ?_)
                have hT : TP D A [(h0, ob 8 [.int h0f0, .int h0f1, .int h0f2, .int h0f3, .int h0f4, .int h0f5, .ref h1, .ref h2, .int h0f8, .int h0f9, .ref h3, .ref h4, .ref h5, .ref h6, .ref h7, .ref h8, .ref h9, .int h0f17, .int h0f18, .int h0f19, .ref h10, .ref h11, .ref h12, .ref h13, .int h0f24, .int h0f25, .ref h14, .ref h15, .ref h16, .ref h17, .int h0f30, .int h0f31, .ref h18, .ref h19, .ref h20, .ref h21]), (h4, aJ (k 1) 9 (zJ [1])), (h5, aJ (k 1) 9 (zJ [1, 2, 3])), (h7, aJ (k 1) 4 anJ)] H := hT
                refine lv_iinc (v := 0) (lv' := [(5, .int 0), (6, .long v85), (4, .int 1), (0, .ref h0), (1, .int x1), (2, .int x2), (3, .int x3)]) hx hb dX11_takesOut_148 hl (k := 1) rfl (by decide) (by decide) rfl (fun ls hl => ?_)
                refine lv_goto (tgt := 75) hx hb dX11_takesOut_151 (by decide) ?_
                refine lv_iload hx hb dX11_takesOut_75 (lv_at hl 0 rfl) ?_
                refine lv_iload_n hx hb dX11_takesOut_77 rfl (lv_at hl 4 rfl) ?_
                refine lv_icmp_lt (tgt := 154) hx hb dX11_takesOut_78 (by decide) (fun c_93 => ?_) (fun c_93 => ?_)
                · skip
                  have c_93 := ni_lt c_93 li_0 hq1
                  refine lv_aload_n hx hb dX11_takesOut_154 rfl (lv_at hl 3 rfl) ?_
                  refine tz_get (ci := 8) (v := .ref h4) (C := RX11) (F := TX11) (N := 36) hx hb hU iX11 hown hK hT 0 rfl rfl 11 (by decide) w796 (fun _ h9 => h9) rfl dX11_takesOut_155 ?_
                  refine lv_iconst (v := 0) hx hb dX11_takesOut_158 (by decide) ?_
                  refine tz_lald hx hb hK hT 1 rfl (by have := li_0; omega) dX11_takesOut_159 (fun v94 e_v94 => ?_)
                  clear e_v94
                  refine lv_lconst (v := 0) hx hb dX11_takesOut_160 (by decide) ?_
                  refine W.lcmp hx hb dX11_takesOut_161 ?_
                  refine lv_if_ne (tgt := 176) hx hb dX11_takesOut_162 (by decide) (fun c_95 => ?_) (fun c_95 => ?_)
                  · skip
                    have c_95 := nl_ne c_95 rfl ll_0
                    refine lv_iconst (v := 0) hx hb dX11_takesOut_176 (by decide) ?_
                    have hT := hT.wk (q := 1) rfl (an_J (c := k 1) (n := 9))
                    have hT : TP D A [(h0, ob 8 [.int h0f0, .int h0f1, .int h0f2, .int h0f3, .int h0f4, .int h0f5, .ref h1, .ref h2, .int h0f8, .int h0f9, .ref h3, .ref h4, .ref h5, .ref h6, .ref h7, .ref h8, .ref h9, .int h0f17, .int h0f18, .int h0f19, .ref h10, .ref h11, .ref h12, .ref h13, .int h0f24, .int h0f25, .ref h14, .ref h15, .ref h16, .ref h17, .int h0f30, .int h0f31, .ref h18, .ref h19, .ref h20, .ref h21]), (h4, aJ (k 1) 9 anJ), (h5, aJ (k 1) 9 (zJ [1, 2, 3])), (h7, aJ (k 1) 4 anJ)] H := hT
                    have hT := hT.wk (q := 2) rfl (an_J (c := k 1) (n := 9))
                    have hT : TP D A [(h0, ob 8 [.int h0f0, .int h0f1, .int h0f2, .int h0f3, .int h0f4, .int h0f5, .ref h1, .ref h2, .int h0f8, .int h0f9, .ref h3, .ref h4, .ref h5, .ref h6, .ref h7, .ref h8, .ref h9, .int h0f17, .int h0f18, .int h0f19, .ref h10, .ref h11, .ref h12, .ref h13, .int h0f24, .int h0f25, .ref h14, .ref h15, .ref h16, .ref h17, .int h0f30, .int h0f31, .ref h18, .ref h19, .ref h20, .ref h21]), (h4, aJ (k 1) 9 anJ), (h5, aJ (k 1) 9 anJ), (h7, aJ (k 1) 4 anJ)] H := hT
                    exact tz_retZ (B := B_cX11_takesOut_ae7df D k h0 h4 h5 h7 h1 h2 h3 h6 h8 h9 h10 h11 h12 h13 h14 h15 h16 h17 h18 h19 h20 h21 x1 x2 x3 h0f0 h0f1 h0f2 h0f3 h0f4 h0f5 h0f8 h0f9 h0f17 h0f18 h0f19 h0f24 h0f25 h0f30 h0f31) (v := 0) hQ hx hb hr hlocks hS (Nat.le_of_ble_eq_true rfl) (Nat.le_of_ble_eq_true rfl) dX11_takesOut_177 (by have := li_0; omega) (Or.inl ⟨rfl, hT⟩)
                  · skip
                    have c_95 := nl_eq c_95 rfl ll_0
                    refine lv_aload_n hx hb dX11_takesOut_165 rfl (lv_at hl 3 rfl) ?_
                    refine tz_get (ci := 8) (v := .ref h4) (C := RX11) (F := TX11) (N := 36) hx hb hU iX11 hown hK hT 0 rfl rfl 11 (by decide) w796 (fun _ h9 => h9) rfl dX11_takesOut_166 ?_
                    refine lv_iconst (v := 1) hx hb dX11_takesOut_169 (by decide) ?_
                    refine tz_lald hx hb hK hT 1 rfl (by have := li_1; omega) dX11_takesOut_170 (fun v96 e_v96 => ?_)
                    have e_v96 := z_get (z := 1) e_v96 li_1 (by decide)
                    subst e_v96
                    refine lv_lconst (v := 0) hx hb dX11_takesOut_171 (by decide) ?_
                    refine W.lcmp hx hb dX11_takesOut_172 (sv_i (v := 0) (by decide +kernel) ?_)
                    refine lv_if_eq (tgt := 178) hx hb dX11_takesOut_173 (by decide) (fun _ => ?_) (fun cc => absurd (by decide +kernel) cc)
                    refine lv_iconst (v := 0) hx hb dX11_takesOut_178 (by decide) ?_
                    refine lv_istore (lv' := [(5, .int 0), (6, .long v85), (4, .int 1), (0, .ref h0), (1, .int x1), (2, .int x2), (3, .int x3)]) hx hb dX11_takesOut_179 hl (by decide) rfl (fun ls hl => ?_)
                    refine lv_iload hx hb dX11_takesOut_181 (lv_at hl 0 rfl) ?_
                    refine lv_iconst (v := 4) hx hb dX11_takesOut_183 (by decide) ?_
                    refine lv_icmp_ge (tgt := 207) hx hb dX11_takesOut_184 (by decide) (fun cc => absurd cc (by decide +kernel)) (fun _ => ?_)
                    refine lv_aload_n hx hb dX11_takesOut_187 rfl (lv_at hl 3 rfl) ?_
                    refine tz_get (ci := 8) (v := .ref h7) (C := RX11) (F := TX11) (N := 36) hx hb hU iX11 hown hK hT 0 rfl rfl 14 (by decide) w799 (fun _ h9 => h9) rfl dX11_takesOut_188 ?_
                    refine lv_iload hx hb dX11_takesOut_191 (lv_at hl 0 rfl) ?_
                    refine lv_aload_n hx hb dX11_takesOut_193 rfl (lv_at hl 3 rfl) ?_
                    refine tz_get (ci := 8) (v := .ref h5) (C := RX11) (F := TX11) (N := 36) hx hb hU iX11 hown hK hT 0 rfl rfl 12 (by decide) w797 (fun _ h9 => h9) rfl dX11_takesOut_194 ?_
                    refine lv_iload hx hb dX11_takesOut_197 (lv_at hl 0 rfl) ?_
                    refine tz_lald hx hb hK hT 2 rfl (by have := li_0; omega) dX11_takesOut_199 (fun v97 e_v97 => ?_)
                    clear e_v97
                    have hT := hT.wk (q := 3) rfl (z_of (c := k 1) (n := 4))
                    have hT : TP D A [(h0, ob 8 [.int h0f0, .int h0f1, .int h0f2, .int h0f3, .int h0f4, .int h0f5, .ref h1, .ref h2, .int h0f8, .int h0f9, .ref h3, .ref h4, .ref h5, .ref h6, .ref h7, .ref h8, .ref h9, .int h0f17, .int h0f18, .int h0f19, .ref h10, .ref h11, .ref h12, .ref h13, .int h0f24, .int h0f25, .ref h14, .ref h15, .ref h16, .ref h17, .int h0f30, .int h0f31, .ref h18, .ref h19, .ref h20, .ref h21]), (h4, aJ (k 1) 9 (zJ [1])), (h5, aJ (k 1) 9 (zJ [1, 2, 3])), (h7, aJ (k 1) 4 (zJ []))] H := hT
                    refine tz_lastP hx hb hK hT hS 3 (zJ []) rfl (by have := li_0; omega) (z_putx (z := 0) li_0 (by decide)) dX11_takesOut_200 (fun H locs hT hS => ?_)
                    have hT : TP D A [(h0, ob 8 [.int h0f0, .int h0f1, .int h0f2, .int h0f3, .int h0f4, .int h0f5, .ref h1, .ref h2, .int h0f8, .int h0f9, .ref h3, .ref h4, .ref h5, .ref h6, .ref h7, .ref h8, .ref h9, .int h0f17, .int h0f18, .int h0f19, .ref h10, .ref h11, .ref h12, .ref h13, .int h0f24, .int h0f25, .ref h14, .ref h15, .ref h16, .ref h17, .int h0f30, .int h0f31, .ref h18, .ref h19, .ref h20, .ref h21]), (h4, aJ (k 1) 9 (zJ [1])), (h5, aJ (k 1) 9 (zJ [1, 2, 3])), (h7, aJ (k 1) 4 (zJ []))] H := hT
                    refine lv_iinc (v := 1) (lv' := [(5, .int 1), (6, .long v85), (4, .int 1), (0, .ref h0), (1, .int x1), (2, .int x2), (3, .int x3)]) hx hb dX11_takesOut_201 hl (k := 0) rfl (by decide) (by decide) rfl (fun ls hl => ?_)
                    refine lv_goto (tgt := 181) hx hb dX11_takesOut_204 (by decide) ?_
                    refine lv_iload hx hb dX11_takesOut_181 (lv_at hl 0 rfl) ?_
                    refine lv_iconst (v := 4) hx hb dX11_takesOut_183 (by decide) ?_
                    refine lv_icmp_ge (tgt := 207) hx hb dX11_takesOut_184 (by decide) (fun cc => absurd cc (by decide +kernel)) (fun _ => ?_)
                    refine lv_aload_n hx hb dX11_takesOut_187 rfl (lv_at hl 3 rfl) ?_
                    refine tz_get (ci := 8) (v := .ref h7) (C := RX11) (F := TX11) (N := 36) hx hb hU iX11 hown hK hT 0 rfl rfl 14 (by decide) w799 (fun _ h9 => h9) rfl dX11_takesOut_188 ?_
                    refine lv_iload hx hb dX11_takesOut_191 (lv_at hl 0 rfl) ?_
                    refine lv_aload_n hx hb dX11_takesOut_193 rfl (lv_at hl 3 rfl) ?_
                    refine tz_get (ci := 8) (v := .ref h5) (C := RX11) (F := TX11) (N := 36) hx hb hU iX11 hown hK hT 0 rfl rfl 12 (by decide) w797 (fun _ h9 => h9) rfl dX11_takesOut_194 ?_
                    refine lv_iload hx hb dX11_takesOut_197 (lv_at hl 0 rfl) ?_
                    refine tz_lald hx hb hK hT 2 rfl (by have := li_1; omega) dX11_takesOut_199 (fun v98 e_v98 => ?_)
                    have e_v98 := z_get (z := 1) e_v98 li_1 (by decide)
                    subst e_v98
                    refine tz_lastP hx hb hK hT hS 3 (zJ [1]) rfl (by have := li_1; omega) (z_put0 (z := 1) li_1 (by decide)) dX11_takesOut_200 (fun H locs hT hS => ?_)
                    have hT : TP D A [(h0, ob 8 [.int h0f0, .int h0f1, .int h0f2, .int h0f3, .int h0f4, .int h0f5, .ref h1, .ref h2, .int h0f8, .int h0f9, .ref h3, .ref h4, .ref h5, .ref h6, .ref h7, .ref h8, .ref h9, .int h0f17, .int h0f18, .int h0f19, .ref h10, .ref h11, .ref h12, .ref h13, .int h0f24, .int h0f25, .ref h14, .ref h15, .ref h16, .ref h17, .int h0f30, .int h0f31, .ref h18, .ref h19, .ref h20, .ref h21]), (h4, aJ (k 1) 9 (zJ [1])), (h5, aJ (k 1) 9 (zJ [1, 2, 3])), (h7, aJ (k 1) 4 (zJ [1]))] H := hT
                    refine lv_iinc (v := 2) (lv' := [(5, .int 2), (6, .long v85), (4, .int 1), (0, .ref h0), (1, .int x1), (2, .int x2), (3, .int x3)]) hx hb dX11_takesOut_201 hl (k := 0) rfl (by decide) (by decide) rfl (fun ls hl => ?_)
                    refine lv_goto (tgt := 181) hx hb dX11_takesOut_204 (by decide) ?_
                    refine lv_iload hx hb dX11_takesOut_181 (lv_at hl 0 rfl) ?_
                    refine lv_iconst (v := 4) hx hb dX11_takesOut_183 (by decide) ?_
                    refine lv_icmp_ge (tgt := 207) hx hb dX11_takesOut_184 (by decide) (fun cc => absurd cc (by decide +kernel)) (fun _ => ?_)
                    refine lv_aload_n hx hb dX11_takesOut_187 rfl (lv_at hl 3 rfl) ?_
                    refine tz_get (ci := 8) (v := .ref h7) (C := RX11) (F := TX11) (N := 36) hx hb hU iX11 hown hK hT 0 rfl rfl 14 (by decide) w799 (fun _ h9 => h9) rfl dX11_takesOut_188 ?_
                    refine lv_iload hx hb dX11_takesOut_191 (lv_at hl 0 rfl) ?_
                    refine lv_aload_n hx hb dX11_takesOut_193 rfl (lv_at hl 3 rfl) ?_
                    refine tz_get (ci := 8) (v := .ref h5) (C := RX11) (F := TX11) (N := 36) hx hb hU iX11 hown hK hT 0 rfl rfl 12 (by decide) w797 (fun _ h9 => h9) rfl dX11_takesOut_194 ?_
                    refine lv_iload hx hb dX11_takesOut_197 (lv_at hl 0 rfl) ?_
                    refine tz_lald hx hb hK hT 2 rfl (by have := li_2; omega) dX11_takesOut_199 (fun v99 e_v99 => ?_)
                    have e_v99 := z_get (z := 2) e_v99 li_2 (by decide)
                    subst e_v99
                    refine tz_lastP hx hb hK hT hS 3 (zJ [1, 2]) rfl (by have := li_2; omega) (z_put0 (z := 2) li_2 (by decide)) dX11_takesOut_200 (fun H locs hT hS => ?_)
                    have hT : TP D A [(h0, ob 8 [.int h0f0, .int h0f1, .int h0f2, .int h0f3, .int h0f4, .int h0f5, .ref h1, .ref h2, .int h0f8, .int h0f9, .ref h3, .ref h4, .ref h5, .ref h6, .ref h7, .ref h8, .ref h9, .int h0f17, .int h0f18, .int h0f19, .ref h10, .ref h11, .ref h12, .ref h13, .int h0f24, .int h0f25, .ref h14, .ref h15, .ref h16, .ref h17, .int h0f30, .int h0f31, .ref h18, .ref h19, .ref h20, .ref h21]), (h4, aJ (k 1) 9 (zJ [1])), (h5, aJ (k 1) 9 (zJ [1, 2, 3])), (h7, aJ (k 1) 4 (zJ [1, 2]))] H := hT
                    refine lv_iinc (v := 3) (lv' := [(5, .int 3), (6, .long v85), (4, .int 1), (0, .ref h0), (1, .int x1), (2, .int x2), (3, .int x3)]) hx hb dX11_takesOut_201 hl (k := 0) rfl (by decide) (by decide) rfl (fun ls hl => ?_)
                    refine lv_goto (tgt := 181) hx hb dX11_takesOut_204 (by decide) ?_
                    refine lv_iload hx hb dX11_takesOut_181 (lv_at hl 0 rfl) ?_
                    refine lv_iconst (v := 4) hx hb dX11_takesOut_183 (by decide) ?_
                    refine lv_icmp_ge (tgt := 207) hx hb dX11_takesOut_184 (by decide) (fun cc => absurd cc (by decide +kernel)) (fun _ => ?_)
                    refine lv_aload_n hx hb dX11_takesOut_187 rfl (lv_at hl 3 rfl) ?_
                    refine tz_get (ci := 8) (v := .ref h7) (C := RX11) (F := TX11) (N := 36) hx hb hU iX11 hown hK hT 0 rfl rfl 14 (by decide) w799 (fun _ h9 => h9) rfl dX11_takesOut_188 ?_
                    refine lv_iload hx hb dX11_takesOut_191 (lv_at hl 0 rfl) ?_
                    refine lv_aload_n hx hb dX11_takesOut_193 rfl (lv_at hl 3 rfl) ?_
                    refine tz_get (ci := 8) (v := .ref h5) (C := RX11) (F := TX11) (N := 36) hx hb hU iX11 hown hK hT 0 rfl rfl 12 (by decide) w797 (fun _ h9 => h9) rfl dX11_takesOut_194 ?_
                    refine lv_iload hx hb dX11_takesOut_197 (lv_at hl 0 rfl) ?_
                    refine tz_lald hx hb hK hT 2 rfl (by have := li_3; omega) dX11_takesOut_199 (fun v100 e_v100 => ?_)
                    have e_v100 := z_get (z := 3) e_v100 li_3 (by decide)
                    subst e_v100
                    refine tz_lastP hx hb hK hT hS 3 (zJ [1, 2, 3]) rfl (by have := li_3; omega) (z_put0 (z := 3) li_3 (by decide)) dX11_takesOut_200 (fun H locs hT hS => ?_)
                    have hT : TP D A [(h0, ob 8 [.int h0f0, .int h0f1, .int h0f2, .int h0f3, .int h0f4, .int h0f5, .ref h1, .ref h2, .int h0f8, .int h0f9, .ref h3, .ref h4, .ref h5, .ref h6, .ref h7, .ref h8, .ref h9, .int h0f17, .int h0f18, .int h0f19, .ref h10, .ref h11, .ref h12, .ref h13, .int h0f24, .int h0f25, .ref h14, .ref h15, .ref h16, .ref h17, .int h0f30, .int h0f31, .ref h18, .ref h19, .ref h20, .ref h21]), (h4, aJ (k 1) 9 (zJ [1])), (h5, aJ (k 1) 9 (zJ [1, 2, 3])), (h7, aJ (k 1) 4 (zJ [1, 2, 3]))] H := hT
                    refine lv_iinc (v := 4) (lv' := [(5, .int 4), (6, .long v85), (4, .int 1), (0, .ref h0), (1, .int x1), (2, .int x2), (3, .int x3)]) hx hb dX11_takesOut_201 hl (k := 0) rfl (by decide) (by decide) rfl (fun ls hl => ?_)
                    refine lv_goto (tgt := 181) hx hb dX11_takesOut_204 (by decide) ?_
                    refine lv_iload hx hb dX11_takesOut_181 (lv_at hl 0 rfl) ?_
                    refine lv_iconst (v := 4) hx hb dX11_takesOut_183 (by decide) ?_
                    refine lv_icmp_ge (tgt := 207) hx hb dX11_takesOut_184 (by decide) (fun _ => ?_) (fun cc => absurd (by decide +kernel) cc)
                    refine lv_iconst (v := 1) hx hb dX11_takesOut_207 (by decide) ?_
                    have hT := hT.wk (q := 1) rfl (an_J (c := k 1) (n := 9))
                    have hT : TP D A [(h0, ob 8 [.int h0f0, .int h0f1, .int h0f2, .int h0f3, .int h0f4, .int h0f5, .ref h1, .ref h2, .int h0f8, .int h0f9, .ref h3, .ref h4, .ref h5, .ref h6, .ref h7, .ref h8, .ref h9, .int h0f17, .int h0f18, .int h0f19, .ref h10, .ref h11, .ref h12, .ref h13, .int h0f24, .int h0f25, .ref h14, .ref h15, .ref h16, .ref h17, .int h0f30, .int h0f31, .ref h18, .ref h19, .ref h20, .ref h21]), (h4, aJ (k 1) 9 anJ), (h5, aJ (k 1) 9 (zJ [1, 2, 3])), (h7, aJ (k 1) 4 (zJ [1, 2, 3]))] H := hT
                    have hT := hT.wk (q := 2) rfl (an_J (c := k 1) (n := 9))
                    have hT : TP D A [(h0, ob 8 [.int h0f0, .int h0f1, .int h0f2, .int h0f3, .int h0f4, .int h0f5, .ref h1, .ref h2, .int h0f8, .int h0f9, .ref h3, .ref h4, .ref h5, .ref h6, .ref h7, .ref h8, .ref h9, .int h0f17, .int h0f18, .int h0f19, .ref h10, .ref h11, .ref h12, .ref h13, .int h0f24, .int h0f25, .ref h14, .ref h15, .ref h16, .ref h17, .int h0f30, .int h0f31, .ref h18, .ref h19, .ref h20, .ref h21]), (h4, aJ (k 1) 9 anJ), (h5, aJ (k 1) 9 anJ), (h7, aJ (k 1) 4 (zJ [1, 2, 3]))] H := hT
                    have hT := hT.wk (q := 3) rfl (z_sub (c := k 1) (n := 4) (l := [1, 2, 3]) (m := [3]) (by decide))
                    have hT : TP D A [(h0, ob 8 [.int h0f0, .int h0f1, .int h0f2, .int h0f3, .int h0f4, .int h0f5, .ref h1, .ref h2, .int h0f8, .int h0f9, .ref h3, .ref h4, .ref h5, .ref h6, .ref h7, .ref h8, .ref h9, .int h0f17, .int h0f18, .int h0f19, .ref h10, .ref h11, .ref h12, .ref h13, .int h0f24, .int h0f25, .ref h14, .ref h15, .ref h16, .ref h17, .int h0f30, .int h0f31, .ref h18, .ref h19, .ref h20, .ref h21]), (h4, aJ (k 1) 9 anJ), (h5, aJ (k 1) 9 anJ), (h7, aJ (k 1) 4 (zJ [3]))] H := hT
                    exact tz_retZ (B := B_cX11_takesOut_ae7df D k h0 h4 h5 h7 h1 h2 h3 h6 h8 h9 h10 h11 h12 h13 h14 h15 h16 h17 h18 h19 h20 h21 x1 x2 x3 h0f0 h0f1 h0f2 h0f3 h0f4 h0f5 h0f8 h0f9 h0f17 h0f18 h0f19 h0f24 h0f25 h0f30 h0f31) (v := 1) hQ hx hb hr hlocks hS (Nat.le_of_ble_eq_true rfl) (Nat.le_of_ble_eq_true rfl) dX11_takesOut_208 (by have := li_1; omega) (Or.inr (Or.inr (Or.inr (Or.inl ⟨v2, v44, v77, v94, (by have := li_1; omega), (by have := li_1; omega), (by have := li_1; omega), (by have := li_1; omega), (by have := li_1; omega), (by have := li_1; omega), (by have := li_1; omega), (by have := li_1; omega), (by have := li_1; omega), (by have := li_1; omega), (by have := li_1; omega), (by have := li_1; omega), (by have := li_1; omega), rfl, hT⟩))))
                · skip
                  have c_93 := ni_nlt c_93 li_0 hq1
                  exfalso; omega
              · skip
                have c_92 := ni_eq c_92 hq1 li_2
                exfalso; omega
          · skip
            have c_79 := ni_nle c_79 hq1 li_1
            exfalso; omega
        · skip
          have c_78 := nl_eq c_78 rfl ll_0
          refine lv_iinc (v := 0) (lv' := [(4, .int 0), (0, .ref h0), (1, .int x1), (2, .int x2), (3, .int x3)]) hx hb dX11_takesOut_20 hl (k := 0) rfl (by decide) (by decide) rfl (fun ls hl => ?_)
          refine lv_goto (tgt := 3) hx hb dX11_takesOut_23 (by decide) ?_
          refine lv_iload hx hb dX11_takesOut_3 (lv_at hl 0 rfl) ?_
          refine lv_if_le (tgt := 26) hx hb dX11_takesOut_5 (by decide) (fun _ => ?_) (fun cc => absurd (by decide +kernel) cc)
          refine lv_iload hx hb dX11_takesOut_26 (lv_at hl 0 rfl) ?_
          refine lv_iload_n hx hb dX11_takesOut_28 rfl (lv_at hl 2 rfl) ?_
          refine lv_icmp_ge (tgt := 34) hx hb dX11_takesOut_29 (by decide) (fun c_101 => ?_) (fun c_101 => ?_)
          · skip
            have c_101 := ni_le c_101 hq1 li_0
            exfalso; omega
          · skip
            have c_101 := ni_nle c_101 hq1 li_0
            refine lv_iconst (v := 0) hx hb dX11_takesOut_32 (by decide) ?_
            exact tz_retZ (B := B_cX11_takesOut_ae7df D k h0 h4 h5 h7 h1 h2 h3 h6 h8 h9 h10 h11 h12 h13 h14 h15 h16 h17 h18 h19 h20 h21 x1 x2 x3 h0f0 h0f1 h0f2 h0f3 h0f4 h0f5 h0f8 h0f9 h0f17 h0f18 h0f19 h0f24 h0f25 h0f30 h0f31) (v := 0) hQ hx hb hr hlocks hS (Nat.le_of_ble_eq_true rfl) (Nat.le_of_ble_eq_true rfl) dX11_takesOut_33 (by have := li_0; omega) (Or.inl ⟨rfl, hT⟩)
  · skip
    refine lv_iconst (v := 3) hx hb dX11_takesOut_0 (by decide) ?_
    refine lv_istore (lv' := [(4, .int 3), (0, .ref h0), (1, .int x1), (2, .int x2), (3, .int x3)]) hx hb dX11_takesOut_1 hl (by decide) rfl (fun ls hl => ?_)
    refine lv_iload hx hb dX11_takesOut_3 (lv_at hl 0 rfl) ?_
    refine lv_if_le (tgt := 26) hx hb dX11_takesOut_5 (by decide) (fun cc => absurd cc (by decide +kernel)) (fun _ => ?_)
    refine lv_aload_n hx hb dX11_takesOut_8 rfl (lv_at hl 1 rfl) ?_
    refine tz_get (ci := 8) (v := .ref h7) (C := RX11) (F := TX11) (N := 36) hx hb hU iX11 hown hK hT 0 rfl rfl 14 (by decide) w799 (fun _ h9 => h9) rfl dX11_takesOut_9 ?_
    refine lv_iload hx hb dX11_takesOut_12 (lv_at hl 0 rfl) ?_
    refine tz_lald hx hb hK hT 3 rfl (by have := li_3; omega) dX11_takesOut_14 (fun v102 e_v102 => ?_)
    clear e_v102
    refine lv_lconst (v := 0) hx hb dX11_takesOut_15 (by decide) ?_
    refine W.lcmp hx hb dX11_takesOut_16 ?_
    refine lv_if_ne (tgt := 26) hx hb dX11_takesOut_17 (by decide) (fun c_103 => ?_) (fun c_103 => ?_)
    · skip
      have c_103 := nl_ne c_103 rfl ll_0
      refine lv_iload hx hb dX11_takesOut_26 (lv_at hl 0 rfl) ?_
      refine lv_iload_n hx hb dX11_takesOut_28 rfl (lv_at hl 2 rfl) ?_
      refine lv_icmp_ge (tgt := 34) hx hb dX11_takesOut_29 (by decide) (fun c_104 => ?_) (fun c_104 => ?_)
      · skip
        have c_104 := ni_le c_104 hq1 li_3
        refine lv_iconst (v := 0) hx hb dX11_takesOut_34 (by decide) ?_
        refine lv_istore (lv' := [(5, .int 0), (4, .int 3), (0, .ref h0), (1, .int x1), (2, .int x2), (3, .int x3)]) hx hb dX11_takesOut_35 hl (by decide) rfl (fun ls hl => ?_)
        refine lv_iload hx hb dX11_takesOut_37 (lv_at hl 0 rfl) ?_
        refine lv_iconst (v := 4) hx hb dX11_takesOut_39 (by decide) ?_
        refine lv_icmp_ge (tgt := 71) hx hb dX11_takesOut_40 (by decide) (fun cc => absurd cc (by decide +kernel)) (fun _ => ?_)
        refine lv_aload_n hx hb dX11_takesOut_43 rfl (lv_at hl 2 rfl) ?_
        refine tz_get (ci := 8) (v := .ref h4) (C := RX11) (F := TX11) (N := 36) hx hb hU iX11 hown hK hT 0 rfl rfl 11 (by decide) w796 (fun _ h9 => h9) rfl dX11_takesOut_44 ?_
        refine lv_iload hx hb dX11_takesOut_47 (lv_at hl 0 rfl) ?_
        refine lv_aload_n hx hb dX11_takesOut_49 rfl (lv_at hl 2 rfl) ?_
        refine tz_get (ci := 8) (v := .ref h7) (C := RX11) (F := TX11) (N := 36) hx hb hU iX11 hown hK hT 0 rfl rfl 14 (by decide) w799 (fun _ h9 => h9) rfl dX11_takesOut_50 ?_
        refine lv_iload hx hb dX11_takesOut_53 (lv_at hl 0 rfl) ?_
        refine tz_lald hx hb hK hT 3 rfl (by have := li_0; omega) dX11_takesOut_55 (fun v105 e_v105 => ?_)
        clear e_v105
        have hT := hT.wk (q := 1) rfl (z_of (c := k 1) (n := 9))
        have hT : TP D A [(h0, ob 8 [.int h0f0, .int h0f1, .int h0f2, .int h0f3, .int h0f4, .int h0f5, .ref h1, .ref h2, .int h0f8, .int h0f9, .ref h3, .ref h4, .ref h5, .ref h6, .ref h7, .ref h8, .ref h9, .int h0f17, .int h0f18, .int h0f19, .ref h10, .ref h11, .ref h12, .ref h13, .int h0f24, .int h0f25, .ref h14, .ref h15, .ref h16, .ref h17, .int h0f30, .int h0f31, .ref h18, .ref h19, .ref h20, .ref h21]), (h4, aJ (k 1) 9 (zJ [])), (h5, aJ (k 1) 9 anJ), (h7, aJ (k 1) 4 anJ)] H := hT
        refine tz_lastP hx hb hK hT hS 1 (zJ []) rfl (by have := li_0; omega) (z_putx (z := 0) li_0 (by decide)) dX11_takesOut_56 (fun H locs hT hS => ?_)
        have hT : TP D A [(h0, ob 8 [.int h0f0, .int h0f1, .int h0f2, .int h0f3, .int h0f4, .int h0f5, .ref h1, .ref h2, .int h0f8, .int h0f9, .ref h3, .ref h4, .ref h5, .ref h6, .ref h7, .ref h8, .ref h9, .int h0f17, .int h0f18, .int h0f19, .ref h10, .ref h11, .ref h12, .ref h13, .int h0f24, .int h0f25, .ref h14, .ref h15, .ref h16, .ref h17, .int h0f30, .int h0f31, .ref h18, .ref h19, .ref h20, .ref h21]), (h4, aJ (k 1) 9 (zJ [])), (h5, aJ (k 1) 9 anJ), (h7, aJ (k 1) 4 anJ)] H := hT
        refine lv_aload_n hx hb dX11_takesOut_57 rfl (lv_at hl 2 rfl) ?_
        refine tz_get (ci := 8) (v := .ref h5) (C := RX11) (F := TX11) (N := 36) hx hb hU iX11 hown hK hT 0 rfl rfl 12 (by decide) w797 (fun _ h9 => h9) rfl dX11_takesOut_58 ?_
        refine lv_iload hx hb dX11_takesOut_61 (lv_at hl 0 rfl) ?_
        refine lv_lconst (v := 0) hx hb dX11_takesOut_63 (by decide) ?_
        have hT := hT.wk (q := 2) rfl (z_of (c := k 1) (n := 9))
        have hT : TP D A [(h0, ob 8 [.int h0f0, .int h0f1, .int h0f2, .int h0f3, .int h0f4, .int h0f5, .ref h1, .ref h2, .int h0f8, .int h0f9, .ref h3, .ref h4, .ref h5, .ref h6, .ref h7, .ref h8, .ref h9, .int h0f17, .int h0f18, .int h0f19, .ref h10, .ref h11, .ref h12, .ref h13, .int h0f24, .int h0f25, .ref h14, .ref h15, .ref h16, .ref h17, .int h0f30, .int h0f31, .ref h18, .ref h19, .ref h20, .ref h21]), (h4, aJ (k 1) 9 (zJ [])), (h5, aJ (k 1) 9 (zJ [])), (h7, aJ (k 1) 4 anJ)] H := hT
        refine tz_lastP hx hb hK hT hS 2 (zJ [0]) rfl (by have := li_0; omega) (z_put0 (z := 0) li_0 (by decide)) dX11_takesOut_64 (fun H locs hT hS => ?_)
        have hT : TP D A [(h0, ob 8 [.int h0f0, .int h0f1, .int h0f2, .int h0f3, .int h0f4, .int h0f5, .ref h1, .ref h2, .int h0f8, .int h0f9, .ref h3, .ref h4, .ref h5, .ref h6, .ref h7, .ref h8, .ref h9, .int h0f17, .int h0f18, .int h0f19, .ref h10, .ref h11, .ref h12, .ref h13, .int h0f24, .int h0f25, .ref h14, .ref h15, .ref h16, .ref h17, .int h0f30, .int h0f31, .ref h18, .ref h19, .ref h20, .ref h21]), (h4, aJ (k 1) 9 (zJ [])), (h5, aJ (k 1) 9 (zJ [0])), (h7, aJ (k 1) 4 anJ)] H := hT
        refine lv_iinc (v := 1) (lv' := [(5, .int 1), (4, .int 3), (0, .ref h0), (1, .int x1), (2, .int x2), (3, .int x3)]) hx hb dX11_takesOut_65 hl (k := 0) rfl (by decide) (by decide) rfl (fun ls hl => ?_)
        refine lv_goto (tgt := 37) hx hb dX11_takesOut_68 (by decide) ?_
        refine lv_iload hx hb dX11_takesOut_37 (lv_at hl 0 rfl) ?_
        refine lv_iconst (v := 4) hx hb dX11_takesOut_39 (by decide) ?_
        refine lv_icmp_ge (tgt := 71) hx hb dX11_takesOut_40 (by decide) (fun cc => absurd cc (by decide +kernel)) (fun _ => ?_)
        refine lv_aload_n hx hb dX11_takesOut_43 rfl (lv_at hl 2 rfl) ?_
        refine tz_get (ci := 8) (v := .ref h4) (C := RX11) (F := TX11) (N := 36) hx hb hU iX11 hown hK hT 0 rfl rfl 11 (by decide) w796 (fun _ h9 => h9) rfl dX11_takesOut_44 ?_
        refine lv_iload hx hb dX11_takesOut_47 (lv_at hl 0 rfl) ?_
        refine lv_aload_n hx hb dX11_takesOut_49 rfl (lv_at hl 2 rfl) ?_
        refine tz_get (ci := 8) (v := .ref h7) (C := RX11) (F := TX11) (N := 36) hx hb hU iX11 hown hK hT 0 rfl rfl 14 (by decide) w799 (fun _ h9 => h9) rfl dX11_takesOut_50 ?_
        refine lv_iload hx hb dX11_takesOut_53 (lv_at hl 0 rfl) ?_
        refine tz_lald hx hb hK hT 3 rfl (by have := li_1; omega) dX11_takesOut_55 (fun v106 e_v106 => ?_)
        clear e_v106
        refine tz_lastP hx hb hK hT hS 1 (zJ []) rfl (by have := li_1; omega) (z_putx (z := 1) li_1 (by decide)) dX11_takesOut_56 (fun H locs hT hS => ?_)
        have hT : TP D A [(h0, ob 8 [.int h0f0, .int h0f1, .int h0f2, .int h0f3, .int h0f4, .int h0f5, .ref h1, .ref h2, .int h0f8, .int h0f9, .ref h3, .ref h4, .ref h5, .ref h6, .ref h7, .ref h8, .ref h9, .int h0f17, .int h0f18, .int h0f19, .ref h10, .ref h11, .ref h12, .ref h13, .int h0f24, .int h0f25, .ref h14, .ref h15, .ref h16, .ref h17, .int h0f30, .int h0f31, .ref h18, .ref h19, .ref h20, .ref h21]), (h4, aJ (k 1) 9 (zJ [])), (h5, aJ (k 1) 9 (zJ [0])), (h7, aJ (k 1) 4 anJ)] H := hT
        refine lv_aload_n hx hb dX11_takesOut_57 rfl (lv_at hl 2 rfl) ?_
        refine tz_get (ci := 8) (v := .ref h5) (C := RX11) (F := TX11) (N := 36) hx hb hU iX11 hown hK hT 0 rfl rfl 12 (by decide) w797 (fun _ h9 => h9) rfl dX11_takesOut_58 ?_
        refine lv_iload hx hb dX11_takesOut_61 (lv_at hl 0 rfl) ?_
        refine lv_lconst (v := 0) hx hb dX11_takesOut_63 (by decide) ?_
        refine tz_lastP hx hb hK hT hS 2 (zJ [0, 1]) rfl (by have := li_1; omega) (z_put0 (z := 1) li_1 (by decide)) dX11_takesOut_64 (fun H locs hT hS => ?_)
        have hT : TP D A [(h0, ob 8 [.int h0f0, .int h0f1, .int h0f2, .int h0f3, .int h0f4, .int h0f5, .ref h1, .ref h2, .int h0f8, .int h0f9, .ref h3, .ref h4, .ref h5, .ref h6, .ref h7, .ref h8, .ref h9, .int h0f17, .int h0f18, .int h0f19, .ref h10, .ref h11, .ref h12, .ref h13, .int h0f24, .int h0f25, .ref h14, .ref h15, .ref h16, .ref h17, .int h0f30, .int h0f31, .ref h18, .ref h19, .ref h20, .ref h21]), (h4, aJ (k 1) 9 (zJ [])), (h5, aJ (k 1) 9 (zJ [0, 1])), (h7, aJ (k 1) 4 anJ)] H := hT
        refine lv_iinc (v := 2) (lv' := [(5, .int 2), (4, .int 3), (0, .ref h0), (1, .int x1), (2, .int x2), (3, .int x3)]) hx hb dX11_takesOut_65 hl (k := 0) rfl (by decide) (by decide) rfl (fun ls hl => ?_)
        refine lv_goto (tgt := 37) hx hb dX11_takesOut_68 (by decide) ?_
        refine lv_iload hx hb dX11_takesOut_37 (lv_at hl 0 rfl) ?_
        refine lv_iconst (v := 4) hx hb dX11_takesOut_39 (by decide) ?_
        refine lv_icmp_ge (tgt := 71) hx hb dX11_takesOut_40 (by decide) (fun cc => absurd cc (by decide +kernel)) (fun _ => ?_)
        refine lv_aload_n hx hb dX11_takesOut_43 rfl (lv_at hl 2 rfl) ?_
        refine tz_get (ci := 8) (v := .ref h4) (C := RX11) (F := TX11) (N := 36) hx hb hU iX11 hown hK hT 0 rfl rfl 11 (by decide) w796 (fun _ h9 => h9) rfl dX11_takesOut_44 ?_
        refine lv_iload hx hb dX11_takesOut_47 (lv_at hl 0 rfl) ?_
        refine lv_aload_n hx hb dX11_takesOut_49 rfl (lv_at hl 2 rfl) ?_
        refine tz_get (ci := 8) (v := .ref h7) (C := RX11) (F := TX11) (N := 36) hx hb hU iX11 hown hK hT 0 rfl rfl 14 (by decide) w799 (fun _ h9 => h9) rfl dX11_takesOut_50 ?_
        refine lv_iload hx hb dX11_takesOut_53 (lv_at hl 0 rfl) ?_
        refine tz_lald hx hb hK hT 3 rfl (by have := li_2; omega) dX11_takesOut_55 (fun v107 e_v107 => ?_)
        clear e_v107
        refine tz_lastP hx hb hK hT hS 1 (zJ []) rfl (by have := li_2; omega) (z_putx (z := 2) li_2 (by decide)) dX11_takesOut_56 (fun H locs hT hS => ?_)
        have hT : TP D A [(h0, ob 8 [.int h0f0, .int h0f1, .int h0f2, .int h0f3, .int h0f4, .int h0f5, .ref h1, .ref h2, .int h0f8, .int h0f9, .ref h3, .ref h4, .ref h5, .ref h6, .ref h7, .ref h8, .ref h9, .int h0f17, .int h0f18, .int h0f19, .ref h10, .ref h11, .ref h12, .ref h13, .int h0f24, .int h0f25, .ref h14, .ref h15, .ref h16, .ref h17, .int h0f30, .int h0f31, .ref h18, .ref h19, .ref h20, .ref h21]), (h4, aJ (k 1) 9 (zJ [])), (h5, aJ (k 1) 9 (zJ [0, 1])), (h7, aJ (k 1) 4 anJ)] H := hT
        refine lv_aload_n hx hb dX11_takesOut_57 rfl (lv_at hl 2 rfl) ?_
        refine tz_get (ci := 8) (v := .ref h5) (C := RX11) (F := TX11) (N := 36) hx hb hU iX11 hown hK hT 0 rfl rfl 12 (by decide) w797 (fun _ h9 => h9) rfl dX11_takesOut_58 ?_
        refine lv_iload hx hb dX11_takesOut_61 (lv_at hl 0 rfl) ?_
        refine lv_lconst (v := 0) hx hb dX11_takesOut_63 (by decide) ?_
        refine tz_lastP hx hb hK hT hS 2 (zJ [0, 1, 2]) rfl (by have := li_2; omega) (z_put0 (z := 2) li_2 (by decide)) dX11_takesOut_64 (fun H locs hT hS => ?_)
        have hT : TP D A [(h0, ob 8 [.int h0f0, .int h0f1, .int h0f2, .int h0f3, .int h0f4, .int h0f5, .ref h1, .ref h2, .int h0f8, .int h0f9, .ref h3, .ref h4, .ref h5, .ref h6, .ref h7, .ref h8, .ref h9, .int h0f17, .int h0f18, .int h0f19, .ref h10, .ref h11, .ref h12, .ref h13, .int h0f24, .int h0f25, .ref h14, .ref h15, .ref h16, .ref h17, .int h0f30, .int h0f31, .ref h18, .ref h19, .ref h20, .ref h21]), (h4, aJ (k 1) 9 (zJ [])), (h5, aJ (k 1) 9 (zJ [0, 1, 2])), (h7, aJ (k 1) 4 anJ)] H := hT
        refine lv_iinc (v := 3) (lv' := [(5, .int 3), (4, .int 3), (0, .ref h0), (1, .int x1), (2, .int x2), (3, .int x3)]) hx hb dX11_takesOut_65 hl (k := 0) rfl (by decide) (by decide) rfl (fun ls hl => ?_)
        refine lv_goto (tgt := 37) hx hb dX11_takesOut_68 (by decide) ?_
        refine lv_iload hx hb dX11_takesOut_37 (lv_at hl 0 rfl) ?_
        refine lv_iconst (v := 4) hx hb dX11_takesOut_39 (by decide) ?_
        refine lv_icmp_ge (tgt := 71) hx hb dX11_takesOut_40 (by decide) (fun cc => absurd cc (by decide +kernel)) (fun _ => ?_)
        refine lv_aload_n hx hb dX11_takesOut_43 rfl (lv_at hl 2 rfl) ?_
        refine tz_get (ci := 8) (v := .ref h4) (C := RX11) (F := TX11) (N := 36) hx hb hU iX11 hown hK hT 0 rfl rfl 11 (by decide) w796 (fun _ h9 => h9) rfl dX11_takesOut_44 ?_
        refine lv_iload hx hb dX11_takesOut_47 (lv_at hl 0 rfl) ?_
        refine lv_aload_n hx hb dX11_takesOut_49 rfl (lv_at hl 2 rfl) ?_
        refine tz_get (ci := 8) (v := .ref h7) (C := RX11) (F := TX11) (N := 36) hx hb hU iX11 hown hK hT 0 rfl rfl 14 (by decide) w799 (fun _ h9 => h9) rfl dX11_takesOut_50 ?_
        refine lv_iload hx hb dX11_takesOut_53 (lv_at hl 0 rfl) ?_
        refine tz_lald hx hb hK hT 3 rfl (by have := li_3; omega) dX11_takesOut_55 (fun v108 e_v108 => ?_)
        clear e_v108
        refine tz_lastP hx hb hK hT hS 1 (zJ []) rfl (by have := li_3; omega) (z_putx (z := 3) li_3 (by decide)) dX11_takesOut_56 (fun H locs hT hS => ?_)
        have hT : TP D A [(h0, ob 8 [.int h0f0, .int h0f1, .int h0f2, .int h0f3, .int h0f4, .int h0f5, .ref h1, .ref h2, .int h0f8, .int h0f9, .ref h3, .ref h4, .ref h5, .ref h6, .ref h7, .ref h8, .ref h9, .int h0f17, .int h0f18, .int h0f19, .ref h10, .ref h11, .ref h12, .ref h13, .int h0f24, .int h0f25, .ref h14, .ref h15, .ref h16, .ref h17, .int h0f30, .int h0f31, .ref h18, .ref h19, .ref h20, .ref h21]), (h4, aJ (k 1) 9 (zJ [])), (h5, aJ (k 1) 9 (zJ [0, 1, 2])), (h7, aJ (k 1) 4 anJ)] H := hT
        refine lv_aload_n hx hb dX11_takesOut_57 rfl (lv_at hl 2 rfl) ?_
        refine tz_get (ci := 8) (v := .ref h5) (C := RX11) (F := TX11) (N := 36) hx hb hU iX11 hown hK hT 0 rfl rfl 12 (by decide) w797 (fun _ h9 => h9) rfl dX11_takesOut_58 ?_
        refine lv_iload hx hb dX11_takesOut_61 (lv_at hl 0 rfl) ?_
        refine lv_lconst (v := 0) hx hb dX11_takesOut_63 (by decide) ?_
        refine tz_lastP hx hb hK hT hS 2 (zJ [0, 1, 2, 3]) rfl (by have := li_3; omega) (z_put0 (z := 3) li_3 (by decide)) dX11_takesOut_64 (fun H locs hT hS => ?_)
        have hT : TP D A [(h0, ob 8 [.int h0f0, .int h0f1, .int h0f2, .int h0f3, .int h0f4, .int h0f5, .ref h1, .ref h2, .int h0f8, .int h0f9, .ref h3, .ref h4, .ref h5, .ref h6, .ref h7, .ref h8, .ref h9, .int h0f17, .int h0f18, .int h0f19, .ref h10, .ref h11, .ref h12, .ref h13, .int h0f24, .int h0f25, .ref h14, .ref h15, .ref h16, .ref h17, .int h0f30, .int h0f31, .ref h18, .ref h19, .ref h20, .ref h21]), (h4, aJ (k 1) 9 (zJ [])), (h5, aJ (k 1) 9 (zJ [0, 1, 2, 3])), (h7, aJ (k 1) 4 anJ)] H := hT
        refine lv_iinc (v := 4) (lv' := [(5, .int 4), (4, .int 3), (0, .ref h0), (1, .int x1), (2, .int x2), (3, .int x3)]) hx hb dX11_takesOut_65 hl (k := 0) rfl (by decide) (by decide) rfl (fun ls hl => ?_)
        refine lv_goto (tgt := 37) hx hb dX11_takesOut_68 (by decide) ?_
        refine lv_iload hx hb dX11_takesOut_37 (lv_at hl 0 rfl) ?_
        refine lv_iconst (v := 4) hx hb dX11_takesOut_39 (by decide) ?_
        refine lv_icmp_ge (tgt := 71) hx hb dX11_takesOut_40 (by decide) (fun _ => ?_) (fun cc => absurd (by decide +kernel) cc)
        refine lv_iload hx hb dX11_takesOut_71 (lv_at hl 1 rfl) ?_
        refine lv_istore (lv' := [(5, .int 3), (4, .int 3), (0, .ref h0), (1, .int x1), (2, .int x2), (3, .int x3)]) hx hb dX11_takesOut_73 hl (by decide) rfl (fun ls hl => ?_)
        refine lv_iload hx hb dX11_takesOut_75 (lv_at hl 0 rfl) ?_
        refine lv_iload_n hx hb dX11_takesOut_77 rfl (lv_at hl 3 rfl) ?_
        refine lv_icmp_lt (tgt := 154) hx hb dX11_takesOut_78 (by decide) (fun c_109 => ?_) (fun c_109 => ?_)
        · skip
          have c_109 := ni_lt c_109 li_3 hq1
          exfalso; omega
        · skip
          have c_109 := ni_nlt c_109 li_3 hq1
          refine lv_aload_n hx hb dX11_takesOut_81 rfl (lv_at hl 2 rfl) ?_
          refine tz_get (ci := 8) (v := .ref h4) (C := RX11) (F := TX11) (N := 36) hx hb hU iX11 hown hK hT 0 rfl rfl 11 (by decide) w796 (fun _ h9 => h9) rfl dX11_takesOut_82 ?_
          refine lv_iload hx hb dX11_takesOut_85 (lv_at hl 0 rfl) ?_
          refine tz_lald hx hb hK hT 1 rfl (by have := li_3; omega) dX11_takesOut_87 (fun v110 e_v110 => ?_)
          clear e_v110
          refine lv_lstore (lv' := [(6, .long v110), (5, .int 3), (4, .int 3), (0, .ref h0), (1, .int x1), (2, .int x2), (3, .int x3)]) hx hb dX11_takesOut_88 hl (by decide) rfl (fun ls hl => ?_)
          refine lv_aload_n hx hb dX11_takesOut_90 rfl (lv_at hl 3 rfl) ?_
          refine tz_get (ci := 8) (v := .ref h5) (C := RX11) (F := TX11) (N := 36) hx hb hU iX11 hown hK hT 0 rfl rfl 12 (by decide) w797 (fun _ h9 => h9) rfl dX11_takesOut_91 ?_
          refine lv_iload hx hb dX11_takesOut_94 (lv_at hl 1 rfl) ?_
          refine lv_iload_n hx hb dX11_takesOut_96 rfl (lv_at hl 4 rfl) ?_
          refine lv_isub hx hb dX11_takesOut_97 (lv_topi (fun v111 e_v111 => ?_))
          have e_v111 := ai_sub e_v111 li_3 hq1 (by omega)
          refine lv_lload hx hb dX11_takesOut_98 (lv_at hl 0 rfl) ?_
          refine tz_lastP hx hb hK hT hS 2 (zJ [0, 2, 3]) rfl (by omega) (z_putx (z := 1) (show v111.toInt = 1 by omega) (by decide)) dX11_takesOut_100 (fun H locs hT hS => ?_)
          have hT : TP D A [(h0, ob 8 [.int h0f0, .int h0f1, .int h0f2, .int h0f3, .int h0f4, .int h0f5, .ref h1, .ref h2, .int h0f8, .int h0f9, .ref h3, .ref h4, .ref h5, .ref h6, .ref h7, .ref h8, .ref h9, .int h0f17, .int h0f18, .int h0f19, .ref h10, .ref h11, .ref h12, .ref h13, .int h0f24, .int h0f25, .ref h14, .ref h15, .ref h16, .ref h17, .int h0f30, .int h0f31, .ref h18, .ref h19, .ref h20, .ref h21]), (h4, aJ (k 1) 9 (zJ [])), (h5, aJ (k 1) 9 (zJ [0, 2, 3])), (h7, aJ (k 1) 4 anJ)] H := hT
          refine lv_aload_n hx hb dX11_takesOut_101 rfl (lv_at hl 3 rfl) ?_
          refine tz_get (ci := 8) (v := .ref h4) (C := RX11) (F := TX11) (N := 36) hx hb hU iX11 hown hK hT 0 rfl rfl 11 (by decide) w796 (fun _ h9 => h9) rfl dX11_takesOut_102 ?_
          refine lv_iload hx hb dX11_takesOut_105 (lv_at hl 1 rfl) ?_
          refine lv_iload_n hx hb dX11_takesOut_107 rfl (lv_at hl 4 rfl) ?_
          refine lv_isub hx hb dX11_takesOut_108 (lv_topi (fun v112 e_v112 => ?_))
          have e_v112 := ai_sub e_v112 li_3 hq1 (by omega)
          refine lv_dup2_11 hx hb dX11_takesOut_109 rfl rfl ?_
          refine tz_lald hx hb hK hT 1 rfl (by omega) dX11_takesOut_110 (fun v113 e_v113 => ?_)
          clear e_v113
          refine lv_lload hx hb dX11_takesOut_111 (lv_at hl 0 rfl) ?_
          refine lv_iload_n hx hb dX11_takesOut_113 rfl (lv_at hl 5 rfl) ?_
          obtain ⟨v114, e_v114⟩ : ∃ x : Int64, x2.toInt64 = x := ⟨_, rfl⟩
          refine lv_i2l (v := v114) hx hb dX11_takesOut_114 e_v114 ?_
          have e_v114 := ai_i2l e_v114 rfl
          refine lv_lmul hx hb dX11_takesOut_115 (lv_topl (fun v115 e_v115 => ?_))
          refine lv_lsub hx hb dX11_takesOut_116 (lv_topl (fun v116 e_v116 => ?_))
          refine tz_lastP hx hb hK hT hS 1 (zJ []) rfl (by omega) (z_putx (z := 1) (show v112.toInt = 1 by omega) (by decide)) dX11_takesOut_117 (fun H locs hT hS => ?_)
          have hT : TP D A [(h0, ob 8 [.int h0f0, .int h0f1, .int h0f2, .int h0f3, .int h0f4, .int h0f5, .ref h1, .ref h2, .int h0f8, .int h0f9, .ref h3, .ref h4, .ref h5, .ref h6, .ref h7, .ref h8, .ref h9, .int h0f17, .int h0f18, .int h0f19, .ref h10, .ref h11, .ref h12, .ref h13, .int h0f24, .int h0f25, .ref h14, .ref h15, .ref h16, .ref h17, .int h0f30, .int h0f31, .ref h18, .ref h19, .ref h20, .ref h21]), (h4, aJ (k 1) 9 (zJ [])), (h5, aJ (k 1) 9 (zJ [0, 2, 3])), (h7, aJ (k 1) 4 anJ)] H := hT
          refine lv_iload_n hx hb dX11_takesOut_118 rfl (lv_at hl 4 rfl) ?_
          refine lv_iconst (v := 2) hx hb dX11_takesOut_119 (by decide) ?_
          refine lv_icmp_ne (tgt := 140) hx hb dX11_takesOut_120 (by decide) (fun c_117 => ?_) (fun c_117 => ?_)
          · skip
            have c_117 := ni_ne c_117 hq1 li_2
            exfalso; omega
          · skip
            have c_117 := ni_eq c_117 hq1 li_2
            refine lv_aload_n hx hb dX11_takesOut_123 rfl (lv_at hl 3 rfl) ?_
            refine tz_get (ci := 8) (v := .ref h4) (C := RX11) (F := TX11) (N := 36) hx hb hU iX11 hown hK hT 0 rfl rfl 11 (by decide) w796 (fun _ h9 => h9) rfl dX11_takesOut_124 ?_
            refine lv_iload hx hb dX11_takesOut_127 (lv_at hl 1 rfl) ?_
            refine lv_iconst (v := 1) hx hb dX11_takesOut_129 (by decide) ?_
            refine lv_isub hx hb dX11_takesOut_130 (sv_i (v := 2) (by decide +kernel) ?_)
            refine lv_dup2_11 hx hb dX11_takesOut_131 rfl rfl ?_
            refine tz_lald hx hb hK hT 1 rfl (by have := li_2; omega) dX11_takesOut_132 (fun v118 e_v118 => ?_)
            clear e_v118
            refine lv_lload hx hb dX11_takesOut_133 (lv_at hl 0 rfl) ?_
            refine lv_iload_n hx hb dX11_takesOut_135 rfl (lv_at hl 6 rfl) ?_
            obtain ⟨v119, e_v119⟩ : ∃ x : Int64, x3.toInt64 = x := ⟨_, rfl⟩
            refine lv_i2l (v := v119) hx hb dX11_takesOut_136 e_v119 ?_
            have e_v119 := ai_i2l e_v119 rfl
            refine lv_lmul hx hb dX11_takesOut_137 (lv_topl (fun v120 e_v120 => ?_))
            refine lv_lsub hx hb dX11_takesOut_138 (lv_topl (fun v121 e_v121 => ?_))
            refine tz_lastP hx hb hK hT hS 1 (zJ []) rfl (by have := li_2; omega) (z_putx (z := 2) li_2 (by decide)) dX11_takesOut_139 (fun H locs hT hS => ?_)
            have hT : TP D A [(h0, ob 8 [.int h0f0, .int h0f1, .int h0f2, .int h0f3, .int h0f4, .int h0f5, .ref h1, .ref h2, .int h0f8, .int h0f9, .ref h3, .ref h4, .ref h5, .ref h6, .ref h7, .ref h8, .ref h9, .int h0f17, .int h0f18, .int h0f19, .ref h10, .ref h11, .ref h12, .ref h13, .int h0f24, .int h0f25, .ref h14, .ref h15, .ref h16, .ref h17, .int h0f30, .int h0f31, .ref h18, .ref h19, .ref h20, .ref h21]), (h4, aJ (k 1) 9 (zJ [])), (h5, aJ (k 1) 9 (zJ [0, 2, 3])), (h7, aJ (k 1) 4 anJ)] H := hT
            refine lv_aload_n hx hb dX11_takesOut_140 rfl (lv_at hl 3 rfl) ?_
            refine tz_get (ci := 8) (v := .ref h4) (C := RX11) (F := TX11) (N := 36) hx hb hU iX11 hown hK hT 0 rfl rfl 11 (by decide) w796 (fun _ h9 => h9) rfl dX11_takesOut_141 ?_
            refine lv_iload hx hb dX11_takesOut_144 (lv_at hl 1 rfl) ?_
            refine lv_lconst (v := 0) hx hb dX11_takesOut_146 (by decide) ?_
            refine tz_lastP hx hb hK hT hS 1 (zJ [3]) rfl (by have := li_3; omega) (z_put0 (z := 3) li_3 (by decide)) dX11_takesOut_147 (fun H locs hT hS => ?_)
            have hT : TP D A [(h0, ob 8 [.int h0f0, .int h0f1, .int h0f2, .int h0f3, .int h0f4, .int h0f5, .ref h1, .ref h2, .int h0f8, .int h0f9, .ref h3, .ref h4, .ref h5, .ref h6, .ref h7, .ref h8, .ref h9, .int h0f17, .int h0f18, .int h0f19, .ref h10, .ref h11, .ref h12, .ref h13, .int h0f24, .int h0f25, .ref h14, .ref h15, .ref h16, .ref h17, .int h0f30, .int h0f31, .ref h18, .ref h19, .ref h20, .ref h21]), (h4, aJ (k 1) 9 (zJ [3])), (h5, aJ (k 1) 9 (zJ [0, 2, 3])), (h7, aJ (k 1) 4 anJ)] H := hT
            refine lv_iinc (v := 2) (lv' := [(5, .int 2), (6, .long v110), (4, .int 3), (0, .ref h0), (1, .int x1), (2, .int x2), (3, .int x3)]) hx hb dX11_takesOut_148 hl (k := 1) rfl (by decide) (by decide) rfl (fun ls hl => ?_)
            refine lv_goto (tgt := 75) hx hb dX11_takesOut_151 (by decide) ?_
            refine lv_iload hx hb dX11_takesOut_75 (lv_at hl 0 rfl) ?_
            refine lv_iload_n hx hb dX11_takesOut_77 rfl (lv_at hl 4 rfl) ?_
            refine lv_icmp_lt (tgt := 154) hx hb dX11_takesOut_78 (by decide) (fun c_122 => ?_) (fun c_122 => ?_)
            · skip
              have c_122 := ni_lt c_122 li_2 hq1
              exfalso; omega
            · skip
              have c_122 := ni_nlt c_122 li_2 hq1
              refine lv_aload_n hx hb dX11_takesOut_81 rfl (lv_at hl 3 rfl) ?_
              refine tz_get (ci := 8) (v := .ref h4) (C := RX11) (F := TX11) (N := 36) hx hb hU iX11 hown hK hT 0 rfl rfl 11 (by decide) w796 (fun _ h9 => h9) rfl dX11_takesOut_82 ?_
              refine lv_iload hx hb dX11_takesOut_85 (lv_at hl 0 rfl) ?_
              refine tz_lald hx hb hK hT 1 rfl (by have := li_2; omega) dX11_takesOut_87 (fun v123 e_v123 => ?_)
              clear e_v123
              refine lv_lstore (lv' := [(6, .long v123), (5, .int 2), (4, .int 3), (0, .ref h0), (1, .int x1), (2, .int x2), (3, .int x3)]) hx hb dX11_takesOut_88 hl (by decide) rfl (fun ls hl => ?_)
              refine lv_aload_n hx hb dX11_takesOut_90 rfl (lv_at hl 3 rfl) ?_
              refine tz_get (ci := 8) (v := .ref h5) (C := RX11) (F := TX11) (N := 36) hx hb hU iX11 hown hK hT 0 rfl rfl 12 (by decide) w797 (fun _ h9 => h9) rfl dX11_takesOut_91 ?_
              refine lv_iload hx hb dX11_takesOut_94 (lv_at hl 1 rfl) ?_
              refine lv_iload_n hx hb dX11_takesOut_96 rfl (lv_at hl 4 rfl) ?_
              refine lv_isub hx hb dX11_takesOut_97 (lv_topi (fun v124 e_v124 => ?_))
              have e_v124 := ai_sub e_v124 li_2 hq1 (by omega)
              refine lv_lload hx hb dX11_takesOut_98 (lv_at hl 0 rfl) ?_
              refine tz_lastP hx hb hK hT hS 2 (zJ [2, 3]) rfl (by omega) (z_putx (z := 0) (show v124.toInt = 0 by omega) (by decide)) dX11_takesOut_100 (fun H locs hT hS => ?_)
              have hT : TP D A [(h0, ob 8 [.int h0f0, .int h0f1, .int h0f2, .int h0f3, .int h0f4, .int h0f5, .ref h1, .ref h2, .int h0f8, .int h0f9, .ref h3, .ref h4, .ref h5, .ref h6, .ref h7, .ref h8, .ref h9, .int h0f17, .int h0f18, .int h0f19, .ref h10, .ref h11, .ref h12, .ref h13, .int h0f24, .int h0f25, .ref h14, .ref h15, .ref h16, .ref h17, .int h0f30, .int h0f31, .ref h18, .ref h19, .ref h20, .ref h21]), (h4, aJ (k 1) 9 (zJ [3])), (h5, aJ (k 1) 9 (zJ [2, 3])), (h7, aJ (k 1) 4 anJ)] H := hT
              refine lv_aload_n hx hb dX11_takesOut_101 rfl (lv_at hl 3 rfl) ?_
              refine tz_get (ci := 8) (v := .ref h4) (C := RX11) (F := TX11) (N := 36) hx hb hU iX11 hown hK hT 0 rfl rfl 11 (by decide) w796 (fun _ h9 => h9) rfl dX11_takesOut_102 ?_
              refine lv_iload hx hb dX11_takesOut_105 (lv_at hl 1 rfl) ?_
              refine lv_iload_n hx hb dX11_takesOut_107 rfl (lv_at hl 4 rfl) ?_
              refine lv_isub hx hb dX11_takesOut_108 (lv_topi (fun v125 e_v125 => ?_))
              have e_v125 := ai_sub e_v125 li_2 hq1 (by omega)
              refine lv_dup2_11 hx hb dX11_takesOut_109 rfl rfl ?_
              refine tz_lald hx hb hK hT 1 rfl (by omega) dX11_takesOut_110 (fun v126 e_v126 => ?_)
              clear e_v126
              refine lv_lload hx hb dX11_takesOut_111 (lv_at hl 0 rfl) ?_
              refine lv_iload_n hx hb dX11_takesOut_113 rfl (lv_at hl 5 rfl) ?_
              obtain ⟨v127, e_v127⟩ : ∃ x : Int64, x2.toInt64 = x := ⟨_, rfl⟩
              refine lv_i2l (v := v127) hx hb dX11_takesOut_114 e_v127 ?_
              have e_v127 := ai_i2l e_v127 rfl
              refine lv_lmul hx hb dX11_takesOut_115 (lv_topl (fun v128 e_v128 => ?_))
              refine lv_lsub hx hb dX11_takesOut_116 (lv_topl (fun v129 e_v129 => ?_))
              refine tz_lastP hx hb hK hT hS 1 (zJ [3]) rfl (by omega) (z_putx (z := 0) (show v125.toInt = 0 by omega) (by decide)) dX11_takesOut_117 (fun H locs hT hS => ?_)
              have hT : TP D A [(h0, ob 8 [.int h0f0, .int h0f1, .int h0f2, .int h0f3, .int h0f4, .int h0f5, .ref h1, .ref h2, .int h0f8, .int h0f9, .ref h3, .ref h4, .ref h5, .ref h6, .ref h7, .ref h8, .ref h9, .int h0f17, .int h0f18, .int h0f19, .ref h10, .ref h11, .ref h12, .ref h13, .int h0f24, .int h0f25, .ref h14, .ref h15, .ref h16, .ref h17, .int h0f30, .int h0f31, .ref h18, .ref h19, .ref h20, .ref h21]), (h4, aJ (k 1) 9 (zJ [3])), (h5, aJ (k 1) 9 (zJ [2, 3])), (h7, aJ (k 1) 4 anJ)] H := hT
              refine lv_iload_n hx hb dX11_takesOut_118 rfl (lv_at hl 4 rfl) ?_
              refine lv_iconst (v := 2) hx hb dX11_takesOut_119 (by decide) ?_
              refine lv_icmp_ne (tgt := 140) hx hb dX11_takesOut_120 (by decide) (fun c_130 => ?_) (fun c_130 => ?_)
              · skip
                have c_130 := ni_ne c_130 hq1 li_2
                exfalso; omega
              · skip
                have c_130 := ni_eq c_130 hq1 li_2
                refine lv_aload_n hx hb dX11_takesOut_123 rfl (lv_at hl 3 rfl) ?_
                refine tz_get (ci := 8) (v := .ref h4) (C := RX11) (F := TX11) (N := 36) hx hb hU iX11 hown hK hT 0 rfl rfl 11 (by decide) w796 (fun _ h9 => h9) rfl dX11_takesOut_124 ?_
                refine lv_iload hx hb dX11_takesOut_127 (lv_at hl 1 rfl) ?_
                refine lv_iconst (v := 1) hx hb dX11_takesOut_129 (by decide) ?_
                refine lv_isub hx hb dX11_takesOut_130 (sv_i (v := 1) (by decide +kernel) ?_)
                refine lv_dup2_11 hx hb dX11_takesOut_131 rfl rfl ?_
                refine tz_lald hx hb hK hT 1 rfl (by have := li_1; omega) dX11_takesOut_132 (fun v131 e_v131 => ?_)
                clear e_v131
                refine lv_lload hx hb dX11_takesOut_133 (lv_at hl 0 rfl) ?_
                refine lv_iload_n hx hb dX11_takesOut_135 rfl (lv_at hl 6 rfl) ?_
                obtain ⟨v132, e_v132⟩ : ∃ x : Int64, x3.toInt64 = x := ⟨_, rfl⟩
                refine lv_i2l (v := v132) hx hb dX11_takesOut_136 e_v132 ?_
                have e_v132 := ai_i2l e_v132 rfl
                refine lv_lmul hx hb dX11_takesOut_137 (lv_topl (fun v133 e_v133 => ?_))
                refine lv_lsub hx hb dX11_takesOut_138 (lv_topl (fun v134 e_v134 => ?_))
                refine tz_lastP hx hb hK hT hS 1 (zJ [3]) rfl (by have := li_1; omega) (z_putx (z := 1) li_1 (by decide)) dX11_takesOut_139 (fun H locs hT hS => ?_)
                have hT : TP D A [(h0, ob 8 [.int h0f0, .int h0f1, .int h0f2, .int h0f3, .int h0f4, .int h0f5, .ref h1, .ref h2, .int h0f8, .int h0f9, .ref h3, .ref h4, .ref h5, .ref h6, .ref h7, .ref h8, .ref h9, .int h0f17, .int h0f18, .int h0f19, .ref h10, .ref h11, .ref h12, .ref h13, .int h0f24, .int h0f25, .ref h14, .ref h15, .ref h16, .ref h17, .int h0f30, .int h0f31, .ref h18, .ref h19, .ref h20, .ref h21]), (h4, aJ (k 1) 9 (zJ [3])), (h5, aJ (k 1) 9 (zJ [2, 3])), (h7, aJ (k 1) 4 anJ)] H := hT
                refine lv_aload_n hx hb dX11_takesOut_140 rfl (lv_at hl 3 rfl) ?_
                refine tz_get (ci := 8) (v := .ref h4) (C := RX11) (F := TX11) (N := 36) hx hb hU iX11 hown hK hT 0 rfl rfl 11 (by decide) w796 (fun _ h9 => h9) rfl dX11_takesOut_141 ?_
                refine lv_iload hx hb dX11_takesOut_144 (lv_at hl 1 rfl) ?_
                refine lv_lconst (v := 0) hx hb dX11_takesOut_146 (by decide) ?_
                refine tz_lastP hx hb hK hT hS 1 (zJ [2, 3]) rfl (by have := li_2; omega) (z_put0 (z := 2) li_2 (by decide)) dX11_takesOut_147 (fun H locs hT hS => ?_)
                have hT : TP D A [(h0, ob 8 [.int h0f0, .int h0f1, .int h0f2, .int h0f3, .int h0f4, .int h0f5, .ref h1, .ref h2, .int h0f8, .int h0f9, .ref h3, .ref h4, .ref h5, .ref h6, .ref h7, .ref h8, .ref h9, .int h0f17, .int h0f18, .int h0f19, .ref h10, .ref h11, .ref h12, .ref h13, .int h0f24, .int h0f25, .ref h14, .ref h15, .ref h16, .ref h17, .int h0f30, .int h0f31, .ref h18, .ref h19, .ref h20, .ref h21]), (h4, aJ (k 1) 9 (zJ [2, 3])), (h5, aJ (k 1) 9 (zJ [2, 3])), (h7, aJ (k 1) 4 anJ)] H := hT
                refine lv_iinc (v := 1) (lv' := [(5, .int 1), (6, .long v123), (4, .int 3), (0, .ref h0), (1, .int x1), (2, .int x2), (3, .int x3)]) hx hb dX11_takesOut_148 hl (k := 1) rfl (by decide) (by decide) rfl (fun ls hl => ?_)
                refine lv_goto (tgt := 75) hx hb dX11_takesOut_151 (by decide) ?_
                refine lv_iload hx hb dX11_takesOut_75 (lv_at hl 0 rfl) ?_
                refine lv_iload_n hx hb dX11_takesOut_77 rfl (lv_at hl 4 rfl) ?_
                refine lv_icmp_lt (tgt := 154) hx hb dX11_takesOut_78 (by decide) (fun c_135 => ?_) (fun c_135 => ?_)
                · skip
                  have c_135 := ni_lt c_135 li_1 hq1
                  refine lv_aload_n hx hb dX11_takesOut_154 rfl (lv_at hl 3 rfl) ?_
                  refine tz_get (ci := 8) (v := .ref h4) (C := RX11) (F := TX11) (N := 36) hx hb hU iX11 hown hK hT 0 rfl rfl 11 (by decide) w796 (fun _ h9 => h9) rfl dX11_takesOut_155 ?_
                  refine lv_iconst (v := 0) hx hb dX11_takesOut_158 (by decide) ?_
                  refine tz_lald hx hb hK hT 1 rfl (by have := li_0; omega) dX11_takesOut_159 (fun v136 e_v136 => ?_)
                  clear e_v136
                  refine lv_lconst (v := 0) hx hb dX11_takesOut_160 (by decide) ?_
                  refine W.lcmp hx hb dX11_takesOut_161 ?_
                  refine lv_if_ne (tgt := 176) hx hb dX11_takesOut_162 (by decide) (fun c_137 => ?_) (fun c_137 => ?_)
                  · skip
                    have c_137 := nl_ne c_137 rfl ll_0
                    refine lv_iconst (v := 0) hx hb dX11_takesOut_176 (by decide) ?_
                    have hT := hT.wk (q := 1) rfl (an_J (c := k 1) (n := 9))
                    have hT : TP D A [(h0, ob 8 [.int h0f0, .int h0f1, .int h0f2, .int h0f3, .int h0f4, .int h0f5, .ref h1, .ref h2, .int h0f8, .int h0f9, .ref h3, .ref h4, .ref h5, .ref h6, .ref h7, .ref h8, .ref h9, .int h0f17, .int h0f18, .int h0f19, .ref h10, .ref h11, .ref h12, .ref h13, .int h0f24, .int h0f25, .ref h14, .ref h15, .ref h16, .ref h17, .int h0f30, .int h0f31, .ref h18, .ref h19, .ref h20, .ref h21]), (h4, aJ (k 1) 9 anJ), (h5, aJ (k 1) 9 (zJ [2, 3])), (h7, aJ (k 1) 4 anJ)] H := hT
                    have hT := hT.wk (q := 2) rfl (an_J (c := k 1) (n := 9))
                    have hT : TP D A [(h0, ob 8 [.int h0f0, .int h0f1, .int h0f2, .int h0f3, .int h0f4, .int h0f5, .ref h1, .ref h2, .int h0f8, .int h0f9, .ref h3, .ref h4, .ref h5, .ref h6, .ref h7, .ref h8, .ref h9, .int h0f17, .int h0f18, .int h0f19, .ref h10, .ref h11, .ref h12, .ref h13, .int h0f24, .int h0f25, .ref h14, .ref h15, .ref h16, .ref h17, .int h0f30, .int h0f31, .ref h18, .ref h19, .ref h20, .ref h21]), (h4, aJ (k 1) 9 anJ), (h5, aJ (k 1) 9 anJ), (h7, aJ (k 1) 4 anJ)] H := hT
                    exact tz_retZ (B := B_cX11_takesOut_ae7df D k h0 h4 h5 h7 h1 h2 h3 h6 h8 h9 h10 h11 h12 h13 h14 h15 h16 h17 h18 h19 h20 h21 x1 x2 x3 h0f0 h0f1 h0f2 h0f3 h0f4 h0f5 h0f8 h0f9 h0f17 h0f18 h0f19 h0f24 h0f25 h0f30 h0f31) (v := 0) hQ hx hb hr hlocks hS (Nat.le_of_ble_eq_true rfl) (Nat.le_of_ble_eq_true rfl) dX11_takesOut_177 (by have := li_0; omega) (Or.inl ⟨rfl, hT⟩)
                  · skip
                    have c_137 := nl_eq c_137 rfl ll_0
                    refine lv_aload_n hx hb dX11_takesOut_165 rfl (lv_at hl 3 rfl) ?_
                    refine tz_get (ci := 8) (v := .ref h4) (C := RX11) (F := TX11) (N := 36) hx hb hU iX11 hown hK hT 0 rfl rfl 11 (by decide) w796 (fun _ h9 => h9) rfl dX11_takesOut_166 ?_
                    refine lv_iconst (v := 1) hx hb dX11_takesOut_169 (by decide) ?_
                    refine tz_lald hx hb hK hT 1 rfl (by have := li_1; omega) dX11_takesOut_170 (fun v138 e_v138 => ?_)
                    clear e_v138
                    refine lv_lconst (v := 0) hx hb dX11_takesOut_171 (by decide) ?_
                    refine W.lcmp hx hb dX11_takesOut_172 ?_
                    refine lv_if_eq (tgt := 178) hx hb dX11_takesOut_173 (by decide) (fun c_139 => ?_) (fun c_139 => ?_)
                    · skip
                      have c_139 := nl_eq c_139 rfl ll_0
                      refine lv_iconst (v := 0) hx hb dX11_takesOut_178 (by decide) ?_
                      refine lv_istore (lv' := [(5, .int 0), (6, .long v123), (4, .int 3), (0, .ref h0), (1, .int x1), (2, .int x2), (3, .int x3)]) hx hb dX11_takesOut_179 hl (by decide) rfl (fun ls hl => ?_)
                      refine lv_iload hx hb dX11_takesOut_181 (lv_at hl 0 rfl) ?_
                      refine lv_iconst (v := 4) hx hb dX11_takesOut_183 (by decide) ?_
                      refine lv_icmp_ge (tgt := 207) hx hb dX11_takesOut_184 (by decide) (fun cc => absurd cc (by decide +kernel)) (fun _ => ?_)
                      refine lv_aload_n hx hb dX11_takesOut_187 rfl (lv_at hl 3 rfl) ?_
                      refine tz_get (ci := 8) (v := .ref h7) (C := RX11) (F := TX11) (N := 36) hx hb hU iX11 hown hK hT 0 rfl rfl 14 (by decide) w799 (fun _ h9 => h9) rfl dX11_takesOut_188 ?_
                      refine lv_iload hx hb dX11_takesOut_191 (lv_at hl 0 rfl) ?_
                      refine lv_aload_n hx hb dX11_takesOut_193 rfl (lv_at hl 3 rfl) ?_
                      refine tz_get (ci := 8) (v := .ref h5) (C := RX11) (F := TX11) (N := 36) hx hb hU iX11 hown hK hT 0 rfl rfl 12 (by decide) w797 (fun _ h9 => h9) rfl dX11_takesOut_194 ?_
                      refine lv_iload hx hb dX11_takesOut_197 (lv_at hl 0 rfl) ?_
                      refine tz_lald hx hb hK hT 2 rfl (by have := li_0; omega) dX11_takesOut_199 (fun v140 e_v140 => ?_)
                      clear e_v140
                      have hT := hT.wk (q := 3) rfl (z_of (c := k 1) (n := 4))
                      have hT : TP D A [(h0, ob 8 [.int h0f0, .int h0f1, .int h0f2, .int h0f3, .int h0f4, .int h0f5, .ref h1, .ref h2, .int h0f8, .int h0f9, .ref h3, .ref h4, .ref h5, .ref h6, .ref h7, .ref h8, .ref h9, .int h0f17, .int h0f18, .int h0f19, .ref h10, .ref h11, .ref h12, .ref h13, .int h0f24, .int h0f25, .ref h14, .ref h15, .ref h16, .ref h17, .int h0f30, .int h0f31, .ref h18, .ref h19, .ref h20, .ref h21]), (h4, aJ (k 1) 9 (zJ [2, 3])), (h5, aJ (k 1) 9 (zJ [2, 3])), (h7, aJ (k 1) 4 (zJ []))] H := hT
                      refine tz_lastP hx hb hK hT hS 3 (zJ []) rfl (by have := li_0; omega) (z_putx (z := 0) li_0 (by decide)) dX11_takesOut_200 (fun H locs hT hS => ?_)
                      have hT : TP D A [(h0, ob 8 [.int h0f0, .int h0f1, .int h0f2, .int h0f3, .int h0f4, .int h0f5, .ref h1, .ref h2, .int h0f8, .int h0f9, .ref h3, .ref h4, .ref h5, .ref h6, .ref h7, .ref h8, .ref h9, .int h0f17, .int h0f18, .int h0f19, .ref h10, .ref h11, .ref h12, .ref h13, .int h0f24, .int h0f25, .ref h14, .ref h15, .ref h16, .ref h17, .int h0f30, .int h0f31, .ref h18, .ref h19, .ref h20, .ref h21]), (h4, aJ (k 1) 9 (zJ [2, 3])), (h5, aJ (k 1) 9 (zJ [2, 3])), (h7, aJ (k 1) 4 (zJ []))] H := hT
                      refine lv_iinc (v := 1) (lv' := [(5, .int 1), (6, .long v123), (4, .int 3), (0, .ref h0), (1, .int x1), (2, .int x2), (3, .int x3)]) hx hb dX11_takesOut_201 hl (k := 0) rfl (by decide) (by decide) rfl (fun ls hl => ?_)
                      refine lv_goto (tgt := 181) hx hb dX11_takesOut_204 (by decide) ?_
                      refine lv_iload hx hb dX11_takesOut_181 (lv_at hl 0 rfl) ?_
                      refine lv_iconst (v := 4) hx hb dX11_takesOut_183 (by decide) ?_
                      refine lv_icmp_ge (tgt := 207) hx hb dX11_takesOut_184 (by decide) (fun cc => absurd cc (by decide +kernel)) (fun _ => ?_)
                      refine lv_aload_n hx hb dX11_takesOut_187 rfl (lv_at hl 3 rfl) ?_
                      refine tz_get (ci := 8) (v := .ref h7) (C := RX11) (F := TX11) (N := 36) hx hb hU iX11 hown hK hT 0 rfl rfl 14 (by decide) w799 (fun _ h9 => h9) rfl dX11_takesOut_188 ?_
                      refine lv_iload hx hb dX11_takesOut_191 (lv_at hl 0 rfl) ?_
                      refine lv_aload_n hx hb dX11_takesOut_193 rfl (lv_at hl 3 rfl) ?_
                      refine tz_get (ci := 8) (v := .ref h5) (C := RX11) (F := TX11) (N := 36) hx hb hU iX11 hown hK hT 0 rfl rfl 12 (by decide) w797 (fun _ h9 => h9) rfl dX11_takesOut_194 ?_
                      refine lv_iload hx hb dX11_takesOut_197 (lv_at hl 0 rfl) ?_
                      refine tz_lald hx hb hK hT 2 rfl (by have := li_1; omega) dX11_takesOut_199 (fun v141 e_v141 => ?_)
                      clear e_v141
                      refine tz_lastP hx hb hK hT hS 3 (zJ []) rfl (by have := li_1; omega) (z_putx (z := 1) li_1 (by decide)) dX11_takesOut_200 (fun H locs hT hS => ?_)
                      have hT : TP D A [(h0, ob 8 [.int h0f0, .int h0f1, .int h0f2, .int h0f3, .int h0f4, .int h0f5, .ref h1, .ref h2, .int h0f8, .int h0f9, .ref h3, .ref h4, .ref h5, .ref h6, .ref h7, .ref h8, .ref h9, .int h0f17, .int h0f18, .int h0f19, .ref h10, .ref h11, .ref h12, .ref h13, .int h0f24, .int h0f25, .ref h14, .ref h15, .ref h16, .ref h17, .int h0f30, .int h0f31, .ref h18, .ref h19, .ref h20, .ref h21]), (h4, aJ (k 1) 9 (zJ [2, 3])), (h5, aJ (k 1) 9 (zJ [2, 3])), (h7, aJ (k 1) 4 (zJ []))] H := hT
                      refine lv_iinc (v := 2) (lv' := [(5, .int 2), (6, .long v123), (4, .int 3), (0, .ref h0), (1, .int x1), (2, .int x2), (3, .int x3)]) hx hb dX11_takesOut_201 hl (k := 0) rfl (by decide) (by decide) rfl (fun ls hl => ?_)
                      refine lv_goto (tgt := 181) hx hb dX11_takesOut_204 (by decide) ?_
                      refine lv_iload hx hb dX11_takesOut_181 (lv_at hl 0 rfl) ?_
                      refine lv_iconst (v := 4) hx hb dX11_takesOut_183 (by decide) ?_
                      refine lv_icmp_ge (tgt := 207) hx hb dX11_takesOut_184 (by decide) (fun cc => absurd cc (by decide +kernel)) (fun _ => ?_)
                      refine lv_aload_n hx hb dX11_takesOut_187 rfl (lv_at hl 3 rfl) ?_
                      refine tz_get (ci := 8) (v := .ref h7) (C := RX11) (F := TX11) (N := 36) hx hb hU iX11 hown hK hT 0 rfl rfl 14 (by decide) w799 (fun _ h9 => h9) rfl dX11_takesOut_188 ?_
                      refine lv_iload hx hb dX11_takesOut_191 (lv_at hl 0 rfl) ?_
                      refine lv_aload_n hx hb dX11_takesOut_193 rfl (lv_at hl 3 rfl) ?_
                      refine tz_get (ci := 8) (v := .ref h5) (C := RX11) (F := TX11) (N := 36) hx hb hU iX11 hown hK hT 0 rfl rfl 12 (by decide) w797 (fun _ h9 => h9) rfl dX11_takesOut_194 ?_
                      refine lv_iload hx hb dX11_takesOut_197 (lv_at hl 0 rfl) ?_
                      refine tz_lald hx hb hK hT 2 rfl (by have := li_2; omega) dX11_takesOut_199 (fun v142 e_v142 => ?_)
                      have e_v142 := z_get (z := 2) e_v142 li_2 (by decide)
                      subst e_v142
                      refine tz_lastP hx hb hK hT hS 3 (zJ [2]) rfl (by have := li_2; omega) (z_put0 (z := 2) li_2 (by decide)) dX11_takesOut_200 (fun H locs hT hS => ?_)
                      have hT : TP D A [(h0, ob 8 [.int h0f0, .int h0f1, .int h0f2, .int h0f3, .int h0f4, .int h0f5, .ref h1, .ref h2, .int h0f8, .int h0f9, .ref h3, .ref h4, .ref h5, .ref h6, .ref h7, .ref h8, .ref h9, .int h0f17, .int h0f18, .int h0f19, .ref h10, .ref h11, .ref h12, .ref h13, .int h0f24, .int h0f25, .ref h14, .ref h15, .ref h16, .ref h17, .int h0f30, .int h0f31, .ref h18, .ref h19, .ref h20, .ref h21]), (h4, aJ (k 1) 9 (zJ [2, 3])), (h5, aJ (k 1) 9 (zJ [2, 3])), (h7, aJ (k 1) 4 (zJ [2]))] H := hT
                      refine lv_iinc (v := 3) (lv' := [(5, .int 3), (6, .long v123), (4, .int 3), (0, .ref h0), (1, .int x1), (2, .int x2), (3, .int x3)]) hx hb dX11_takesOut_201 hl (k := 0) rfl (by decide) (by decide) rfl (fun ls hl => ?_)
                      refine lv_goto (tgt := 181) hx hb dX11_takesOut_204 (by decide) ?_
                      refine lv_iload hx hb dX11_takesOut_181 (lv_at hl 0 rfl) ?_
                      refine lv_iconst (v := 4) hx hb dX11_takesOut_183 (by decide) ?_
                      refine lv_icmp_ge (tgt := 207) hx hb dX11_takesOut_184 (by decide) (fun cc => absurd cc (by decide +kernel)) (fun _ => ?_)
                      refine lv_aload_n hx hb dX11_takesOut_187 rfl (lv_at hl 3 rfl) ?_
                      refine tz_get (ci := 8) (v := .ref h7) (C := RX11) (F := TX11) (N := 36) hx hb hU iX11 hown hK hT 0 rfl rfl 14 (by decide) w799 (fun _ h9 => h9) rfl dX11_takesOut_188 ?_
                      refine lv_iload hx hb dX11_takesOut_191 (lv_at hl 0 rfl) ?_
                      refine lv_aload_n hx hb dX11_takesOut_193 rfl (lv_at hl 3 rfl) ?_
                      refine tz_get (ci := 8) (v := .ref h5) (C := RX11) (F := TX11) (N := 36) hx hb hU iX11 hown hK hT 0 rfl rfl 12 (by decide) w797 (fun _ h9 => h9) rfl dX11_takesOut_194 ?_
                      refine lv_iload hx hb dX11_takesOut_197 (lv_at hl 0 rfl) ?_
                      refine tz_lald hx hb hK hT 2 rfl (by have := li_3; omega) dX11_takesOut_199 (fun v143 e_v143 => ?_)
                      have e_v143 := z_get (z := 3) e_v143 li_3 (by decide)
                      subst e_v143
                      refine tz_lastP hx hb hK hT hS 3 (zJ [2, 3]) rfl (by have := li_3; omega) (z_put0 (z := 3) li_3 (by decide)) dX11_takesOut_200 (fun H locs hT hS => ?_)
                      have hT : TP D A [(h0, ob 8 [.int h0f0, .int h0f1, .int h0f2, .int h0f3, .int h0f4, .int h0f5, .ref h1, .ref h2, .int h0f8, .int h0f9, .ref h3, .ref h4, .ref h5, .ref h6, .ref h7, .ref h8, .ref h9, .int h0f17, .int h0f18, .int h0f19, .ref h10, .ref h11, .ref h12, .ref h13, .int h0f24, .int h0f25, .ref h14, .ref h15, .ref h16, .ref h17, .int h0f30, .int h0f31, .ref h18, .ref h19, .ref h20, .ref h21]), (h4, aJ (k 1) 9 (zJ [2, 3])), (h5, aJ (k 1) 9 (zJ [2, 3])), (h7, aJ (k 1) 4 (zJ [2, 3]))] H := hT
                      refine lv_iinc (v := 4) (lv' := [(5, .int 4), (6, .long v123), (4, .int 3), (0, .ref h0), (1, .int x1), (2, .int x2), (3, .int x3)]) hx hb dX11_takesOut_201 hl (k := 0) rfl (by decide) (by decide) rfl (fun ls hl => ?_)
                      refine lv_goto (tgt := 181) hx hb dX11_takesOut_204 (by decide) ?_
                      refine lv_iload hx hb dX11_takesOut_181 (lv_at hl 0 rfl) ?_
                      refine lv_iconst (v := 4) hx hb dX11_takesOut_183 (by decide) ?_
                      refine lv_icmp_ge (tgt := 207) hx hb dX11_takesOut_184 (by decide) (fun _ => ?_) (fun cc => absurd (by decide +kernel) cc)
                      refine lv_iconst (v := 1) hx hb dX11_takesOut_207 (by decide) ?_
                      have hT := hT.wk (q := 1) rfl (an_J (c := k 1) (n := 9))
                      have hT : TP D A [(h0, ob 8 [.int h0f0, .int h0f1, .int h0f2, .int h0f3, .int h0f4, .int h0f5, .ref h1, .ref h2, .int h0f8, .int h0f9, .ref h3, .ref h4, .ref h5, .ref h6, .ref h7, .ref h8, .ref h9, .int h0f17, .int h0f18, .int h0f19, .ref h10, .ref h11, .ref h12, .ref h13, .int h0f24, .int h0f25, .ref h14, .ref h15, .ref h16, .ref h17, .int h0f30, .int h0f31, .ref h18, .ref h19, .ref h20, .ref h21]), (h4, aJ (k 1) 9 anJ), (h5, aJ (k 1) 9 (zJ [2, 3])), (h7, aJ (k 1) 4 (zJ [2, 3]))] H := hT
                      have hT := hT.wk (q := 2) rfl (an_J (c := k 1) (n := 9))
                      have hT : TP D A [(h0, ob 8 [.int h0f0, .int h0f1, .int h0f2, .int h0f3, .int h0f4, .int h0f5, .ref h1, .ref h2, .int h0f8, .int h0f9, .ref h3, .ref h4, .ref h5, .ref h6, .ref h7, .ref h8, .ref h9, .int h0f17, .int h0f18, .int h0f19, .ref h10, .ref h11, .ref h12, .ref h13, .int h0f24, .int h0f25, .ref h14, .ref h15, .ref h16, .ref h17, .int h0f30, .int h0f31, .ref h18, .ref h19, .ref h20, .ref h21]), (h4, aJ (k 1) 9 anJ), (h5, aJ (k 1) 9 anJ), (h7, aJ (k 1) 4 (zJ [2, 3]))] H := hT
                      have hT := hT.wk (q := 3) rfl (z_sub (c := k 1) (n := 4) (l := [2, 3]) (m := [3]) (by decide))
                      have hT : TP D A [(h0, ob 8 [.int h0f0, .int h0f1, .int h0f2, .int h0f3, .int h0f4, .int h0f5, .ref h1, .ref h2, .int h0f8, .int h0f9, .ref h3, .ref h4, .ref h5, .ref h6, .ref h7, .ref h8, .ref h9, .int h0f17, .int h0f18, .int h0f19, .ref h10, .ref h11, .ref h12, .ref h13, .int h0f24, .int h0f25, .ref h14, .ref h15, .ref h16, .ref h17, .int h0f30, .int h0f31, .ref h18, .ref h19, .ref h20, .ref h21]), (h4, aJ (k 1) 9 anJ), (h5, aJ (k 1) 9 anJ), (h7, aJ (k 1) 4 (zJ [3]))] H := hT
                      exact tz_retZ (B := B_cX11_takesOut_ae7df D k h0 h4 h5 h7 h1 h2 h3 h6 h8 h9 h10 h11 h12 h13 h14 h15 h16 h17 h18 h19 h20 h21 x1 x2 x3 h0f0 h0f1 h0f2 h0f3 h0f4 h0f5 h0f8 h0f9 h0f17 h0f18 h0f19 h0f24 h0f25 h0f30 h0f31) (v := 1) hQ hx hb hr hlocks hS (Nat.le_of_ble_eq_true rfl) (Nat.le_of_ble_eq_true rfl) dX11_takesOut_208 (by have := li_1; omega) (Or.inr (Or.inr (Or.inr (Or.inr (Or.inl ⟨v102, v136, v138, (by have := li_1; omega), (by have := li_1; omega), (by have := li_1; omega), (by have := li_1; omega), (by have := li_1; omega), (by have := li_1; omega), (by have := li_1; omega), (by have := li_1; omega), (by have := li_1; omega), (by have := li_1; omega), (by have := li_1; omega), rfl, hT⟩)))))
                    · skip
                      have c_139 := nl_ne c_139 rfl ll_0
                      refine lv_iconst (v := 0) hx hb dX11_takesOut_176 (by decide) ?_
                      have hT := hT.wk (q := 1) rfl (an_J (c := k 1) (n := 9))
                      have hT : TP D A [(h0, ob 8 [.int h0f0, .int h0f1, .int h0f2, .int h0f3, .int h0f4, .int h0f5, .ref h1, .ref h2, .int h0f8, .int h0f9, .ref h3, .ref h4, .ref h5, .ref h6, .ref h7, .ref h8, .ref h9, .int h0f17, .int h0f18, .int h0f19, .ref h10, .ref h11, .ref h12, .ref h13, .int h0f24, .int h0f25, .ref h14, .ref h15, .ref h16, .ref h17, .int h0f30, .int h0f31, .ref h18, .ref h19, .ref h20, .ref h21]), (h4, aJ (k 1) 9 anJ), (h5, aJ (k 1) 9 (zJ [2, 3])), (h7, aJ (k 1) 4 anJ)] H := hT
                      have hT := hT.wk (q := 2) rfl (an_J (c := k 1) (n := 9))
                      have hT : TP D A [(h0, ob 8 [.int h0f0, .int h0f1, .int h0f2, .int h0f3, .int h0f4, .int h0f5, .ref h1, .ref h2, .int h0f8, .int h0f9, .ref h3, .ref h4, .ref h5, .ref h6, .ref h7, .ref h8, .ref h9, .int h0f17, .int h0f18, .int h0f19, .ref h10, .ref h11, .ref h12, .ref h13, .int h0f24, .int h0f25, .ref h14, .ref h15, .ref h16, .ref h17, .int h0f30, .int h0f31, .ref h18, .ref h19, .ref h20, .ref h21]), (h4, aJ (k 1) 9 anJ), (h5, aJ (k 1) 9 anJ), (h7, aJ (k 1) 4 anJ)] H := hT
                      exact tz_retZ (B := B_cX11_takesOut_ae7df D k h0 h4 h5 h7 h1 h2 h3 h6 h8 h9 h10 h11 h12 h13 h14 h15 h16 h17 h18 h19 h20 h21 x1 x2 x3 h0f0 h0f1 h0f2 h0f3 h0f4 h0f5 h0f8 h0f9 h0f17 h0f18 h0f19 h0f24 h0f25 h0f30 h0f31) (v := 0) hQ hx hb hr hlocks hS (Nat.le_of_ble_eq_true rfl) (Nat.le_of_ble_eq_true rfl) dX11_takesOut_177 (by have := li_0; omega) (Or.inl ⟨rfl, hT⟩)
                · skip
                  have c_135 := ni_nlt c_135 li_1 hq1
                  exfalso; omega
      · skip
        have c_104 := ni_nle c_104 hq1 li_3
        exfalso; omega
    · skip
      have c_103 := nl_eq c_103 rfl ll_0
      refine lv_iinc (v := 2) (lv' := [(4, .int 2), (0, .ref h0), (1, .int x1), (2, .int x2), (3, .int x3)]) hx hb dX11_takesOut_20 hl (k := 0) rfl (by decide) (by decide) rfl (fun ls hl => ?_)
      refine lv_goto (tgt := 3) hx hb dX11_takesOut_23 (by decide) ?_
      refine lv_iload hx hb dX11_takesOut_3 (lv_at hl 0 rfl) ?_
      refine lv_if_le (tgt := 26) hx hb dX11_takesOut_5 (by decide) (fun cc => absurd cc (by decide +kernel)) (fun _ => ?_)
      refine lv_aload_n hx hb dX11_takesOut_8 rfl (lv_at hl 1 rfl) ?_
      refine tz_get (ci := 8) (v := .ref h7) (C := RX11) (F := TX11) (N := 36) hx hb hU iX11 hown hK hT 0 rfl rfl 14 (by decide) w799 (fun _ h9 => h9) rfl dX11_takesOut_9 ?_
      refine lv_iload hx hb dX11_takesOut_12 (lv_at hl 0 rfl) ?_
      refine tz_lald hx hb hK hT 3 rfl (by have := li_2; omega) dX11_takesOut_14 (fun v144 e_v144 => ?_)
      clear e_v144
      refine lv_lconst (v := 0) hx hb dX11_takesOut_15 (by decide) ?_
      refine W.lcmp hx hb dX11_takesOut_16 ?_
      refine lv_if_ne (tgt := 26) hx hb dX11_takesOut_17 (by decide) (fun c_145 => ?_) (fun c_145 => ?_)
      · skip
        have c_145 := nl_ne c_145 rfl ll_0
        refine lv_iload hx hb dX11_takesOut_26 (lv_at hl 0 rfl) ?_
        refine lv_iload_n hx hb dX11_takesOut_28 rfl (lv_at hl 2 rfl) ?_
        refine lv_icmp_ge (tgt := 34) hx hb dX11_takesOut_29 (by decide) (fun c_146 => ?_) (fun c_146 => ?_)
        · skip
          have c_146 := ni_le c_146 hq1 li_2
          refine lv_iconst (v := 0) hx hb dX11_takesOut_34 (by decide) ?_
          refine lv_istore (lv' := [(5, .int 0), (4, .int 2), (0, .ref h0), (1, .int x1), (2, .int x2), (3, .int x3)]) hx hb dX11_takesOut_35 hl (by decide) rfl (fun ls hl => ?_)
          refine lv_iload hx hb dX11_takesOut_37 (lv_at hl 0 rfl) ?_
          refine lv_iconst (v := 4) hx hb dX11_takesOut_39 (by decide) ?_
          refine lv_icmp_ge (tgt := 71) hx hb dX11_takesOut_40 (by decide) (fun cc => absurd cc (by decide +kernel)) (fun _ => ?_)
          refine lv_aload_n hx hb dX11_takesOut_43 rfl (lv_at hl 2 rfl) ?_
          refine tz_get (ci := 8) (v := .ref h4) (C := RX11) (F := TX11) (N := 36) hx hb hU iX11 hown hK hT 0 rfl rfl 11 (by decide) w796 (fun _ h9 => h9) rfl dX11_takesOut_44 ?_
          refine lv_iload hx hb dX11_takesOut_47 (lv_at hl 0 rfl) ?_
          refine lv_aload_n hx hb dX11_takesOut_49 rfl (lv_at hl 2 rfl) ?_
          refine tz_get (ci := 8) (v := .ref h7) (C := RX11) (F := TX11) (N := 36) hx hb hU iX11 hown hK hT 0 rfl rfl 14 (by decide) w799 (fun _ h9 => h9) rfl dX11_takesOut_50 ?_
          refine lv_iload hx hb dX11_takesOut_53 (lv_at hl 0 rfl) ?_
          refine tz_lald hx hb hK hT 3 rfl (by have := li_0; omega) dX11_takesOut_55 (fun v147 e_v147 => ?_)
          clear e_v147
          have hT := hT.wk (q := 1) rfl (z_of (c := k 1) (n := 9))
          have hT : TP D A [(h0, ob 8 [.int h0f0, .int h0f1, .int h0f2, .int h0f3, .int h0f4, .int h0f5, .ref h1, .ref h2, .int h0f8, .int h0f9, .ref h3, .ref h4, .ref h5, .ref h6, .ref h7, .ref h8, .ref h9, .int h0f17, .int h0f18, .int h0f19, .ref h10, .ref h11, .ref h12, .ref h13, .int h0f24, .int h0f25, .ref h14, .ref h15, .ref h16, .ref h17, .int h0f30, .int h0f31, .ref h18, .ref h19, .ref h20, .ref h21]), (h4, aJ (k 1) 9 (zJ [])), (h5, aJ (k 1) 9 anJ), (h7, aJ (k 1) 4 anJ)] H := hT
          refine tz_lastP hx hb hK hT hS 1 (zJ []) rfl (by have := li_0; omega) (z_putx (z := 0) li_0 (by decide)) dX11_takesOut_56 (fun H locs hT hS => ?_)
          have hT : TP D A [(h0, ob 8 [.int h0f0, .int h0f1, .int h0f2, .int h0f3, .int h0f4, .int h0f5, .ref h1, .ref h2, .int h0f8, .int h0f9, .ref h3, .ref h4, .ref h5, .ref h6, .ref h7, .ref h8, .ref h9, .int h0f17, .int h0f18, .int h0f19, .ref h10, .ref h11, .ref h12, .ref h13, .int h0f24, .int h0f25, .ref h14, .ref h15, .ref h16, .ref h17, .int h0f30, .int h0f31, .ref h18, .ref h19, .ref h20, .ref h21]), (h4, aJ (k 1) 9 (zJ [])), (h5, aJ (k 1) 9 anJ), (h7, aJ (k 1) 4 anJ)] H := hT
          refine lv_aload_n hx hb dX11_takesOut_57 rfl (lv_at hl 2 rfl) ?_
          refine tz_get (ci := 8) (v := .ref h5) (C := RX11) (F := TX11) (N := 36) hx hb hU iX11 hown hK hT 0 rfl rfl 12 (by decide) w797 (fun _ h9 => h9) rfl dX11_takesOut_58 ?_
          refine lv_iload hx hb dX11_takesOut_61 (lv_at hl 0 rfl) ?_
          refine lv_lconst (v := 0) hx hb dX11_takesOut_63 (by decide) ?_
          have hT := hT.wk (q := 2) rfl (z_of (c := k 1) (n := 9))
          have hT : TP D A [(h0, ob 8 [.int h0f0, .int h0f1, .int h0f2, .int h0f3, .int h0f4, .int h0f5, .ref h1, .ref h2, .int h0f8, .int h0f9, .ref h3, .ref h4, .ref h5, .ref h6, .ref h7, .ref h8, .ref h9, .int h0f17, .int h0f18, .int h0f19, .ref h10, .ref h11, .ref h12, .ref h13, .int h0f24, .int h0f25, .ref h14, .ref h15, .ref h16, .ref h17, .int h0f30, .int h0f31, .ref h18, .ref h19, .ref h20, .ref h21]), (h4, aJ (k 1) 9 (zJ [])), (h5, aJ (k 1) 9 (zJ [])), (h7, aJ (k 1) 4 anJ)] H := hT
          refine tz_lastP hx hb hK hT hS 2 (zJ [0]) rfl (by have := li_0; omega) (z_put0 (z := 0) li_0 (by decide)) dX11_takesOut_64 (fun H locs hT hS => ?_)
          have hT : TP D A [(h0, ob 8 [.int h0f0, .int h0f1, .int h0f2, .int h0f3, .int h0f4, .int h0f5, .ref h1, .ref h2, .int h0f8, .int h0f9, .ref h3, .ref h4, .ref h5, .ref h6, .ref h7, .ref h8, .ref h9, .int h0f17, .int h0f18, .int h0f19, .ref h10, .ref h11, .ref h12, .ref h13, .int h0f24, .int h0f25, .ref h14, .ref h15, .ref h16, .ref h17, .int h0f30, .int h0f31, .ref h18, .ref h19, .ref h20, .ref h21]), (h4, aJ (k 1) 9 (zJ [])), (h5, aJ (k 1) 9 (zJ [0])), (h7, aJ (k 1) 4 anJ)] H := hT
          refine lv_iinc (v := 1) (lv' := [(5, .int 1), (4, .int 2), (0, .ref h0), (1, .int x1), (2, .int x2), (3, .int x3)]) hx hb dX11_takesOut_65 hl (k := 0) rfl (by decide) (by decide) rfl (fun ls hl => ?_)
          refine lv_goto (tgt := 37) hx hb dX11_takesOut_68 (by decide) ?_
          refine lv_iload hx hb dX11_takesOut_37 (lv_at hl 0 rfl) ?_
          refine lv_iconst (v := 4) hx hb dX11_takesOut_39 (by decide) ?_
          refine lv_icmp_ge (tgt := 71) hx hb dX11_takesOut_40 (by decide) (fun cc => absurd cc (by decide +kernel)) (fun _ => ?_)
          refine lv_aload_n hx hb dX11_takesOut_43 rfl (lv_at hl 2 rfl) ?_
          refine tz_get (ci := 8) (v := .ref h4) (C := RX11) (F := TX11) (N := 36) hx hb hU iX11 hown hK hT 0 rfl rfl 11 (by decide) w796 (fun _ h9 => h9) rfl dX11_takesOut_44 ?_
          refine lv_iload hx hb dX11_takesOut_47 (lv_at hl 0 rfl) ?_
          refine lv_aload_n hx hb dX11_takesOut_49 rfl (lv_at hl 2 rfl) ?_
          refine tz_get (ci := 8) (v := .ref h7) (C := RX11) (F := TX11) (N := 36) hx hb hU iX11 hown hK hT 0 rfl rfl 14 (by decide) w799 (fun _ h9 => h9) rfl dX11_takesOut_50 ?_
          refine lv_iload hx hb dX11_takesOut_53 (lv_at hl 0 rfl) ?_
          refine tz_lald hx hb hK hT 3 rfl (by have := li_1; omega) dX11_takesOut_55 (fun v148 e_v148 => ?_)
          clear e_v148
          refine tz_lastP hx hb hK hT hS 1 (zJ []) rfl (by have := li_1; omega) (z_putx (z := 1) li_1 (by decide)) dX11_takesOut_56 (fun H locs hT hS => ?_)
          have hT : TP D A [(h0, ob 8 [.int h0f0, .int h0f1, .int h0f2, .int h0f3, .int h0f4, .int h0f5, .ref h1, .ref h2, .int h0f8, .int h0f9, .ref h3, .ref h4, .ref h5, .ref h6, .ref h7, .ref h8, .ref h9, .int h0f17, .int h0f18, .int h0f19, .ref h10, .ref h11, .ref h12, .ref h13, .int h0f24, .int h0f25, .ref h14, .ref h15, .ref h16, .ref h17, .int h0f30, .int h0f31, .ref h18, .ref h19, .ref h20, .ref h21]), (h4, aJ (k 1) 9 (zJ [])), (h5, aJ (k 1) 9 (zJ [0])), (h7, aJ (k 1) 4 anJ)] H := hT
          refine lv_aload_n hx hb dX11_takesOut_57 rfl (lv_at hl 2 rfl) ?_
          refine tz_get (ci := 8) (v := .ref h5) (C := RX11) (F := TX11) (N := 36) hx hb hU iX11 hown hK hT 0 rfl rfl 12 (by decide) w797 (fun _ h9 => h9) rfl dX11_takesOut_58 ?_
          refine lv_iload hx hb dX11_takesOut_61 (lv_at hl 0 rfl) ?_
          refine lv_lconst (v := 0) hx hb dX11_takesOut_63 (by decide) ?_
          refine tz_lastP hx hb hK hT hS 2 (zJ [0, 1]) rfl (by have := li_1; omega) (z_put0 (z := 1) li_1 (by decide)) dX11_takesOut_64 (fun H locs hT hS => ?_)
          have hT : TP D A [(h0, ob 8 [.int h0f0, .int h0f1, .int h0f2, .int h0f3, .int h0f4, .int h0f5, .ref h1, .ref h2, .int h0f8, .int h0f9, .ref h3, .ref h4, .ref h5, .ref h6, .ref h7, .ref h8, .ref h9, .int h0f17, .int h0f18, .int h0f19, .ref h10, .ref h11, .ref h12, .ref h13, .int h0f24, .int h0f25, .ref h14, .ref h15, .ref h16, .ref h17, .int h0f30, .int h0f31, .ref h18, .ref h19, .ref h20, .ref h21]), (h4, aJ (k 1) 9 (zJ [])), (h5, aJ (k 1) 9 (zJ [0, 1])), (h7, aJ (k 1) 4 anJ)] H := hT
          refine lv_iinc (v := 2) (lv' := [(5, .int 2), (4, .int 2), (0, .ref h0), (1, .int x1), (2, .int x2), (3, .int x3)]) hx hb dX11_takesOut_65 hl (k := 0) rfl (by decide) (by decide) rfl (fun ls hl => ?_)
          refine lv_goto (tgt := 37) hx hb dX11_takesOut_68 (by decide) ?_
          refine lv_iload hx hb dX11_takesOut_37 (lv_at hl 0 rfl) ?_
          refine lv_iconst (v := 4) hx hb dX11_takesOut_39 (by decide) ?_
          refine lv_icmp_ge (tgt := 71) hx hb dX11_takesOut_40 (by decide) (fun cc => absurd cc (by decide +kernel)) (fun _ => ?_)
          refine lv_aload_n hx hb dX11_takesOut_43 rfl (lv_at hl 2 rfl) ?_
          refine tz_get (ci := 8) (v := .ref h4) (C := RX11) (F := TX11) (N := 36) hx hb hU iX11 hown hK hT 0 rfl rfl 11 (by decide) w796 (fun _ h9 => h9) rfl dX11_takesOut_44 ?_
          refine lv_iload hx hb dX11_takesOut_47 (lv_at hl 0 rfl) ?_
          refine lv_aload_n hx hb dX11_takesOut_49 rfl (lv_at hl 2 rfl) ?_
          refine tz_get (ci := 8) (v := .ref h7) (C := RX11) (F := TX11) (N := 36) hx hb hU iX11 hown hK hT 0 rfl rfl 14 (by decide) w799 (fun _ h9 => h9) rfl dX11_takesOut_50 ?_
          refine lv_iload hx hb dX11_takesOut_53 (lv_at hl 0 rfl) ?_
          refine tz_lald hx hb hK hT 3 rfl (by have := li_2; omega) dX11_takesOut_55 (fun v149 e_v149 => ?_)
          clear e_v149
          refine tz_lastP hx hb hK hT hS 1 (zJ []) rfl (by have := li_2; omega) (z_putx (z := 2) li_2 (by decide)) dX11_takesOut_56 (fun H locs hT hS => ?_)
          have hT : TP D A [(h0, ob 8 [.int h0f0, .int h0f1, .int h0f2, .int h0f3, .int h0f4, .int h0f5, .ref h1, .ref h2, .int h0f8, .int h0f9, .ref h3, .ref h4, .ref h5, .ref h6, .ref h7, .ref h8, .ref h9, .int h0f17, .int h0f18, .int h0f19, .ref h10, .ref h11, .ref h12, .ref h13, .int h0f24, .int h0f25, .ref h14, .ref h15, .ref h16, .ref h17, .int h0f30, .int h0f31, .ref h18, .ref h19, .ref h20, .ref h21]), (h4, aJ (k 1) 9 (zJ [])), (h5, aJ (k 1) 9 (zJ [0, 1])), (h7, aJ (k 1) 4 anJ)] H := hT
          refine lv_aload_n hx hb dX11_takesOut_57 rfl (lv_at hl 2 rfl) ?_
          refine tz_get (ci := 8) (v := .ref h5) (C := RX11) (F := TX11) (N := 36) hx hb hU iX11 hown hK hT 0 rfl rfl 12 (by decide) w797 (fun _ h9 => h9) rfl dX11_takesOut_58 ?_
          refine lv_iload hx hb dX11_takesOut_61 (lv_at hl 0 rfl) ?_
          refine lv_lconst (v := 0) hx hb dX11_takesOut_63 (by decide) ?_
          refine tz_lastP hx hb hK hT hS 2 (zJ [0, 1, 2]) rfl (by have := li_2; omega) (z_put0 (z := 2) li_2 (by decide)) dX11_takesOut_64 (fun H locs hT hS => ?_)
          have hT : TP D A [(h0, ob 8 [.int h0f0, .int h0f1, .int h0f2, .int h0f3, .int h0f4, .int h0f5, .ref h1, .ref h2, .int h0f8, .int h0f9, .ref h3, .ref h4, .ref h5, .ref h6, .ref h7, .ref h8, .ref h9, .int h0f17, .int h0f18, .int h0f19, .ref h10, .ref h11, .ref h12, .ref h13, .int h0f24, .int h0f25, .ref h14, .ref h15, .ref h16, .ref h17, .int h0f30, .int h0f31, .ref h18, .ref h19, .ref h20, .ref h21]), (h4, aJ (k 1) 9 (zJ [])), (h5, aJ (k 1) 9 (zJ [0, 1, 2])), (h7, aJ (k 1) 4 anJ)] H := hT
          refine lv_iinc (v := 3) (lv' := [(5, .int 3), (4, .int 2), (0, .ref h0), (1, .int x1), (2, .int x2), (3, .int x3)]) hx hb dX11_takesOut_65 hl (k := 0) rfl (by decide) (by decide) rfl (fun ls hl => ?_)
          refine lv_goto (tgt := 37) hx hb dX11_takesOut_68 (by decide) ?_
          refine lv_iload hx hb dX11_takesOut_37 (lv_at hl 0 rfl) ?_
          refine lv_iconst (v := 4) hx hb dX11_takesOut_39 (by decide) ?_
          refine lv_icmp_ge (tgt := 71) hx hb dX11_takesOut_40 (by decide) (fun cc => absurd cc (by decide +kernel)) (fun _ => ?_)
          refine lv_aload_n hx hb dX11_takesOut_43 rfl (lv_at hl 2 rfl) ?_
          refine tz_get (ci := 8) (v := .ref h4) (C := RX11) (F := TX11) (N := 36) hx hb hU iX11 hown hK hT 0 rfl rfl 11 (by decide) w796 (fun _ h9 => h9) rfl dX11_takesOut_44 ?_
          refine lv_iload hx hb dX11_takesOut_47 (lv_at hl 0 rfl) ?_
          refine lv_aload_n hx hb dX11_takesOut_49 rfl (lv_at hl 2 rfl) ?_
          refine tz_get (ci := 8) (v := .ref h7) (C := RX11) (F := TX11) (N := 36) hx hb hU iX11 hown hK hT 0 rfl rfl 14 (by decide) w799 (fun _ h9 => h9) rfl dX11_takesOut_50 ?_
          refine lv_iload hx hb dX11_takesOut_53 (lv_at hl 0 rfl) ?_
          refine tz_lald hx hb hK hT 3 rfl (by have := li_3; omega) dX11_takesOut_55 (fun v150 e_v150 => ?_)
          clear e_v150
          refine tz_lastP hx hb hK hT hS 1 (zJ []) rfl (by have := li_3; omega) (z_putx (z := 3) li_3 (by decide)) dX11_takesOut_56 (fun H locs hT hS => ?_)
          have hT : TP D A [(h0, ob 8 [.int h0f0, .int h0f1, .int h0f2, .int h0f3, .int h0f4, .int h0f5, .ref h1, .ref h2, .int h0f8, .int h0f9, .ref h3, .ref h4, .ref h5, .ref h6, .ref h7, .ref h8, .ref h9, .int h0f17, .int h0f18, .int h0f19, .ref h10, .ref h11, .ref h12, .ref h13, .int h0f24, .int h0f25, .ref h14, .ref h15, .ref h16, .ref h17, .int h0f30, .int h0f31, .ref h18, .ref h19, .ref h20, .ref h21]), (h4, aJ (k 1) 9 (zJ [])), (h5, aJ (k 1) 9 (zJ [0, 1, 2])), (h7, aJ (k 1) 4 anJ)] H := hT
          refine lv_aload_n hx hb dX11_takesOut_57 rfl (lv_at hl 2 rfl) ?_
          refine tz_get (ci := 8) (v := .ref h5) (C := RX11) (F := TX11) (N := 36) hx hb hU iX11 hown hK hT 0 rfl rfl 12 (by decide) w797 (fun _ h9 => h9) rfl dX11_takesOut_58 ?_
          refine lv_iload hx hb dX11_takesOut_61 (lv_at hl 0 rfl) ?_
          refine lv_lconst (v := 0) hx hb dX11_takesOut_63 (by decide) ?_
          refine tz_lastP hx hb hK hT hS 2 (zJ [0, 1, 2, 3]) rfl (by have := li_3; omega) (z_put0 (z := 3) li_3 (by decide)) dX11_takesOut_64 (fun H locs hT hS => ?_)
          have hT : TP D A [(h0, ob 8 [.int h0f0, .int h0f1, .int h0f2, .int h0f3, .int h0f4, .int h0f5, .ref h1, .ref h2, .int h0f8, .int h0f9, .ref h3, .ref h4, .ref h5, .ref h6, .ref h7, .ref h8, .ref h9, .int h0f17, .int h0f18, .int h0f19, .ref h10, .ref h11, .ref h12, .ref h13, .int h0f24, .int h0f25, .ref h14, .ref h15, .ref h16, .ref h17, .int h0f30, .int h0f31, .ref h18, .ref h19, .ref h20, .ref h21]), (h4, aJ (k 1) 9 (zJ [])), (h5, aJ (k 1) 9 (zJ [0, 1, 2, 3])), (h7, aJ (k 1) 4 anJ)] H := hT
          refine lv_iinc (v := 4) (lv' := [(5, .int 4), (4, .int 2), (0, .ref h0), (1, .int x1), (2, .int x2), (3, .int x3)]) hx hb dX11_takesOut_65 hl (k := 0) rfl (by decide) (by decide) rfl (fun ls hl => ?_)
          refine lv_goto (tgt := 37) hx hb dX11_takesOut_68 (by decide) ?_
          refine lv_iload hx hb dX11_takesOut_37 (lv_at hl 0 rfl) ?_
          refine lv_iconst (v := 4) hx hb dX11_takesOut_39 (by decide) ?_
          refine lv_icmp_ge (tgt := 71) hx hb dX11_takesOut_40 (by decide) (fun _ => ?_) (fun cc => absurd (by decide +kernel) cc)
          refine lv_iload hx hb dX11_takesOut_71 (lv_at hl 1 rfl) ?_
          refine lv_istore (lv' := [(5, .int 2), (4, .int 2), (0, .ref h0), (1, .int x1), (2, .int x2), (3, .int x3)]) hx hb dX11_takesOut_73 hl (by decide) rfl (fun ls hl => ?_)
          refine lv_iload hx hb dX11_takesOut_75 (lv_at hl 0 rfl) ?_
          refine lv_iload_n hx hb dX11_takesOut_77 rfl (lv_at hl 3 rfl) ?_
          refine lv_icmp_lt (tgt := 154) hx hb dX11_takesOut_78 (by decide) (fun c_151 => ?_) (fun c_151 => ?_)
          · skip
            have c_151 := ni_lt c_151 li_2 hq1
            exfalso; omega
          · skip
            have c_151 := ni_nlt c_151 li_2 hq1
            refine lv_aload_n hx hb dX11_takesOut_81 rfl (lv_at hl 2 rfl) ?_
            refine tz_get (ci := 8) (v := .ref h4) (C := RX11) (F := TX11) (N := 36) hx hb hU iX11 hown hK hT 0 rfl rfl 11 (by decide) w796 (fun _ h9 => h9) rfl dX11_takesOut_82 ?_
            refine lv_iload hx hb dX11_takesOut_85 (lv_at hl 0 rfl) ?_
            refine tz_lald hx hb hK hT 1 rfl (by have := li_2; omega) dX11_takesOut_87 (fun v152 e_v152 => ?_)
            clear e_v152
            refine lv_lstore (lv' := [(6, .long v152), (5, .int 2), (4, .int 2), (0, .ref h0), (1, .int x1), (2, .int x2), (3, .int x3)]) hx hb dX11_takesOut_88 hl (by decide) rfl (fun ls hl => ?_)
            refine lv_aload_n hx hb dX11_takesOut_90 rfl (lv_at hl 3 rfl) ?_
            refine tz_get (ci := 8) (v := .ref h5) (C := RX11) (F := TX11) (N := 36) hx hb hU iX11 hown hK hT 0 rfl rfl 12 (by decide) w797 (fun _ h9 => h9) rfl dX11_takesOut_91 ?_
            refine lv_iload hx hb dX11_takesOut_94 (lv_at hl 1 rfl) ?_
            refine lv_iload_n hx hb dX11_takesOut_96 rfl (lv_at hl 4 rfl) ?_
            refine lv_isub hx hb dX11_takesOut_97 (lv_topi (fun v153 e_v153 => ?_))
            have e_v153 := ai_sub e_v153 li_2 hq1 (by omega)
            refine lv_lload hx hb dX11_takesOut_98 (lv_at hl 0 rfl) ?_
            refine tz_lastP hx hb hK hT hS 2 (zJ [1, 2, 3]) rfl (by omega) (z_putx (z := 0) (show v153.toInt = 0 by omega) (by decide)) dX11_takesOut_100 (fun H locs hT hS => ?_)
            have hT : TP D A [(h0, ob 8 [.int h0f0, .int h0f1, .int h0f2, .int h0f3, .int h0f4, .int h0f5, .ref h1, .ref h2, .int h0f8, .int h0f9, .ref h3, .ref h4, .ref h5, .ref h6, .ref h7, .ref h8, .ref h9, .int h0f17, .int h0f18, .int h0f19, .ref h10, .ref h11, .ref h12, .ref h13, .int h0f24, .int h0f25, .ref h14, .ref h15, .ref h16, .ref h17, .int h0f30, .int h0f31, .ref h18, .ref h19, .ref h20, .ref h21]), (h4, aJ (k 1) 9 (zJ [])), (h5, aJ (k 1) 9 (zJ [1, 2, 3])), (h7, aJ (k 1) 4 anJ)] H := hT
            refine lv_aload_n hx hb dX11_takesOut_101 rfl (lv_at hl 3 rfl) ?_
            refine tz_get (ci := 8) (v := .ref h4) (C := RX11) (F := TX11) (N := 36) hx hb hU iX11 hown hK hT 0 rfl rfl 11 (by decide) w796 (fun _ h9 => h9) rfl dX11_takesOut_102 ?_
            refine lv_iload hx hb dX11_takesOut_105 (lv_at hl 1 rfl) ?_
            refine lv_iload_n hx hb dX11_takesOut_107 rfl (lv_at hl 4 rfl) ?_
            refine lv_isub hx hb dX11_takesOut_108 (lv_topi (fun v154 e_v154 => ?_))
            have e_v154 := ai_sub e_v154 li_2 hq1 (by omega)
            refine lv_dup2_11 hx hb dX11_takesOut_109 rfl rfl ?_
            refine tz_lald hx hb hK hT 1 rfl (by omega) dX11_takesOut_110 (fun v155 e_v155 => ?_)
            clear e_v155
            refine lv_lload hx hb dX11_takesOut_111 (lv_at hl 0 rfl) ?_
            refine lv_iload_n hx hb dX11_takesOut_113 rfl (lv_at hl 5 rfl) ?_
            obtain ⟨v156, e_v156⟩ : ∃ x : Int64, x2.toInt64 = x := ⟨_, rfl⟩
            refine lv_i2l (v := v156) hx hb dX11_takesOut_114 e_v156 ?_
            have e_v156 := ai_i2l e_v156 rfl
            refine lv_lmul hx hb dX11_takesOut_115 (lv_topl (fun v157 e_v157 => ?_))
            refine lv_lsub hx hb dX11_takesOut_116 (lv_topl (fun v158 e_v158 => ?_))
            refine tz_lastP hx hb hK hT hS 1 (zJ []) rfl (by omega) (z_putx (z := 0) (show v154.toInt = 0 by omega) (by decide)) dX11_takesOut_117 (fun H locs hT hS => ?_)
            have hT : TP D A [(h0, ob 8 [.int h0f0, .int h0f1, .int h0f2, .int h0f3, .int h0f4, .int h0f5, .ref h1, .ref h2, .int h0f8, .int h0f9, .ref h3, .ref h4, .ref h5, .ref h6, .ref h7, .ref h8, .ref h9, .int h0f17, .int h0f18, .int h0f19, .ref h10, .ref h11, .ref h12, .ref h13, .int h0f24, .int h0f25, .ref h14, .ref h15, .ref h16, .ref h17, .int h0f30, .int h0f31, .ref h18, .ref h19, .ref h20, .ref h21]), (h4, aJ (k 1) 9 (zJ [])), (h5, aJ (k 1) 9 (zJ [1, 2, 3])), (h7, aJ (k 1) 4 anJ)] H := hT
            refine lv_iload_n hx hb dX11_takesOut_118 rfl (lv_at hl 4 rfl) ?_
            refine lv_iconst (v := 2) hx hb dX11_takesOut_119 (by decide) ?_
            refine lv_icmp_ne (tgt := 140) hx hb dX11_takesOut_120 (by decide) (fun c_159 => ?_) (fun c_159 => ?_)
            · skip
              have c_159 := ni_ne c_159 hq1 li_2
              exfalso; omega
            · skip
              have c_159 := ni_eq c_159 hq1 li_2
              refine lv_aload_n hx hb dX11_takesOut_123 rfl (lv_at hl 3 rfl) ?_
              refine tz_get (ci := 8) (v := .ref h4) (C := RX11) (F := TX11) (N := 36) hx hb hU iX11 hown hK hT 0 rfl rfl 11 (by decide) w796 (fun _ h9 => h9) rfl dX11_takesOut_124 ?_
              refine lv_iload hx hb dX11_takesOut_127 (lv_at hl 1 rfl) ?_
              refine lv_iconst (v := 1) hx hb dX11_takesOut_129 (by decide) ?_
              refine lv_isub hx hb dX11_takesOut_130 (sv_i (v := 1) (by decide +kernel) ?_)
              refine lv_dup2_11 hx hb dX11_takesOut_131 rfl rfl ?_
              refine tz_lald hx hb hK hT 1 rfl (by have := li_1; omega) dX11_takesOut_132 (fun v160 e_v160 => ?_)
              clear e_v160
              refine lv_lload hx hb dX11_takesOut_133 (lv_at hl 0 rfl) ?_
              refine lv_iload_n hx hb dX11_takesOut_135 rfl (lv_at hl 6 rfl) ?_
              obtain ⟨v161, e_v161⟩ : ∃ x : Int64, x3.toInt64 = x := ⟨_, rfl⟩
              refine lv_i2l (v := v161) hx hb dX11_takesOut_136 e_v161 ?_
              have e_v161 := ai_i2l e_v161 rfl
              refine lv_lmul hx hb dX11_takesOut_137 (lv_topl (fun v162 e_v162 => ?_))
              refine lv_lsub hx hb dX11_takesOut_138 (lv_topl (fun v163 e_v163 => ?_))
              refine tz_lastP hx hb hK hT hS 1 (zJ []) rfl (by have := li_1; omega) (z_putx (z := 1) li_1 (by decide)) dX11_takesOut_139 (fun H locs hT hS => ?_)
              have hT : TP D A [(h0, ob 8 [.int h0f0, .int h0f1, .int h0f2, .int h0f3, .int h0f4, .int h0f5, .ref h1, .ref h2, .int h0f8, .int h0f9, .ref h3, .ref h4, .ref h5, .ref h6, .ref h7, .ref h8, .ref h9, .int h0f17, .int h0f18, .int h0f19, .ref h10, .ref h11, .ref h12, .ref h13, .int h0f24, .int h0f25, .ref h14, .ref h15, .ref h16, .ref h17, .int h0f30, .int h0f31, .ref h18, .ref h19, .ref h20, .ref h21]), (h4, aJ (k 1) 9 (zJ [])), (h5, aJ (k 1) 9 (zJ [1, 2, 3])), (h7, aJ (k 1) 4 anJ)] H := hT
              refine lv_aload_n hx hb dX11_takesOut_140 rfl (lv_at hl 3 rfl) ?_
              refine tz_get (ci := 8) (v := .ref h4) (C := RX11) (F := TX11) (N := 36) hx hb hU iX11 hown hK hT 0 rfl rfl 11 (by decide) w796 (fun _ h9 => h9) rfl dX11_takesOut_141 ?_
              refine lv_iload hx hb dX11_takesOut_144 (lv_at hl 1 rfl) ?_
              refine lv_lconst (v := 0) hx hb dX11_takesOut_146 (by decide) ?_
              refine tz_lastP hx hb hK hT hS 1 (zJ [2]) rfl (by have := li_2; omega) (z_put0 (z := 2) li_2 (by decide)) dX11_takesOut_147 (fun H locs hT hS => ?_)
              have hT : TP D A [(h0, ob 8 [.int h0f0, .int h0f1, .int h0f2, .int h0f3, .int h0f4, .int h0f5, .ref h1, .ref h2, .int h0f8, .int h0f9, .ref h3, .ref h4, .ref h5, .ref h6, .ref h7, .ref h8, .ref h9, .int h0f17, .int h0f18, .int h0f19, .ref h10, .ref h11, .ref h12, .ref h13, .int h0f24, .int h0f25, .ref h14, .ref h15, .ref h16, .ref h17, .int h0f30, .int h0f31, .ref h18, .ref h19, .ref h20, .ref h21]), (h4, aJ (k 1) 9 (zJ [2])), (h5, aJ (k 1) 9 (zJ [1, 2, 3])), (h7, aJ (k 1) 4 anJ)] H := hT
              refine lv_iinc (v := 1) (lv' := [(5, .int 1), (6, .long v152), (4, .int 2), (0, .ref h0), (1, .int x1), (2, .int x2), (3, .int x3)]) hx hb dX11_takesOut_148 hl (k := 1) rfl (by decide) (by decide) rfl (fun ls hl => ?_)
              refine lv_goto (tgt := 75) hx hb dX11_takesOut_151 (by decide) ?_
              refine lv_iload hx hb dX11_takesOut_75 (lv_at hl 0 rfl) ?_
              refine lv_iload_n hx hb dX11_takesOut_77 rfl (lv_at hl 4 rfl) ?_
              refine lv_icmp_lt (tgt := 154) hx hb dX11_takesOut_78 (by decide) (fun c_164 => ?_) (fun c_164 => ?_)
              · skip
                have c_164 := ni_lt c_164 li_1 hq1
                refine lv_aload_n hx hb dX11_takesOut_154 rfl (lv_at hl 3 rfl) ?_
                refine tz_get (ci := 8) (v := .ref h4) (C := RX11) (F := TX11) (N := 36) hx hb hU iX11 hown hK hT 0 rfl rfl 11 (by decide) w796 (fun _ h9 => h9) rfl dX11_takesOut_155 ?_
                refine lv_iconst (v := 0) hx hb dX11_takesOut_158 (by decide) ?_
                refine tz_lald hx hb hK hT 1 rfl (by have := li_0; omega) dX11_takesOut_159 (fun v165 e_v165 => ?_)
                clear e_v165
                refine lv_lconst (v := 0) hx hb dX11_takesOut_160 (by decide) ?_
                refine W.lcmp hx hb dX11_takesOut_161 ?_
                refine lv_if_ne (tgt := 176) hx hb dX11_takesOut_162 (by decide) (fun c_166 => ?_) (fun c_166 => ?_)
                · skip
                  have c_166 := nl_ne c_166 rfl ll_0
                  refine lv_iconst (v := 0) hx hb dX11_takesOut_176 (by decide) ?_
                  have hT := hT.wk (q := 1) rfl (an_J (c := k 1) (n := 9))
                  have hT : TP D A [(h0, ob 8 [.int h0f0, .int h0f1, .int h0f2, .int h0f3, .int h0f4, .int h0f5, .ref h1, .ref h2, .int h0f8, .int h0f9, .ref h3, .ref h4, .ref h5, .ref h6, .ref h7, .ref h8, .ref h9, .int h0f17, .int h0f18, .int h0f19, .ref h10, .ref h11, .ref h12, .ref h13, .int h0f24, .int h0f25, .ref h14, .ref h15, .ref h16, .ref h17, .int h0f30, .int h0f31, .ref h18, .ref h19, .ref h20, .ref h21]), (h4, aJ (k 1) 9 anJ), (h5, aJ (k 1) 9 (zJ [1, 2, 3])), (h7, aJ (k 1) 4 anJ)] H := hT
                  have hT := hT.wk (q := 2) rfl (an_J (c := k 1) (n := 9))
                  have hT : TP D A [(h0, ob 8 [.int h0f0, .int h0f1, .int h0f2, .int h0f3, .int h0f4, .int h0f5, .ref h1, .ref h2, .int h0f8, .int h0f9, .ref h3, .ref h4, .ref h5, .ref h6, .ref h7, .ref h8, .ref h9, .int h0f17, .int h0f18, .int h0f19, .ref h10, .ref h11, .ref h12, .ref h13, .int h0f24, .int h0f25, .ref h14, .ref h15, .ref h16, .ref h17, .int h0f30, .int h0f31, .ref h18, .ref h19, .ref h20, .ref h21]), (h4, aJ (k 1) 9 anJ), (h5, aJ (k 1) 9 anJ), (h7, aJ (k 1) 4 anJ)] H := hT
                  exact tz_retZ (B := B_cX11_takesOut_ae7df D k h0 h4 h5 h7 h1 h2 h3 h6 h8 h9 h10 h11 h12 h13 h14 h15 h16 h17 h18 h19 h20 h21 x1 x2 x3 h0f0 h0f1 h0f2 h0f3 h0f4 h0f5 h0f8 h0f9 h0f17 h0f18 h0f19 h0f24 h0f25 h0f30 h0f31) (v := 0) hQ hx hb hr hlocks hS (Nat.le_of_ble_eq_true rfl) (Nat.le_of_ble_eq_true rfl) dX11_takesOut_177 (by have := li_0; omega) (Or.inl ⟨rfl, hT⟩)
                · skip
                  have c_166 := nl_eq c_166 rfl ll_0
                  refine lv_aload_n hx hb dX11_takesOut_165 rfl (lv_at hl 3 rfl) ?_
                  refine tz_get (ci := 8) (v := .ref h4) (C := RX11) (F := TX11) (N := 36) hx hb hU iX11 hown hK hT 0 rfl rfl 11 (by decide) w796 (fun _ h9 => h9) rfl dX11_takesOut_166 ?_
                  refine lv_iconst (v := 1) hx hb dX11_takesOut_169 (by decide) ?_
                  refine tz_lald hx hb hK hT 1 rfl (by have := li_1; omega) dX11_takesOut_170 (fun v167 e_v167 => ?_)
                  clear e_v167
                  refine lv_lconst (v := 0) hx hb dX11_takesOut_171 (by decide) ?_
                  refine W.lcmp hx hb dX11_takesOut_172 ?_
                  refine lv_if_eq (tgt := 178) hx hb dX11_takesOut_173 (by decide) (fun c_168 => ?_) (fun c_168 => ?_)
                  · skip
                    have c_168 := nl_eq c_168 rfl ll_0
                    refine lv_iconst (v := 0) hx hb dX11_takesOut_178 (by decide) ?_
                    refine lv_istore (lv' := [(5, .int 0), (6, .long v152), (4, .int 2), (0, .ref h0), (1, .int x1), (2, .int x2), (3, .int x3)]) hx hb dX11_takesOut_179 hl (by decide) rfl (fun ls hl => ?_)
                    refine lv_iload hx hb dX11_takesOut_181 (lv_at hl 0 rfl) ?_
                    refine lv_iconst (v := 4) hx hb dX11_takesOut_183 (by decide) ?_
                    refine lv_icmp_ge (tgt := 207) hx hb dX11_takesOut_184 (by decide) (fun cc => absurd cc (by decide +kernel)) (fun _ => ?_)
                    refine lv_aload_n hx hb dX11_takesOut_187 rfl (lv_at hl 3 rfl) ?_
                    refine tz_get (ci := 8) (v := .ref h7) (C := RX11) (F := TX11) (N := 36) hx hb hU iX11 hown hK hT 0 rfl rfl 14 (by decide) w799 (fun _ h9 => h9) rfl dX11_takesOut_188 ?_
                    refine lv_iload hx hb dX11_takesOut_191 (lv_at hl 0 rfl) ?_
                    refine lv_aload_n hx hb dX11_takesOut_193 rfl (lv_at hl 3 rfl) ?_
                    refine tz_get (ci := 8) (v := .ref h5) (C := RX11) (F := TX11) (N := 36) hx hb hU iX11 hown hK hT 0 rfl rfl 12 (by decide) w797 (fun _ h9 => h9) rfl dX11_takesOut_194 ?_
                    refine lv_iload hx hb dX11_takesOut_197 (lv_at hl 0 rfl) ?_
                    refine tz_lald hx hb hK hT 2 rfl (by have := li_0; omega) dX11_takesOut_199 (fun v169 e_v169 => ?_)
                    clear e_v169
                    have hT := hT.wk (q := 3) rfl (z_of (c := k 1) (n := 4))
                    have hT : TP D A [(h0, ob 8 [.int h0f0, .int h0f1, .int h0f2, .int h0f3, .int h0f4, .int h0f5, .ref h1, .ref h2, .int h0f8, .int h0f9, .ref h3, .ref h4, .ref h5, .ref h6, .ref h7, .ref h8, .ref h9, .int h0f17, .int h0f18, .int h0f19, .ref h10, .ref h11, .ref h12, .ref h13, .int h0f24, .int h0f25, .ref h14, .ref h15, .ref h16, .ref h17, .int h0f30, .int h0f31, .ref h18, .ref h19, .ref h20, .ref h21]), (h4, aJ (k 1) 9 (zJ [2])), (h5, aJ (k 1) 9 (zJ [1, 2, 3])), (h7, aJ (k 1) 4 (zJ []))] H := hT
                    refine tz_lastP hx hb hK hT hS 3 (zJ []) rfl (by have := li_0; omega) (z_putx (z := 0) li_0 (by decide)) dX11_takesOut_200 (fun H locs hT hS => ?_)
                    have hT : TP D A [(h0, ob 8 [.int h0f0, .int h0f1, .int h0f2, .int h0f3, .int h0f4, .int h0f5, .ref h1, .ref h2, .int h0f8, .int h0f9, .ref h3, .ref h4, .ref h5, .ref h6, .ref h7, .ref h8, .ref h9, .int h0f17, .int h0f18, .int h0f19, .ref h10, .ref h11, .ref h12, .ref h13, .int h0f24, .int h0f25, .ref h14, .ref h15, .ref h16, .ref h17, .int h0f30, .int h0f31, .ref h18, .ref h19, .ref h20, .ref h21]), (h4, aJ (k 1) 9 (zJ [2])), (h5, aJ (k 1) 9 (zJ [1, 2, 3])), (h7, aJ (k 1) 4 (zJ []))] H := hT
                    refine lv_iinc (v := 1) (lv' := [(5, .int 1), (6, .long v152), (4, .int 2), (0, .ref h0), (1, .int x1), (2, .int x2), (3, .int x3)]) hx hb dX11_takesOut_201 hl (k := 0) rfl (by decide) (by decide) rfl (fun ls hl => ?_)
                    refine lv_goto (tgt := 181) hx hb dX11_takesOut_204 (by decide) ?_
                    refine lv_iload hx hb dX11_takesOut_181 (lv_at hl 0 rfl) ?_
                    refine lv_iconst (v := 4) hx hb dX11_takesOut_183 (by decide) ?_
                    refine lv_icmp_ge (tgt := 207) hx hb dX11_takesOut_184 (by decide) (fun cc => absurd cc (by decide +kernel)) (fun _ => ?_)
                    refine lv_aload_n hx hb dX11_takesOut_187 rfl (lv_at hl 3 rfl) ?_
                    refine tz_get (ci := 8) (v := .ref h7) (C := RX11) (F := TX11) (N := 36) hx hb hU iX11 hown hK hT 0 rfl rfl 14 (by decide) w799 (fun _ h9 => h9) rfl dX11_takesOut_188 ?_
                    refine lv_iload hx hb dX11_takesOut_191 (lv_at hl 0 rfl) ?_
                    refine lv_aload_n hx hb dX11_takesOut_193 rfl (lv_at hl 3 rfl) ?_
                    refine tz_get (ci := 8) (v := .ref h5) (C := RX11) (F := TX11) (N := 36) hx hb hU iX11 hown hK hT 0 rfl rfl 12 (by decide) w797 (fun _ h9 => h9) rfl dX11_takesOut_194 ?_
                    refine lv_iload hx hb dX11_takesOut_197 (lv_at hl 0 rfl) ?_
                    refine tz_lald hx hb hK hT 2 rfl (by have := li_1; omega) dX11_takesOut_199 (fun v170 e_v170 => ?_)
                    have e_v170 := z_get (z := 1) e_v170 li_1 (by decide)
                    subst e_v170
                    refine tz_lastP hx hb hK hT hS 3 (zJ [1]) rfl (by have := li_1; omega) (z_put0 (z := 1) li_1 (by decide)) dX11_takesOut_200 (fun H locs hT hS => ?_)
                    have hT : TP D A [(h0, ob 8 [.int h0f0, .int h0f1, .int h0f2, .int h0f3, .int h0f4, .int h0f5, .ref h1, .ref h2, .int h0f8, .int h0f9, .ref h3, .ref h4, .ref h5, .ref h6, .ref h7, .ref h8, .ref h9, .int h0f17, .int h0f18, .int h0f19, .ref h10, .ref h11, .ref h12, .ref h13, .int h0f24, .int h0f25, .ref h14, .ref h15, .ref h16, .ref h17, .int h0f30, .int h0f31, .ref h18, .ref h19, .ref h20, .ref h21]), (h4, aJ (k 1) 9 (zJ [2])), (h5, aJ (k 1) 9 (zJ [1, 2, 3])), (h7, aJ (k 1) 4 (zJ [1]))] H := hT
                    refine lv_iinc (v := 2) (lv' := [(5, .int 2), (6, .long v152), (4, .int 2), (0, .ref h0), (1, .int x1), (2, .int x2), (3, .int x3)]) hx hb dX11_takesOut_201 hl (k := 0) rfl (by decide) (by decide) rfl (fun ls hl => ?_)
                    refine lv_goto (tgt := 181) hx hb dX11_takesOut_204 (by decide) ?_
                    refine lv_iload hx hb dX11_takesOut_181 (lv_at hl 0 rfl) ?_
                    refine lv_iconst (v := 4) hx hb dX11_takesOut_183 (by decide) ?_
                    refine lv_icmp_ge (tgt := 207) hx hb dX11_takesOut_184 (by decide) (fun cc => absurd cc (by decide +kernel)) (fun _ => ?_)
                    refine lv_aload_n hx hb dX11_takesOut_187 rfl (lv_at hl 3 rfl) ?_
                    refine tz_get (ci := 8) (v := .ref h7) (C := RX11) (F := TX11) (N := 36) hx hb hU iX11 hown hK hT 0 rfl rfl 14 (by decide) w799 (fun _ h9 => h9) rfl dX11_takesOut_188 ?_
                    refine lv_iload hx hb dX11_takesOut_191 (lv_at hl 0 rfl) ?_
                    refine lv_aload_n hx hb dX11_takesOut_193 rfl (lv_at hl 3 rfl) ?_
                    refine tz_get (ci := 8) (v := .ref h5) (C := RX11) (F := TX11) (N := 36) hx hb hU iX11 hown hK hT 0 rfl rfl 12 (by decide) w797 (fun _ h9 => h9) rfl dX11_takesOut_194 ?_
                    refine lv_iload hx hb dX11_takesOut_197 (lv_at hl 0 rfl) ?_
                    refine tz_lald hx hb hK hT 2 rfl (by have := li_2; omega) dX11_takesOut_199 (fun v171 e_v171 => ?_)
                    have e_v171 := z_get (z := 2) e_v171 li_2 (by decide)
                    subst e_v171
                    refine tz_lastP hx hb hK hT hS 3 (zJ [1, 2]) rfl (by have := li_2; omega) (z_put0 (z := 2) li_2 (by decide)) dX11_takesOut_200 (fun H locs hT hS => ?_)
                    have hT : TP D A [(h0, ob 8 [.int h0f0, .int h0f1, .int h0f2, .int h0f3, .int h0f4, .int h0f5, .ref h1, .ref h2, .int h0f8, .int h0f9, .ref h3, .ref h4, .ref h5, .ref h6, .ref h7, .ref h8, .ref h9, .int h0f17, .int h0f18, .int h0f19, .ref h10, .ref h11, .ref h12, .ref h13, .int h0f24, .int h0f25, .ref h14, .ref h15, .ref h16, .ref h17, .int h0f30, .int h0f31, .ref h18, .ref h19, .ref h20, .ref h21]), (h4, aJ (k 1) 9 (zJ [2])), (h5, aJ (k 1) 9 (zJ [1, 2, 3])), (h7, aJ (k 1) 4 (zJ [1, 2]))] H := hT
                    refine lv_iinc (v := 3) (lv' := [(5, .int 3), (6, .long v152), (4, .int 2), (0, .ref h0), (1, .int x1), (2, .int x2), (3, .int x3)]) hx hb dX11_takesOut_201 hl (k := 0) rfl (by decide) (by decide) rfl (fun ls hl => ?_)
                    refine lv_goto (tgt := 181) hx hb dX11_takesOut_204 (by decide) ?_
                    refine lv_iload hx hb dX11_takesOut_181 (lv_at hl 0 rfl) ?_
                    refine lv_iconst (v := 4) hx hb dX11_takesOut_183 (by decide) ?_
                    refine lv_icmp_ge (tgt := 207) hx hb dX11_takesOut_184 (by decide) (fun cc => absurd cc (by decide +kernel)) (fun _ => ?_)
                    refine lv_aload_n hx hb dX11_takesOut_187 rfl (lv_at hl 3 rfl) ?_
                    refine tz_get (ci := 8) (v := .ref h7) (C := RX11) (F := TX11) (N := 36) hx hb hU iX11 hown hK hT 0 rfl rfl 14 (by decide) w799 (fun _ h9 => h9) rfl dX11_takesOut_188 ?_
                    refine lv_iload hx hb dX11_takesOut_191 (lv_at hl 0 rfl) ?_
                    refine lv_aload_n hx hb dX11_takesOut_193 rfl (lv_at hl 3 rfl) ?_
                    refine tz_get (ci := 8) (v := .ref h5) (C := RX11) (F := TX11) (N := 36) hx hb hU iX11 hown hK hT 0 rfl rfl 12 (by decide) w797 (fun _ h9 => h9) rfl dX11_takesOut_194 ?_
                    refine lv_iload hx hb dX11_takesOut_197 (lv_at hl 0 rfl) ?_
                    refine tz_lald hx hb hK hT 2 rfl (by have := li_3; omega) dX11_takesOut_199 (fun v172 e_v172 => ?_)
                    have e_v172 := z_get (z := 3) e_v172 li_3 (by decide)
                    subst e_v172
                    refine tz_lastP hx hb hK hT hS 3 (zJ [1, 2, 3]) rfl (by have := li_3; omega) (z_put0 (z := 3) li_3 (by decide)) dX11_takesOut_200 (fun H locs hT hS => ?_)
                    have hT : TP D A [(h0, ob 8 [.int h0f0, .int h0f1, .int h0f2, .int h0f3, .int h0f4, .int h0f5, .ref h1, .ref h2, .int h0f8, .int h0f9, .ref h3, .ref h4, .ref h5, .ref h6, .ref h7, .ref h8, .ref h9, .int h0f17, .int h0f18, .int h0f19, .ref h10, .ref h11, .ref h12, .ref h13, .int h0f24, .int h0f25, .ref h14, .ref h15, .ref h16, .ref h17, .int h0f30, .int h0f31, .ref h18, .ref h19, .ref h20, .ref h21]), (h4, aJ (k 1) 9 (zJ [2])), (h5, aJ (k 1) 9 (zJ [1, 2, 3])), (h7, aJ (k 1) 4 (zJ [1, 2, 3]))] H := hT
                    refine lv_iinc (v := 4) (lv' := [(5, .int 4), (6, .long v152), (4, .int 2), (0, .ref h0), (1, .int x1), (2, .int x2), (3, .int x3)]) hx hb dX11_takesOut_201 hl (k := 0) rfl (by decide) (by decide) rfl (fun ls hl => ?_)
                    refine lv_goto (tgt := 181) hx hb dX11_takesOut_204 (by decide) ?_
                    refine lv_iload hx hb dX11_takesOut_181 (lv_at hl 0 rfl) ?_
                    refine lv_iconst (v := 4) hx hb dX11_takesOut_183 (by decide) ?_
                    refine lv_icmp_ge (tgt := 207) hx hb dX11_takesOut_184 (by decide) (fun _ => ?_) (fun cc => absurd (by decide +kernel) cc)
                    refine lv_iconst (v := 1) hx hb dX11_takesOut_207 (by decide) ?_
                    have hT := hT.wk (q := 1) rfl (an_J (c := k 1) (n := 9))
                    have hT : TP D A [(h0, ob 8 [.int h0f0, .int h0f1, .int h0f2, .int h0f3, .int h0f4, .int h0f5, .ref h1, .ref h2, .int h0f8, .int h0f9, .ref h3, .ref h4, .ref h5, .ref h6, .ref h7, .ref h8, .ref h9, .int h0f17, .int h0f18, .int h0f19, .ref h10, .ref h11, .ref h12, .ref h13, .int h0f24, .int h0f25, .ref h14, .ref h15, .ref h16, .ref h17, .int h0f30, .int h0f31, .ref h18, .ref h19, .ref h20, .ref h21]), (h4, aJ (k 1) 9 anJ), (h5, aJ (k 1) 9 (zJ [1, 2, 3])), (h7, aJ (k 1) 4 (zJ [1, 2, 3]))] H := hT
                    have hT := hT.wk (q := 2) rfl (an_J (c := k 1) (n := 9))
                    have hT : TP D A [(h0, ob 8 [.int h0f0, .int h0f1, .int h0f2, .int h0f3, .int h0f4, .int h0f5, .ref h1, .ref h2, .int h0f8, .int h0f9, .ref h3, .ref h4, .ref h5, .ref h6, .ref h7, .ref h8, .ref h9, .int h0f17, .int h0f18, .int h0f19, .ref h10, .ref h11, .ref h12, .ref h13, .int h0f24, .int h0f25, .ref h14, .ref h15, .ref h16, .ref h17, .int h0f30, .int h0f31, .ref h18, .ref h19, .ref h20, .ref h21]), (h4, aJ (k 1) 9 anJ), (h5, aJ (k 1) 9 anJ), (h7, aJ (k 1) 4 (zJ [1, 2, 3]))] H := hT
                    have hT := hT.wk (q := 3) rfl (z_sub (c := k 1) (n := 4) (l := [1, 2, 3]) (m := [3]) (by decide))
                    have hT : TP D A [(h0, ob 8 [.int h0f0, .int h0f1, .int h0f2, .int h0f3, .int h0f4, .int h0f5, .ref h1, .ref h2, .int h0f8, .int h0f9, .ref h3, .ref h4, .ref h5, .ref h6, .ref h7, .ref h8, .ref h9, .int h0f17, .int h0f18, .int h0f19, .ref h10, .ref h11, .ref h12, .ref h13, .int h0f24, .int h0f25, .ref h14, .ref h15, .ref h16, .ref h17, .int h0f30, .int h0f31, .ref h18, .ref h19, .ref h20, .ref h21]), (h4, aJ (k 1) 9 anJ), (h5, aJ (k 1) 9 anJ), (h7, aJ (k 1) 4 (zJ [3]))] H := hT
                    exact tz_retZ (B := B_cX11_takesOut_ae7df D k h0 h4 h5 h7 h1 h2 h3 h6 h8 h9 h10 h11 h12 h13 h14 h15 h16 h17 h18 h19 h20 h21 x1 x2 x3 h0f0 h0f1 h0f2 h0f3 h0f4 h0f5 h0f8 h0f9 h0f17 h0f18 h0f19 h0f24 h0f25 h0f30 h0f31) (v := 1) hQ hx hb hr hlocks hS (Nat.le_of_ble_eq_true rfl) (Nat.le_of_ble_eq_true rfl) dX11_takesOut_208 (by have := li_1; omega) (Or.inr (Or.inr (Or.inr (Or.inr (Or.inr (⟨v102, v144, v165, v167, (by have := li_1; omega), (by have := li_1; omega), (by have := li_1; omega), (by have := li_1; omega), (by have := li_1; omega), (by have := li_1; omega), (by have := li_1; omega), (by have := li_1; omega), (by have := li_1; omega), (by have := li_1; omega), (by have := li_1; omega), (by have := li_1; omega), rfl, hT⟩))))))
                  · skip
                    have c_168 := nl_ne c_168 rfl ll_0
                    refine lv_iconst (v := 0) hx hb dX11_takesOut_176 (by decide) ?_
                    have hT := hT.wk (q := 1) rfl (an_J (c := k 1) (n := 9))
                    have hT : TP D A [(h0, ob 8 [.int h0f0, .int h0f1, .int h0f2, .int h0f3, .int h0f4, .int h0f5, .ref h1, .ref h2, .int h0f8, .int h0f9, .ref h3, .ref h4, .ref h5, .ref h6, .ref h7, .ref h8, .ref h9, .int h0f17, .int h0f18, .int h0f19, .ref h10, .ref h11, .ref h12, .ref h13, .int h0f24, .int h0f25, .ref h14, .ref h15, .ref h16, .ref h17, .int h0f30, .int h0f31, .ref h18, .ref h19, .ref h20, .ref h21]), (h4, aJ (k 1) 9 anJ), (h5, aJ (k 1) 9 (zJ [1, 2, 3])), (h7, aJ (k 1) 4 anJ)] H := hT
                    have hT := hT.wk (q := 2) rfl (an_J (c := k 1) (n := 9))
                    have hT : TP D A [(h0, ob 8 [.int h0f0, .int h0f1, .int h0f2, .int h0f3, .int h0f4, .int h0f5, .ref h1, .ref h2, .int h0f8, .int h0f9, .ref h3, .ref h4, .ref h5, .ref h6, .ref h7, .ref h8, .ref h9, .int h0f17, .int h0f18, .int h0f19, .ref h10, .ref h11, .ref h12, .ref h13, .int h0f24, .int h0f25, .ref h14, .ref h15, .ref h16, .ref h17, .int h0f30, .int h0f31, .ref h18, .ref h19, .ref h20, .ref h21]), (h4, aJ (k 1) 9 anJ), (h5, aJ (k 1) 9 anJ), (h7, aJ (k 1) 4 anJ)] H := hT
                    exact tz_retZ (B := B_cX11_takesOut_ae7df D k h0 h4 h5 h7 h1 h2 h3 h6 h8 h9 h10 h11 h12 h13 h14 h15 h16 h17 h18 h19 h20 h21 x1 x2 x3 h0f0 h0f1 h0f2 h0f3 h0f4 h0f5 h0f8 h0f9 h0f17 h0f18 h0f19 h0f24 h0f25 h0f30 h0f31) (v := 0) hQ hx hb hr hlocks hS (Nat.le_of_ble_eq_true rfl) (Nat.le_of_ble_eq_true rfl) dX11_takesOut_177 (by have := li_0; omega) (Or.inl ⟨rfl, hT⟩)
              · skip
                have c_164 := ni_nlt c_164 li_1 hq1
                exfalso; omega
        · skip
          have c_146 := ni_nle c_146 hq1 li_2
          exfalso; omega
      · skip
        have c_145 := nl_eq c_145 rfl ll_0
        refine lv_iinc (v := 1) (lv' := [(4, .int 1), (0, .ref h0), (1, .int x1), (2, .int x2), (3, .int x3)]) hx hb dX11_takesOut_20 hl (k := 0) rfl (by decide) (by decide) rfl (fun ls hl => ?_)
        refine lv_goto (tgt := 3) hx hb dX11_takesOut_23 (by decide) ?_
        refine lv_iload hx hb dX11_takesOut_3 (lv_at hl 0 rfl) ?_
        refine lv_if_le (tgt := 26) hx hb dX11_takesOut_5 (by decide) (fun cc => absurd cc (by decide +kernel)) (fun _ => ?_)
        refine lv_aload_n hx hb dX11_takesOut_8 rfl (lv_at hl 1 rfl) ?_
        refine tz_get (ci := 8) (v := .ref h7) (C := RX11) (F := TX11) (N := 36) hx hb hU iX11 hown hK hT 0 rfl rfl 14 (by decide) w799 (fun _ h9 => h9) rfl dX11_takesOut_9 ?_
        refine lv_iload hx hb dX11_takesOut_12 (lv_at hl 0 rfl) ?_
        refine tz_lald hx hb hK hT 3 rfl (by have := li_1; omega) dX11_takesOut_14 (fun v173 e_v173 => ?_)
        clear e_v173
        refine lv_lconst (v := 0) hx hb dX11_takesOut_15 (by decide) ?_
        refine W.lcmp hx hb dX11_takesOut_16 ?_
        refine lv_if_ne (tgt := 26) hx hb dX11_takesOut_17 (by decide) (fun c_174 => ?_) (fun c_174 => ?_)
        · skip
          have c_174 := nl_ne c_174 rfl ll_0
          refine lv_iload hx hb dX11_takesOut_26 (lv_at hl 0 rfl) ?_
          refine lv_iload_n hx hb dX11_takesOut_28 rfl (lv_at hl 2 rfl) ?_
          refine lv_icmp_ge (tgt := 34) hx hb dX11_takesOut_29 (by decide) (fun c_175 => ?_) (fun c_175 => ?_)
          · skip
            have c_175 := ni_le c_175 hq1 li_1
            exfalso; omega
          · skip
            have c_175 := ni_nle c_175 hq1 li_1
            refine lv_iconst (v := 0) hx hb dX11_takesOut_32 (by decide) ?_
            exact tz_retZ (B := B_cX11_takesOut_ae7df D k h0 h4 h5 h7 h1 h2 h3 h6 h8 h9 h10 h11 h12 h13 h14 h15 h16 h17 h18 h19 h20 h21 x1 x2 x3 h0f0 h0f1 h0f2 h0f3 h0f4 h0f5 h0f8 h0f9 h0f17 h0f18 h0f19 h0f24 h0f25 h0f30 h0f31) (v := 0) hQ hx hb hr hlocks hS (Nat.le_of_ble_eq_true rfl) (Nat.le_of_ble_eq_true rfl) dX11_takesOut_33 (by have := li_0; omega) (Or.inl ⟨rfl, hT⟩)
        · skip
          have c_174 := nl_eq c_174 rfl ll_0
          refine lv_iinc (v := 0) (lv' := [(4, .int 0), (0, .ref h0), (1, .int x1), (2, .int x2), (3, .int x3)]) hx hb dX11_takesOut_20 hl (k := 0) rfl (by decide) (by decide) rfl (fun ls hl => ?_)
          refine lv_goto (tgt := 3) hx hb dX11_takesOut_23 (by decide) ?_
          refine lv_iload hx hb dX11_takesOut_3 (lv_at hl 0 rfl) ?_
          refine lv_if_le (tgt := 26) hx hb dX11_takesOut_5 (by decide) (fun _ => ?_) (fun cc => absurd (by decide +kernel) cc)
          refine lv_iload hx hb dX11_takesOut_26 (lv_at hl 0 rfl) ?_
          refine lv_iload_n hx hb dX11_takesOut_28 rfl (lv_at hl 2 rfl) ?_
          refine lv_icmp_ge (tgt := 34) hx hb dX11_takesOut_29 (by decide) (fun c_176 => ?_) (fun c_176 => ?_)
          · skip
            have c_176 := ni_le c_176 hq1 li_0
            exfalso; omega
          · skip
            have c_176 := ni_nle c_176 hq1 li_0
            refine lv_iconst (v := 0) hx hb dX11_takesOut_32 (by decide) ?_
            exact tz_retZ (B := B_cX11_takesOut_ae7df D k h0 h4 h5 h7 h1 h2 h3 h6 h8 h9 h10 h11 h12 h13 h14 h15 h16 h17 h18 h19 h20 h21 x1 x2 x3 h0f0 h0f1 h0f2 h0f3 h0f4 h0f5 h0f8 h0f9 h0f17 h0f18 h0f19 h0f24 h0f25 h0f30 h0f31) (v := 0) hQ hx hb hr hlocks hS (Nat.le_of_ble_eq_true rfl) (Nat.le_of_ble_eq_true rfl) dX11_takesOut_33 (by have := li_0; omega) (Or.inl ⟨rfl, hT⟩)
