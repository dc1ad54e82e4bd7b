abbrev Rm_cX7_addUp_cbf42 : Room := { frames := 0, cells := 0, slots := 0, locals := 0 }
abbrev B_cX7_addUp_cbf42 (D : va_G) (k : Nat → ClassId) (h0 h1 : Nat) (x1 : Int32) (x4 : Int32) (x5 : Int32) (x6 : Int32) (A : Nat → Prop) (r : Int64) (H : Heap) : Prop := TP D A [(h0, aJ (k 1) 900 anJ), (h1, aJ (k 1) 36 anJ)] H
set_option maxHeartbeats 4000000 in
set_option maxRecDepth 100000 in
theorem cX7_addUp_cbf42 (l : Launch) (D : va_G) (k : Nat → ClassId) (sz : Nat) (h0 h1 : Nat) (x1 : Int32) (x4 : Int32) (x5 : Int32) (x6 : Int32) (b_x1 : 0 ≤ x1.toInt ∧ x1.toInt ≤ 897) (b_x4 : 0 ≤ x4.toInt ∧ x4.toInt ≤ 29) (b_x5 : 1 ≤ x5.toInt ∧ x5.toInt ≤ 3) (b_x6 : 1 ≤ x6.toInt ∧ x6.toInt ≤ 3) : Met l yX7_addUp (Cond.code yX7_addUp cX7_addUp 10 (some .long) :: uw) Rm_cX7_addUp_cbf42 (pT D k sz [.ref h0, .int x1, .int 1, .ref h1, .int x4, .int x5, .int x6] [(h0, aJ (k 1) 900 anJ), (h1, aJ (k 1) 36 anJ)]) (qL (B_cX7_addUp_cbf42 D k h0 h1 x1 x4 x5 x6 (zA [h0, h1] sz)) (zA [h0, h1] sz)) 0 0 (zA [h0, h1] sz) := by
  refine tz_begin (as := [h0, h1]) (Qc := fun A => qL (B_cX7_addUp_cbf42 D k h0 h1 x1 x4 x5 x6 A) A) (by decide +kernel) rfl (Nat.le_of_ble_eq_true rfl) ?_
  intro p e s m args below meth c ls A Q hx hb hr hml hown hlocks hin hU hK hT hS hA hl hQ
  have hl : lv_has ls 10 [(0, .ref h0), (1, .int x1), (2, .int 1), (3, .ref h1), (4, .int x4), (5, .int x5), (6, .int x6)] := hl
  have hT : TP D A [(h0, aJ (k 1) 900 anJ), (h1, aJ (k 1) 36 anJ)] s.heap := hT
  refine lv_lconst (v := 0) hx hb dX7_addUp_0 (by decide) ?_
  refine lv_lstore (lv' := [(7, .long 0), (0, .ref h0), (1, .int x1), (2, .int 1), (3, .ref h1), (4, .int x4), (5, .int x5), (6, .int x6)]) hx hb dX7_addUp_1 hl (by decide) rfl (fun ls hl => ?_)
  refine lv_iconst (v := 0) hx hb dX7_addUp_3 (by decide) ?_
  refine lv_istore (lv' := [(9, .int 0), (7, .long 0), (0, .ref h0), (1, .int x1), (2, .int 1), (3, .ref h1), (4, .int x4), (5, .int x5), (6, .int x6)]) hx hb dX7_addUp_4 hl (by decide) rfl (fun ls hl => ?_)
  have lp6_7 : ∀ (n : Nat) (y5 : Int32) (y6 : Int64) (H : Heap) (locs : List Loc) (ls : Array Slot), (0 ≤ y5.toInt ∧ y5.toInt ≤ 3) → (x6.toInt + (-1) * y5.toInt + 1).toNat < n → TP D A [(h0, aJ (k 1) 900 anJ), (h1, aJ (k 1) 36 anJ)] H → va_S A s.heap H locs → lv_has ls 10 [(0, .ref h0), (1, .int x1), (2, .int 1), (3, .ref h1), (4, .int x4), (5, .int x5), (6, .int x6), (7, .long y6), (9, .int y5)] → W p l e Rm_cX7_addUp_cbf42 s m args below meth c H locs 0 0 Q (F0 m 6 ls []) := by
    intro n
    induction n with
    | zero => intro y5 y6 H locs ls b_y5 hm hT hS hl; exact absurd hm (Nat.not_lt_zero _)
    | succ n ih =>
      intro y5 y6 H locs ls b_y5 hm hT hS hl
      have ih6_7 := ih
      clear ih
      refine lv_iload hx hb dX7_addUp_6 (lv_at hl 8 rfl) ?_
      refine lv_iload hx hb dX7_addUp_8 (lv_at hl 6 rfl) ?_
      refine lv_icmp_ge (tgt := 43) hx hb dX7_addUp_10 (by decide) (fun c_8 => ?_) (fun c_8 => ?_)
      · skip
        have c_8 := ni_le c_8 rfl rfl
        refine lv_lload hx hb dX7_addUp_43 (lv_at hl 7 rfl) ?_
        exact tz_retL (B := B_cX7_addUp_cbf42 D k h0 h1 x1 x4 x5 x6) (v := y6) hQ hx hb hr hlocks hS (Nat.le_of_ble_eq_true rfl) (Nat.le_of_ble_eq_true rfl) dX7_addUp_45 (hT)
      · skip
        have c_8 := ni_nle c_8 rfl rfl
        refine lv_lload hx hb dX7_addUp_13 (lv_at hl 7 rfl) ?_
        refine lv_aload_n hx hb dX7_addUp_15 rfl (lv_at hl 0 rfl) ?_
        refine lv_iload_n hx hb dX7_addUp_16 rfl (lv_at hl 1 rfl) ?_
        refine lv_iload hx hb dX7_addUp_17 (lv_at hl 8 rfl) ?_
        refine lv_iload_n hx hb dX7_addUp_19 rfl (lv_at hl 2 rfl) ?_
        refine lv_imul hx hb dX7_addUp_20 (lv_topi (fun v9 e_v9 => ?_))
        have e_v9 := ai_mul e_v9 rfl li_1 (by omega)
        refine lv_iadd hx hb dX7_addUp_21 (lv_topi (fun v10 e_v10 => ?_))
        have e_v10 := ai_add e_v10 rfl rfl (by omega)
        refine tz_lald hx hb hK hT 0 rfl (by omega) dX7_addUp_22 (fun v11 e_v11 => ?_)
        clear e_v11
        refine lv_aload_n hx hb dX7_addUp_23 rfl (lv_at hl 3 rfl) ?_
        refine lv_iload hx hb dX7_addUp_24 (lv_at hl 4 rfl) ?_
        refine lv_iload hx hb dX7_addUp_26 (lv_at hl 8 rfl) ?_
        refine lv_iload hx hb dX7_addUp_28 (lv_at hl 5 rfl) ?_
        refine lv_imul hx hb dX7_addUp_30 (lv_topi (fun v12 e_v12 => ?_))
        have e_v12 := ai_mm (la := 0) (ua := 2) (lb := 1) (ub := 3) e_v12 rfl rfl (by omega) (by decide)
        refine lv_iadd hx hb dX7_addUp_31 (lv_topi (fun v13 e_v13 => ?_))
        have e_v13 := ai_add e_v13 rfl rfl (by omega)
        refine tz_lald hx hb hK hT 1 rfl (by omega) dX7_addUp_32 (fun v14 e_v14 => ?_)
        clear e_v14
        refine lv_lmul hx hb dX7_addUp_33 (lv_topl (fun v15 e_v15 => ?_))
        refine lv_ladd hx hb dX7_addUp_34 (lv_topl (fun v16 e_v16 => ?_))
        refine lv_lstore (lv' := [(7, .long v16), (0, .ref h0), (1, .int x1), (2, .int 1), (3, .ref h1), (4, .int x4), (5, .int x5), (6, .int x6), (9, .int y5)]) hx hb dX7_addUp_35 hl (by decide) rfl (fun ls hl => ?_)
        obtain ⟨v17, e_v17⟩ : ∃ x : Int32, x = y5 + Int32.ofInt 1 := ⟨_, rfl⟩
        have f_v17 := e_v17.symm
        have e_v17 : v17.toInt = y5.toInt + 1 := ai_add e_v17 rfl (show (Int32.ofInt 1).toInt = 1 from (by decide +kernel)) (by omega)
        refine lv_iinc (v := v17) (lv' := [(9, .int v17), (7, .long v16), (0, .ref h0), (1, .int x1), (2, .int 1), (3, .ref h1), (4, .int x4), (5, .int x5), (6, .int x6)]) hx hb dX7_addUp_37 hl (k := 8) rfl f_v17 (by decide) rfl (fun ls hl => ?_)
        refine lv_goto (tgt := 6) hx hb dX7_addUp_40 (by decide) ?_
        exact ih6_7 v17 v16 _ _ _ (by omega)  (by omega) hT hS (lv_sub hl [2, 3, 4, 5, 6, 7, 8, 1, 0] rfl)
  exact lp6_7 ((x6.toInt + (-1) * (0 : Int32).toInt + 1).toNat + 1) (0) (0) _ _ _ (by have := li_0; have := ll_0; omega)  (Nat.lt_succ_self _) hT hS (lv_sub hl [2, 3, 4, 5, 6, 7, 8, 1, 0] rfl)
abbrev Rm_cX7_multiply_2850b : Room := { frames := 1, cells := 0, slots := 0, locals := 29 }
abbrev B_cX7_multiply_2850b (D : va_G) (k : Nat → ClassId) (h0 h1 h2 : Nat) (x1 : Int32) (x3 : Int32) (x5 : Int32) (A : Nat → Prop) (H : Heap) : Prop := TP D A [(h0, aJ (k 1) 900 anJ), (h1, aJ (k 1) 36 anJ), (h2, aJ (k 1) 60 anJ)] H
set_option maxHeartbeats 4000000 in
set_option maxRecDepth 100000 in
theorem cX7_multiply_2850b (l : Launch) (D : va_G) (k : Nat → ClassId) (sz : Nat) (h0 h1 h2 : Nat) (x1 : Int32) (x3 : Int32) (x5 : Int32) (b_x1 : 0 ≤ x1.toInt ∧ x1.toInt ≤ 891) (b_x3 : 0 ≤ x3.toInt ∧ x3.toInt ≤ 27) (b_x5 : 1 ≤ x5.toInt ∧ x5.toInt ≤ 3) : Met l yX7_multiply (Cond.code yX7_multiply cX7_multiply 8 none :: uw) Rm_cX7_multiply_2850b (pT D k sz [.ref h0, .int x1, .ref h1, .int x3, .ref h2, .int x5] [(h0, aJ (k 1) 900 anJ), (h1, aJ (k 1) 36 anJ), (h2, aJ (k 1) 60 anJ)]) (qV (B_cX7_multiply_2850b D k h0 h1 h2 x1 x3 x5 (zA [h0, h1, h2] sz)) (zA [h0, h1, h2] sz)) 0 0 (zA [h0, h1, h2] sz) := by
  refine tz_begin (as := [h0, h1, h2]) (Qc := fun A => qV (B_cX7_multiply_2850b D k h0 h1 h2 x1 x3 x5 A) A) (by decide +kernel) rfl (Nat.le_of_ble_eq_true rfl) ?_
  intro p e s m args below meth c ls A Q hx hb hr hml hown hlocks hin hU hK hT hS hA hl hQ
  have hl : lv_has ls 8 [(0, .ref h0), (1, .int x1), (2, .ref h1), (3, .int x3), (4, .ref h2), (5, .int x5)] := hl
  have hT : TP D A [(h0, aJ (k 1) 900 anJ), (h1, aJ (k 1) 36 anJ), (h2, aJ (k 1) 60 anJ)] s.heap := hT
  refine lv_iconst (v := 0) hx hb dX7_multiply_0 (by decide) ?_
  refine lv_istore (lv' := [(6, .int 0), (0, .ref h0), (1, .int x1), (2, .ref h1), (3, .int x3), (4, .ref h2), (5, .int x5)]) hx hb dX7_multiply_1 hl (by decide) rfl (fun ls hl => ?_)
  have lp3_4 : ∀ (n : Nat) (y3 : Int32) (H : Heap) (locs : List Loc) (ls : Array Slot), (0 ≤ y3.toInt ∧ y3.toInt ≤ 3) → (x5.toInt + (-1) * y3.toInt + 1).toNat < n → TP D A [(h0, aJ (k 1) 900 anJ), (h1, aJ (k 1) 36 anJ), (h2, aJ (k 1) 60 anJ)] H → va_S A s.heap H locs → lv_has ls 8 [(0, .ref h0), (1, .int x1), (2, .ref h1), (3, .int x3), (4, .ref h2), (5, .int x5), (6, .int y3)] → W p l e Rm_cX7_multiply_2850b s m args below meth c H locs 0 0 Q (F0 m 3 ls []) := by
    intro n
    induction n with
    | zero => intro y3 H locs ls b_y3 hm hT hS hl; exact absurd hm (Nat.not_lt_zero _)
    | succ n ih =>
      intro y3 H locs ls b_y3 hm hT hS hl
      have ih3_4 := ih
      clear ih
      refine lv_iload hx hb dX7_multiply_3 (lv_at hl 6 rfl) ?_
      refine lv_iload hx hb dX7_multiply_5 (lv_at hl 5 rfl) ?_
      refine lv_icmp_ge (tgt := 64) hx hb dX7_multiply_7 (by decide) (fun c_5 => ?_) (fun c_5 => ?_)
      · skip
        have c_5 := ni_le c_5 rfl rfl
        exact tz_retV (B := B_cX7_multiply_2850b D k h0 h1 h2 x1 x3 x5) hQ hx hb hr hlocks hS (Nat.le_of_ble_eq_true rfl) (Nat.le_of_ble_eq_true rfl) dX7_multiply_64 (hT)
      · skip
        have c_5 := ni_nle c_5 rfl rfl
        refine lv_iconst (v := 0) hx hb dX7_multiply_10 (by decide) ?_
        refine lv_istore (lv' := [(7, .int 0), (0, .ref h0), (1, .int x1), (2, .ref h1), (3, .int x3), (4, .ref h2), (5, .int x5), (6, .int y3)]) hx hb dX7_multiply_11 hl (by decide) rfl (fun ls hl => ?_)
        have lp13_9 : ∀ (n : Nat) (y8 : Int32) (H : Heap) (locs : List Loc) (ls : Array Slot), (0 ≤ y8.toInt ∧ y8.toInt ≤ 3) → (x5.toInt + (-1) * y8.toInt + 1).toNat < n → TP D A [(h0, aJ (k 1) 900 anJ), (h1, aJ (k 1) 36 anJ), (h2, aJ (k 1) 60 anJ)] H → va_S A s.heap H locs → lv_has ls 8 [(0, .ref h0), (1, .int x1), (2, .ref h1), (3, .int x3), (4, .ref h2), (5, .int x5), (6, .int y3), (7, .int y8)] → W p l e Rm_cX7_multiply_2850b s m args below meth c H locs 0 0 Q (F0 m 13 ls []) := by
          intro n
          induction n with
          | zero => intro y8 H locs ls b_y8 hm hT hS hl; exact absurd hm (Nat.not_lt_zero _)
          | succ n ih =>
            intro y8 H locs ls b_y8 hm hT hS hl
            have ih13_9 := ih
            clear ih
            refine lv_iload hx hb dX7_multiply_13 (lv_at hl 7 rfl) ?_
            refine lv_iload hx hb dX7_multiply_15 (lv_at hl 5 rfl) ?_
            refine lv_icmp_ge (tgt := 58) hx hb dX7_multiply_17 (by decide) (fun c_10 => ?_) (fun c_10 => ?_)
            · skip
              have c_10 := ni_le c_10 rfl rfl
              obtain ⟨v11, e_v11⟩ : ∃ x : Int32, x = y3 + Int32.ofInt 1 := ⟨_, rfl⟩
              have f_v11 := e_v11.symm
              have e_v11 : v11.toInt = y3.toInt + 1 := ai_add e_v11 rfl (show (Int32.ofInt 1).toInt = 1 from (by decide +kernel)) (by omega)
              refine lv_iinc (v := v11) (lv' := [(6, .int v11), (0, .ref h0), (1, .int x1), (2, .ref h1), (3, .int x3), (4, .ref h2), (5, .int x5), (7, .int y8)]) hx hb dX7_multiply_58 hl (k := 6) rfl f_v11 (by decide) rfl (fun ls hl => ?_)
              refine lv_goto (tgt := 3) hx hb dX7_multiply_61 (by decide) ?_
              exact ih3_4 v11 _ _ _ (by omega)  (by omega) hT hS (lv_sub hl [1, 2, 3, 4, 5, 6, 0] rfl)
            · skip
              have c_10 := ni_nle c_10 rfl rfl
              refine lv_aload hx hb dX7_multiply_20 (lv_at hl 4 rfl) ?_
              refine lv_iload hx hb dX7_multiply_22 (lv_at hl 6 rfl) ?_
              refine lv_iload hx hb dX7_multiply_24 (lv_at hl 5 rfl) ?_
              refine lv_imul hx hb dX7_multiply_26 (lv_topi (fun v12 e_v12 => ?_))
              have e_v12 := ai_mm (la := 0) (ua := 2) (lb := 1) (ub := 3) e_v12 rfl rfl (by omega) (by decide)
              refine lv_iload hx hb dX7_multiply_27 (lv_at hl 7 rfl) ?_
              refine lv_iadd hx hb dX7_multiply_29 (lv_topi (fun v13 e_v13 => ?_))
              have e_v13 := ai_add e_v13 rfl rfl (by omega)
              refine lv_aload_n hx hb dX7_multiply_30 rfl (lv_at hl 0 rfl) ?_
              refine lv_iload_n hx hb dX7_multiply_31 rfl (lv_at hl 1 rfl) ?_
              refine lv_iload hx hb dX7_multiply_32 (lv_at hl 6 rfl) ?_
              refine lv_iload hx hb dX7_multiply_34 (lv_at hl 5 rfl) ?_
              refine lv_imul hx hb dX7_multiply_36 (lv_topi (fun v14 e_v14 => ?_))
              have e_v14 := ai_mm (la := 0) (ua := 2) (lb := 1) (ub := 3) e_v14 rfl rfl (by omega) (by decide)
              refine lv_iadd hx hb dX7_multiply_37 (lv_topi (fun v15 e_v15 => ?_))
              have e_v15 := ai_add e_v15 rfl rfl (by omega)
              refine lv_iconst (v := 1) hx hb dX7_multiply_38 (by decide) ?_
              refine lv_aload_n hx hb dX7_multiply_39 rfl (lv_at hl 2 rfl) ?_
              refine lv_iload_n hx hb dX7_multiply_40 rfl (lv_at hl 3 rfl) ?_
              refine lv_iload hx hb dX7_multiply_41 (lv_at hl 7 rfl) ?_
              refine lv_iadd hx hb dX7_multiply_43 (lv_topi (fun v16 e_v16 => ?_))
              have e_v16 := ai_add e_v16 rfl rfl (by omega)
              refine lv_iload hx hb dX7_multiply_44 (lv_at hl 5 rfl) ?_
              refine lv_iload hx hb dX7_multiply_46 (lv_at hl 5 rfl) ?_
              refine tcL (Tc := [(h0, aJ (k 1) 900 anJ), (h1, aJ (k 1) 36 anJ)]) (Tr := [(h2, aJ (k 1) 60 anJ)]) (as := [h0, h1]) (zcS (As := [.ref h0, .int v15, .int 1, .ref h1, .int v16, .int x5, .int x5]) (rest := [.int v13, .ref h2]) (Tc := [(h0, aJ (k 1) 900 anJ), (h1, aJ (k 1) 36 anJ)]) hx hb hml hown hU hK hT [0, 1] rfl (by decide) (cX7_addUp_cbf42 l D k _ h0 h1 v15 v16 x5 x5 (by omega) (by omega) (by omega) (by omega)) w366 w364 w365 w74 hdX7_addUp ⟨rfl, rfl⟩ ⟨Nat.le_of_ble_eq_true rfl, Nat.le_of_ble_eq_true rfl⟩ rfl hl.1 (Nat.le_of_ble_eq_true rfl) dX7_multiply_48 ⟨Nat.le_of_ble_eq_true rfl, Nat.le_of_ble_eq_true rfl⟩) hT hS hA [0, 1] [2] rfl rfl rfl (by decide) (by decide) (fun r17 H locs hB J hS => ?_)
              have hT1 := hB
              have hT := J _ hT1
              have hT : TP D A [(h2, aJ (k 1) 60 anJ), (h0, aJ (k 1) 900 anJ), (h1, aJ (k 1) 36 anJ)] _ := hT
              refine tz_last hx hb hK hT hS 0 rfl (by omega) (fun _ _ => trivial) dX7_multiply_51 (fun H locs hT hS => ?_)
              obtain ⟨v18, e_v18⟩ : ∃ x : Int32, x = y8 + Int32.ofInt 1 := ⟨_, rfl⟩
              have f_v18 := e_v18.symm
              have e_v18 : v18.toInt = y8.toInt + 1 := ai_add e_v18 rfl (show (Int32.ofInt 1).toInt = 1 from (by decide +kernel)) (by omega)
              refine lv_iinc (v := v18) (lv' := [(7, .int v18), (0, .ref h0), (1, .int x1), (2, .ref h1), (3, .int x3), (4, .ref h2), (5, .int x5), (6, .int y3)]) hx hb dX7_multiply_52 hl (k := 7) rfl f_v18 (by decide) rfl (fun ls hl => ?_)
              refine lv_goto (tgt := 13) hx hb dX7_multiply_55 (by decide) ?_
              exact ih13_9 v18 _ _ _ (by omega)  (by omega) (hT.sub [1, 2, 0] (by decide) rfl) hS (lv_sub hl [1, 2, 3, 4, 5, 6, 7, 0] rfl)
        exact lp13_9 ((x5.toInt + (-1) * (0 : Int32).toInt + 1).toNat + 1) (0) _ _ _ (by have := li_0; omega)  (Nat.lt_succ_self _) hT hS (lv_sub hl [1, 2, 3, 4, 5, 6, 7, 0] rfl)
  exact lp3_4 ((x5.toInt + (-1) * (0 : Int32).toInt + 1).toNat + 1) (0) _ _ _ (by have := li_0; omega)  (Nat.lt_succ_self _) hT hS (lv_sub hl [1, 2, 3, 4, 5, 6, 0] rfl)
abbrev Rm_cX7_isWithin_67f8a : Room := { frames := 0, cells := 0, slots := 0, locals := 0 }
abbrev B_cX7_isWithin_67f8a (D : va_G) (k : Nat → ClassId) (h0 : Nat) (x1 : Int32) (x2 : Int64) (A : Nat → Prop) (r : Int32) (H : Heap) : Prop := (0 ≤ r.toInt ∧ r.toInt ≤ 1) ∧ TP D A [(h0, aJ (k 1) 60 anJ)] H
set_option maxHeartbeats 4000000 in
set_option maxRecDepth 100000 in
theorem cX7_isWithin_67f8a (l : Launch) (D : va_G) (k : Nat → ClassId) (sz : Nat) (h0 : Nat) (x1 : Int32) (x2 : Int64) (b_x1 : 1 ≤ x1.toInt ∧ x1.toInt ≤ 9) (b_x2 : 1000000000 ≤ x2.toInt ∧ x2.toInt ≤ 1000000000) : Met l yX7_isWithin (Cond.code yX7_isWithin cX7_isWithin 5 (some .boolean) :: uw) Rm_cX7_isWithin_67f8a (pT D k sz [.ref h0, .int x1, .long x2] [(h0, aJ (k 1) 60 anJ)]) (qI (B_cX7_isWithin_67f8a D k h0 x1 x2 (zA [h0] sz)) (zA [h0] sz)) 0 0 (zA [h0] sz) := by
  refine tz_begin (as := [h0]) (Qc := fun A => qI (B_cX7_isWithin_67f8a D k h0 x1 x2 A) A) (by decide +kernel) rfl (Nat.le_of_ble_eq_true rfl) ?_
  intro p e s m args below meth c ls A Q hx hb hr hml hown hlocks hin hU hK hT hS hA hl hQ
  have hl : lv_has ls 5 [(0, .ref h0), (1, .int x1), (2, .long x2)] := hl
  have hT : TP D A [(h0, aJ (k 1) 60 anJ)] s.heap := hT
  refine lv_iconst (v := 0) hx hb dX7_isWithin_0 (by decide) ?_
  refine lv_istore (lv' := [(4, .int 0), (0, .ref h0), (1, .int x1), (2, .long x2)]) hx hb dX7_isWithin_1 hl (by decide) rfl (fun ls hl => ?_)
  have lp3_8 : ∀ (n : Nat) (y7 : Int32) (H : Heap) (locs : List Loc) (ls : Array Slot), (0 ≤ y7.toInt ∧ y7.toInt ≤ 9) → (x1.toInt + (-1) * y7.toInt + 1).toNat < n → TP D A [(h0, aJ (k 1) 60 anJ)] H → va_S A s.heap H locs → lv_has ls 5 [(0, .ref h0), (1, .int x1), (2, .long x2), (4, .int y7)] → W p l e Rm_cX7_isWithin_67f8a s m args below meth c H locs 0 0 Q (F0 m 3 ls []) := by
    intro n
    induction n with
    | zero => intro y7 H locs ls b_y7 hm hT hS hl; exact absurd hm (Nat.not_lt_zero _)
    | succ n ih =>
      intro y7 H locs ls b_y7 hm hT hS hl
      have ih3_8 := ih
      clear ih
      refine lv_iload hx hb dX7_isWithin_3 (lv_at hl 3 rfl) ?_
      refine lv_iload_n hx hb dX7_isWithin_5 rfl (lv_at hl 1 rfl) ?_
      refine lv_icmp_ge (tgt := 36) hx hb dX7_isWithin_6 (by decide) (fun c_9 => ?_) (fun c_9 => ?_)
      · skip
        have c_9 := ni_le c_9 rfl rfl
        refine lv_iconst (v := 1) hx hb dX7_isWithin_36 (by decide) ?_
        exact tz_retZ (B := B_cX7_isWithin_67f8a D k h0 x1 x2) (v := 1) hQ hx hb hr hlocks hS (Nat.le_of_ble_eq_true rfl) (Nat.le_of_ble_eq_true rfl) dX7_isWithin_37 (by have := li_1; omega) (⟨(by have := li_1; omega), hT⟩)
      · skip
        have c_9 := ni_nle c_9 rfl rfl
        refine lv_aload_n hx hb dX7_isWithin_9 rfl (lv_at hl 0 rfl) ?_
        refine lv_iload hx hb dX7_isWithin_10 (lv_at hl 3 rfl) ?_
        refine tz_lald hx hb hK hT 0 rfl (by omega) dX7_isWithin_12 (fun v10 e_v10 => ?_)
        clear e_v10
        refine lv_lload_n hx hb dX7_isWithin_13 rfl (lv_at hl 2 rfl) ?_
        refine lv_lneg hx hb dX7_isWithin_14 (lv_topl (fun v11 e_v11 => ?_))
        have e_v11 := al_neg e_v11 rfl (by omega)
        refine W.lcmp hx hb dX7_isWithin_15 ?_
        refine lv_if_lt (tgt := 28) hx hb dX7_isWithin_16 (by decide) (fun c_12 => ?_) (fun c_12 => ?_)
        · skip
          have c_12 := nl_lt c_12 rfl rfl
          refine lv_iconst (v := 0) hx hb dX7_isWithin_28 (by decide) ?_
          exact tz_retZ (B := B_cX7_isWithin_67f8a D k h0 x1 x2) (v := 0) hQ hx hb hr hlocks hS (Nat.le_of_ble_eq_true rfl) (Nat.le_of_ble_eq_true rfl) dX7_isWithin_29 (by have := li_0; omega) (⟨(by have := li_0; omega), hT⟩)
        · skip
          have c_12 := nl_nlt c_12 rfl rfl
          refine lv_aload_n hx hb dX7_isWithin_19 rfl (lv_at hl 0 rfl) ?_
          refine lv_iload hx hb dX7_isWithin_20 (lv_at hl 3 rfl) ?_
          refine tz_lald hx hb hK hT 0 rfl (by omega) dX7_isWithin_22 (fun v13 e_v13 => ?_)
          clear e_v13
          refine lv_lload_n hx hb dX7_isWithin_23 rfl (lv_at hl 2 rfl) ?_
          refine W.lcmp hx hb dX7_isWithin_24 ?_
          refine lv_if_le (tgt := 30) hx hb dX7_isWithin_25 (by decide) (fun c_14 => ?_) (fun c_14 => ?_)
          · skip
            have c_14 := nl_le c_14 rfl rfl
            obtain ⟨v15, e_v15⟩ : ∃ x : Int32, x = y7 + Int32.ofInt 1 := ⟨_, rfl⟩
            have f_v15 := e_v15.symm
            have e_v15 : v15.toInt = y7.toInt + 1 := ai_add e_v15 rfl (show (Int32.ofInt 1).toInt = 1 from (by decide +kernel)) (by omega)
            refine lv_iinc (v := v15) (lv' := [(4, .int v15), (0, .ref h0), (1, .int x1), (2, .long x2)]) hx hb dX7_isWithin_30 hl (k := 3) rfl f_v15 (by decide) rfl (fun ls hl => ?_)
            refine lv_goto (tgt := 3) hx hb dX7_isWithin_33 (by decide) ?_
            exact ih3_8 v15 _ _ _ (by omega)  (by omega) hT hS (lv_sub hl [1, 2, 3, 0] rfl)
          · skip
            have c_14 := nl_nle c_14 rfl rfl
            refine lv_iconst (v := 0) hx hb dX7_isWithin_28 (by decide) ?_
            exact tz_retZ (B := B_cX7_isWithin_67f8a D k h0 x1 x2) (v := 0) hQ hx hb hr hlocks hS (Nat.le_of_ble_eq_true rfl) (Nat.le_of_ble_eq_true rfl) dX7_isWithin_29 (by have := li_0; omega) (⟨(by have := li_0; omega), hT⟩)
  exact lp3_8 ((x1.toInt + (-1) * (0 : Int32).toInt + 1).toNat + 1) (0) _ _ _ (by have := li_0; omega)  (Nat.lt_succ_self _) hT hS (lv_sub hl [1, 2, 3, 0] rfl)
abbrev Rm_cX2_go_b273a : Room := { frames := 2, cells := 0, slots := 0, locals := 56 }
abbrev B_cX2_go_b273a (D : va_G) (k : Nat → ClassId) (h0 h1 h2 h3 h4 : Nat) (x2 : Int32) (x3 : Int32) (h0f1 : Int32) (h3f0 : Int32) (h3f1 : Int32) (h3f2 : Int32) (A : Nat → Prop) (r : Int32) (H : Heap) : Prop := (0 ≤ r.toInt ∧ r.toInt ≤ 1) ∧ TP D A [(h0, ob 2 [.ref h3, .int h0f1]), (h1, aJ (k 1) 900 anJ), (h2, aJ (k 1) 60 anJ), (h3, ob 4 [.int h3f0, .int h3f1, .int h3f2, .ref h4]), (h4, aJ (k 1) 36 anJ)] H
set_option maxHeartbeats 4000000 in
set_option maxRecDepth 100000 in
theorem cX2_go_b273a (l : Launch) (D : va_G) (k : Nat → ClassId) (sz : Nat) (h0 h1 h2 h3 h4 : Nat) (x2 : Int32) (x3 : Int32) (h0f1 : Int32) (h3f0 : Int32) (h3f1 : Int32) (h3f2 : Int32) (b_x2 : 0 ≤ x2.toInt ∧ x2.toInt ≤ 891) (b_x3 : 0 ≤ x3.toInt ∧ x3.toInt ≤ 3) (b_h0f1 : 0 ≤ h0f1.toInt ∧ h0f1.toInt ≤ 0) (b_h3f0 : 1 ≤ h3f0.toInt ∧ h3f0.toInt ≤ 3) (b_h3f1 : 0 ≤ h3f1.toInt ∧ h3f1.toInt ≤ 4) : Met l yX2_go (Cond.code yX2_go cX2_go 5 (some .boolean) :: uw) Rm_cX2_go_b273a (pT D k sz [.ref h0, .ref h1, .int x2, .int x3, .ref h2] [(h0, ob 2 [.ref h3, .int h0f1]), (h1, aJ (k 1) 900 anJ), (h2, aJ (k 1) 60 anJ), (h3, ob 4 [.int h3f0, .int h3f1, .int h3f2, .ref h4]), (h4, aJ (k 1) 36 anJ)]) (qI (B_cX2_go_b273a D k h0 h1 h2 h3 h4 x2 x3 h0f1 h3f0 h3f1 h3f2 (zA [h0, h1, h2, h3, h4] sz)) (zA [h0, h1, h2, h3, h4] sz)) 0 0 (zA [h0, h1, h2, h3, h4] sz) := by
  refine tz_begin (as := [h0, h1, h2, h3, h4]) (Qc := fun A => qI (B_cX2_go_b273a D k h0 h1 h2 h3 h4 x2 x3 h0f1 h3f0 h3f1 h3f2 A) A) (by decide +kernel) rfl (Nat.le_of_ble_eq_true rfl) ?_
  intro p e s m args below meth c ls A Q hx hb hr hml hown hlocks hin hU hK hT hS hA hl hQ
  have hl : lv_has ls 5 [(0, .ref h0), (1, .ref h1), (2, .int x2), (3, .int x3), (4, .ref h2)] := hl
  have hT : TP D A [(h0, ob 2 [.ref h3, .int h0f1]), (h1, aJ (k 1) 900 anJ), (h2, aJ (k 1) 60 anJ), (h3, ob 4 [.int h3f0, .int h3f1, .int h3f2, .ref h4]), (h4, aJ (k 1) 36 anJ)] s.heap := hT
  refine lv_aload_n hx hb dX2_go_0 rfl (lv_at hl 1 rfl) ?_
  refine lv_iload_n hx hb dX2_go_1 rfl (lv_at hl 2 rfl) ?_
  refine lv_aload_n hx hb dX2_go_2 rfl (lv_at hl 0 rfl) ?_
  refine tz_get (ci := 2) (v := .ref h3) (C := RX2) (F := TX2) (N := 2) hx hb hU iX2 hown hK hT 0 rfl rfl 0 (by decide) w204 (fun _ h9 => h9) rfl dX2_go_3 ?_
  refine tz_get (ci := 4) (v := .ref h4) (C := RX5) (F := TX5) (N := 4) hx hb hU iX5 hown hK hT 3 rfl rfl 3 (by decide) w102 (fun _ h9 => h9) rfl dX2_go_6 ?_
  refine lv_iload_n hx hb dX2_go_9 rfl (lv_at hl 3 rfl) ?_
  refine lv_bipush (v := 9) hx hb dX2_go_10 (by decide) ?_
  refine lv_imul hx hb dX2_go_12 (lv_topi (fun v1 e_v1 => ?_))
  have e_v1 := ai_mul e_v1 rfl li_9 (by omega)
  refine lv_aload hx hb dX2_go_13 (lv_at hl 4 rfl) ?_
  refine lv_aload_n hx hb dX2_go_15 rfl (lv_at hl 0 rfl) ?_
  refine tz_get (ci := 2) (v := .ref h3) (C := RX2) (F := TX2) (N := 2) hx hb hU iX2 hown hK hT 0 rfl rfl 0 (by decide) w204 (fun _ h9 => h9) rfl dX2_go_16 ?_
  refine tz_get (ci := 4) (v := .int h3f0) (C := RX5) (F := TX5) (N := 4) hx hb hU iX5 hown hK hT 3 rfl rfl 0 (by decide) w95 (fun _ h9 => h9) rfl dX2_go_19 ?_
  refine tcV (Tc := [(h1, aJ (k 1) 900 anJ), (h4, aJ (k 1) 36 anJ), (h2, aJ (k 1) 60 anJ)]) (Tr := [(h0, ob 2 [.ref h3, .int h0f1]), (h3, ob 4 [.int h3f0, .int h3f1, .int h3f2, .ref h4])]) (as := [h1, h4, h2]) (zcS (As := [.ref h1, .int x2, .ref h4, .int v1, .ref h2, .int h3f0]) (rest := []) (Tc := [(h1, aJ (k 1) 900 anJ), (h4, aJ (k 1) 36 anJ), (h2, aJ (k 1) 60 anJ)]) hx hb hml hown hU hK hT [1, 4, 2] rfl (by decide) (cX7_multiply_2850b l D k _ h1 h4 h2 x2 v1 h3f0 (by omega) (by omega) (by omega)) w363 w542 w362 w74 hdX7_multiply ⟨rfl, rfl⟩ ⟨Nat.le_of_ble_eq_true rfl, Nat.le_of_ble_eq_true rfl⟩ rfl hl.1 (Nat.le_of_ble_eq_true rfl) dX2_go_22 ⟨Nat.le_of_ble_eq_true rfl, Nat.le_of_ble_eq_true rfl⟩) hT hS hA [1, 4, 2] [0, 3] rfl rfl rfl (by decide) (by decide) (fun H locs hB J hS => ?_)
  have hT1 := hB
  have hT := J _ hT1
  have hT : TP D A [(h0, ob 2 [.ref h3, .int h0f1]), (h3, ob 4 [.int h3f0, .int h3f1, .int h3f2, .ref h4]), (h1, aJ (k 1) 900 anJ), (h4, aJ (k 1) 36 anJ), (h2, aJ (k 1) 60 anJ)] _ := hT
  refine lv_aload_n hx hb dX2_go_25 rfl (lv_at hl 0 rfl) ?_
  refine tz_get (ci := 2) (v := .int h0f1) (C := RX2) (F := TX2) (N := 2) hx hb hU iX2 hown hK hT 0 rfl rfl 1 (by decide) w205 (fun _ h9 => h9) rfl dX2_go_26 ?_
  refine lv_if_le (tgt := 50) hx hb dX2_go_29 (by decide) (fun c_3 => ?_) (fun c_3 => ?_)
  · skip
    have c_3 := ni_le c_3 rfl li_0
    refine lv_aload hx hb dX2_go_50 (lv_at hl 4 rfl) ?_
    refine lv_aload_n hx hb dX2_go_52 rfl (lv_at hl 0 rfl) ?_
    refine tz_get (ci := 2) (v := .ref h3) (C := RX2) (F := TX2) (N := 2) hx hb hU iX2 hown hK hT 0 rfl rfl 0 (by decide) w204 (fun _ h9 => h9) rfl dX2_go_53 ?_
    refine tcI (Tc := [(h3, ob 4 [.int h3f0, .int h3f1, .int h3f2, .ref h4])]) (Tr := [(h0, ob 2 [.ref h3, .int h0f1]), (h1, aJ (k 1) 900 anJ), (h4, aJ (k 1) 36 anJ), (h2, aJ (k 1) 60 anJ)]) (as := [h3]) (zcV (q0 := 1) (ci := 4) (As := []) (rest := [.ref h2]) (Tc := [(h3, ob 4 [.int h3f0, .int h3f1, .int h3f2, .ref h4])]) hx hb hml hown hU hK hT rfl rfl [1] rfl (by decide) (cX5_cellCount_642c9 l D k _ h3 h4 h3f0 h3f1 h3f2 (by omega) (by omega)) w385 w543 w383 w384 w64 hdX5_cellCount ⟨rfl, rfl⟩ ⟨Nat.le_of_ble_eq_true rfl, Nat.le_of_ble_eq_true rfl⟩ rfl hl.1 (Nat.le_of_ble_eq_true rfl) dX2_go_56 ⟨Nat.le_of_ble_eq_true rfl, Nat.le_of_ble_eq_true rfl⟩) hT hS hA [1] [0, 2, 3, 4] rfl rfl rfl (by decide) (by decide) (fun r4 H locs hB J hS => ?_)
    obtain ⟨b_r4, hT1⟩ := hB
    have hT := J _ hT1
    have hT : TP D A [(h0, ob 2 [.ref h3, .int h0f1]), (h1, aJ (k 1) 900 anJ), (h4, aJ (k 1) 36 anJ), (h2, aJ (k 1) 60 anJ), (h3, ob 4 [.int h3f0, .int h3f1, .int h3f2, .ref h4])] _ := hT
    refine lv_ldc2 hx hb hown (hU _ w550) dX2_go_59 ?_
    have q_q6 := ll_1000000000
    refine tcI (Tc := [(h2, aJ (k 1) 60 anJ)]) (Tr := [(h0, ob 2 [.ref h3, .int h0f1]), (h1, aJ (k 1) 900 anJ), (h4, aJ (k 1) 36 anJ), (h3, ob 4 [.int h3f0, .int h3f1, .int h3f2, .ref h4])]) (as := [h2]) (zcS (As := [.ref h2, .int r4, .long 1000000000]) (rest := []) (Tc := [(h2, aJ (k 1) 60 anJ)]) hx hb hml hown hU hK hT [3] rfl (by decide) (cX7_isWithin_67f8a l D k _ h2 r4 (1000000000) (by omega) (by have := ll_1000000000; omega)) w389 w551 w388 w74 hdX7_isWithin ⟨rfl, rfl⟩ ⟨Nat.le_of_ble_eq_true rfl, Nat.le_of_ble_eq_true rfl⟩ rfl hl.1 (Nat.le_of_ble_eq_true rfl) dX2_go_62 ⟨Nat.le_of_ble_eq_true rfl, Nat.le_of_ble_eq_true rfl⟩) hT hS hA [3] [0, 1, 2, 4] rfl rfl rfl (by decide) (by decide) (fun r5 H locs hB J hS => ?_)
    obtain ⟨b_r5, hT1⟩ := hB
    have hT := J _ hT1
    have hT : TP D A [(h0, ob 2 [.ref h3, .int h0f1]), (h1, aJ (k 1) 900 anJ), (h4, aJ (k 1) 36 anJ), (h3, ob 4 [.int h3f0, .int h3f1, .int h3f2, .ref h4]), (h2, aJ (k 1) 60 anJ)] _ := hT
    exact tz_retZ (B := B_cX2_go_b273a D k h0 h1 h2 h3 h4 x2 x3 h0f1 h3f0 h3f1 h3f2) (v := r5) hQ hx hb hr hlocks hS (Nat.le_of_ble_eq_true rfl) (Nat.le_of_ble_eq_true rfl) dX2_go_65 (by omega) (⟨(by omega), (hT.sub [0, 1, 4, 3, 2] (by decide) rfl)⟩)
  · skip
    have c_3 := ni_nle c_3 rfl li_0
    exfalso; omega
abbrev Rm_cX4_slotOf_33b21 : Room := { frames := 0, cells := 0, slots := 0, locals := 0 }
abbrev B_cX4_slotOf_33b21 (D : va_G) (k : Nat → ClassId) (h0 h1 h7 h2 h3 h4 h5 h6 h8 : Nat) (h0f8 : Int32) (h0f9 : Int32) (h0f10 : Int32) (h0f11 : Int32) (A : Nat → Prop) (r : Int32) (H : Heap) : Prop := (0 ≤ r.toInt ∧ r.toInt ≤ 255) ∧ TP D A [(h0, ob 3 [.ref h2, .ref h3, .ref h4, .ref h5, .ref h6, .ref h7, .ref h8, .ref h1, .int h0f8, .int h0f9, .int h0f10, .int h0f11]), (h1, aJ (k 1) 60 anJ), (h7, aI (k 0) 256 (rgI (-1) 99))] H
set_option maxHeartbeats 4000000 in
set_option maxRecDepth 100000 in
theorem cX4_slotOf_33b21 (l : Launch) (D : va_G) (k : Nat → ClassId) (sz : Nat) (h0 h1 h7 h2 h3 h4 h5 h6 h8 : Nat) (h0f8 : Int32) (h0f9 : Int32) (h0f10 : Int32) (h0f11 : Int32) (b_h0f8 : 1 ≤ h0f8.toInt ∧ h0f8.toInt ≤ 9) (b_h0f9 : 100 ≤ h0f9.toInt ∧ h0f9.toInt ≤ 100) (b_h0f10 : 1 ≤ h0f10.toInt ∧ h0f10.toInt ≤ 100) (b_h0f11 : 0 ≤ h0f11.toInt ∧ h0f11.toInt ≤ 1) : Met l yX4_slotOf (Cond.code yX4_slotOf cX4_slotOf 5 (some .int) :: uw) Rm_cX4_slotOf_33b21 (pT D k sz [.ref h0, .ref h1] [(h0, ob 3 [.ref h2, .ref h3, .ref h4, .ref h5, .ref h6, .ref h7, .ref h8, .ref h1, .int h0f8, .int h0f9, .int h0f10, .int h0f11]), (h1, aJ (k 1) 60 anJ), (h7, aI (k 0) 256 (rgI (-1) 99))]) (qI (B_cX4_slotOf_33b21 D k h0 h1 h7 h2 h3 h4 h5 h6 h8 h0f8 h0f9 h0f10 h0f11 (zA [h0, h1, h7] sz)) (zA [h0, h1, h7] sz)) 0 0 (zA [h0, h1, h7] sz) := by
  refine tz_begin (as := [h0, h1, h7]) (Qc := fun A => qI (B_cX4_slotOf_33b21 D k h0 h1 h7 h2 h3 h4 h5 h6 h8 h0f8 h0f9 h0f10 h0f11 A) A) (by decide +kernel) rfl (Nat.le_of_ble_eq_true rfl) ?_
  intro p e s m args below meth c ls A Q hx hb hr hml hown hlocks hin hU hK hT hS hA hl hQ
  have hl : lv_has ls 5 [(0, .ref h0), (1, .ref h1)] := hl
  have hT : TP D A [(h0, ob 3 [.ref h2, .ref h3, .ref h4, .ref h5, .ref h6, .ref h7, .ref h8, .ref h1, .int h0f8, .int h0f9, .int h0f10, .int h0f11]), (h1, aJ (k 1) 60 anJ), (h7, aI (k 0) 256 (rgI (-1) 99))] s.heap := hT
  refine lv_lconst (v := 0) hx hb dX4_slotOf_0 (by decide) ?_
  refine lv_lstore_n (lv' := [(2, .long 0), (0, .ref h0), (1, .ref h1)]) hx hb dX4_slotOf_1 rfl hl (by decide) rfl (fun ls hl => ?_)
  refine lv_iconst (v := 0) hx hb dX4_slotOf_2 (by decide) ?_
  refine lv_istore (lv' := [(4, .int 0), (2, .long 0), (0, .ref h0), (1, .ref h1)]) hx hb dX4_slotOf_3 hl (by decide) rfl (fun ls hl => ?_)
  have lp5_15 : ∀ (n : Nat) (y13 : Int32) (y14 : Int64) (H : Heap) (locs : List Loc) (ls : Array Slot), (0 ≤ y13.toInt ∧ y13.toInt ≤ 9) → (h0f8.toInt + (-1) * y13.toInt + 1).toNat < n → TP D A [(h0, ob 3 [.ref h2, .ref h3, .ref h4, .ref h5, .ref h6, .ref h7, .ref h8, .ref h1, .int h0f8, .int h0f9, .int h0f10, .int h0f11]), (h1, aJ (k 1) 60 anJ), (h7, aI (k 0) 256 (rgI (-1) 99))] H → va_S A s.heap H locs → lv_has ls 5 [(0, .ref h0), (1, .ref h1), (2, .long y14), (4, .int y13)] → W p l e Rm_cX4_slotOf_33b21 s m args below meth c H locs 0 0 Q (F0 m 5 ls []) := by
    intro n
    induction n with
    | zero => intro y13 y14 H locs ls b_y13 hm hT hS hl; exact absurd hm (Nat.not_lt_zero _)
    | succ n ih =>
      intro y13 y14 H locs ls b_y13 hm hT hS hl
      have ih5_15 := ih
      clear ih
      refine lv_iload hx hb dX4_slotOf_5 (lv_at hl 3 rfl) ?_
      refine lv_aload_n hx hb dX4_slotOf_7 rfl (lv_at hl 0 rfl) ?_
      refine tz_get (ci := 3) (v := .int h0f8) (C := RX4) (F := TX4) (N := 12) hx hb hU iX4 hown hK hT 0 rfl rfl 8 (by decide) w162 (fun _ h9 => h9) rfl dX4_slotOf_8 ?_
      refine lv_icmp_ge (tgt := 31) hx hb dX4_slotOf_11 (by decide) (fun c_16 => ?_) (fun c_16 => ?_)
      · skip
        have c_16 := ni_le c_16 rfl rfl
        refine lv_lload_n hx hb dX4_slotOf_31 rfl (lv_at hl 2 rfl) ?_
        refine lv_lload_n hx hb dX4_slotOf_32 rfl (lv_at hl 2 rfl) ?_
        refine lv_bipush (v := 32) hx hb dX4_slotOf_33 (by decide) ?_
        refine lv_lushr hx hb dX4_slotOf_35 rfl (lv_topl (fun v17 _ => ?_))
        refine lv_lxor hx hb dX4_slotOf_36 (lv_topl (fun v18 e_v18 => ?_))
        refine lv_lstore_n (lv' := [(2, .long v18), (0, .ref h0), (1, .ref h1), (4, .int y13)]) hx hb dX4_slotOf_37 rfl hl (by decide) rfl (fun ls hl => ?_)
        refine lv_lload_n hx hb dX4_slotOf_38 rfl (lv_at hl 0 rfl) ?_
        refine lv_lload_n hx hb dX4_slotOf_39 rfl (lv_at hl 0 rfl) ?_
        refine lv_bipush (v := 16) hx hb dX4_slotOf_40 (by decide) ?_
        refine lv_lushr hx hb dX4_slotOf_42 rfl (lv_topl (fun v19 _ => ?_))
        refine lv_lxor hx hb dX4_slotOf_43 (lv_topl (fun v20 e_v20 => ?_))
        refine lv_lstore_n (lv' := [(2, .long v20), (0, .ref h0), (1, .ref h1), (4, .int y13)]) hx hb dX4_slotOf_44 rfl hl (by decide) rfl (fun ls hl => ?_)
        refine lv_lload_n hx hb dX4_slotOf_45 rfl (lv_at hl 0 rfl) ?_
        refine lv_l2i hx hb dX4_slotOf_46 rfl (lv_topi (fun v21 _ => ?_))
        refine lv_aload_n hx hb dX4_slotOf_47 rfl (lv_at hl 1 rfl) ?_
        refine tz_get (ci := 3) (v := .ref h7) (C := RX4) (F := TX4) (N := 12) hx hb hU iX4 hown hK hT 0 rfl rfl 5 (by decide) w159 (fun _ h9 => h9) rfl dX4_slotOf_48 ?_
        refine tz_aleni (v := 256) hx hb hK hT 2 rfl (by decide +kernel) dX4_slotOf_51 ?_
        refine lv_iconst (v := 1) hx hb dX4_slotOf_52 (by decide) ?_
        refine lv_isub hx hb dX4_slotOf_53 (sv_i (v := 255) (by decide +kernel) ?_)
        refine lv_iand hx hb dX4_slotOf_54 (lv_topi (fun v22 e_v22 => ?_))
        have e_v22 := ai_and 8 e_v22 (by decide +kernel) (by decide)
        exact tz_retI (B := B_cX4_slotOf_33b21 D k h0 h1 h7 h2 h3 h4 h5 h6 h8 h0f8 h0f9 h0f10 h0f11) (v := v22) hQ hx hb hr hlocks hS (Nat.le_of_ble_eq_true rfl) (Nat.le_of_ble_eq_true rfl) dX4_slotOf_55 (⟨(by omega), hT⟩)
      · skip
        have c_16 := ni_nle c_16 rfl rfl
        refine lv_lload_n hx hb dX4_slotOf_14 rfl (lv_at hl 2 rfl) ?_
        refine lv_ldc2 hx hb hown (hU _ w515) dX4_slotOf_15 ?_
        refine lv_lmul hx hb dX4_slotOf_18 (lv_topl (fun v23 e_v23 => ?_))
        refine lv_aload_n hx hb dX4_slotOf_19 rfl (lv_at hl 1 rfl) ?_
        refine lv_iload hx hb dX4_slotOf_20 (lv_at hl 3 rfl) ?_
        refine tz_lald hx hb hK hT 1 rfl (by omega) dX4_slotOf_22 (fun v24 e_v24 => ?_)
        clear e_v24
        refine lv_ladd hx hb dX4_slotOf_23 (lv_topl (fun v25 e_v25 => ?_))
        refine lv_lstore_n (lv' := [(2, .long v25), (0, .ref h0), (1, .ref h1), (4, .int y13)]) hx hb dX4_slotOf_24 rfl hl (by decide) rfl (fun ls hl => ?_)
        obtain ⟨v26, e_v26⟩ : ∃ x : Int32, x = y13 + Int32.ofInt 1 := ⟨_, rfl⟩
        have f_v26 := e_v26.symm
        have e_v26 : v26.toInt = y13.toInt + 1 := ai_add e_v26 rfl (show (Int32.ofInt 1).toInt = 1 from (by decide +kernel)) (by omega)
        refine lv_iinc (v := v26) (lv' := [(4, .int v26), (2, .long v25), (0, .ref h0), (1, .ref h1)]) hx hb dX4_slotOf_25 hl (k := 3) rfl f_v26 (by decide) rfl (fun ls hl => ?_)
        refine lv_goto (tgt := 5) hx hb dX4_slotOf_28 (by decide) ?_
        exact ih5_15 v26 v25 _ _ _ (by omega)  (by omega) hT hS (lv_sub hl [2, 3, 1, 0] rfl)
  exact lp5_15 ((h0f8.toInt + (-1) * (0 : Int32).toInt + 1).toNat + 1) (0) (0) _ _ _ (by have := li_0; have := ll_0; omega)  (Nat.lt_succ_self _) hT hS (lv_sub hl [2, 3, 1, 0] rfl)
abbrev Rm_cX4_isRow_59a07 : Room := { frames := 1, cells := 0, slots := 0, locals := 21 }
abbrev B_cX4_isRow_59a07 (D : va_G) (k : Nat → ClassId) (h0 h1 h2 h3 h4 h5 h6 h7 h8 : Nat) (x1 : Int32) (h0f8 : Int32) (h0f9 : Int32) (h0f10 : Int32) (h0f11 : Int32) (A : Nat → Prop) (r : Int32) (H : Heap) : Prop := (0 ≤ r.toInt ∧ r.toInt ≤ 1) ∧ TP D A [(h0, ob 3 [.ref h2, .ref h3, .ref h4, .ref h5, .ref h6, .ref h7, .ref h8, .ref h1, .int h0f8, .int h0f9, .int h0f10, .int h0f11]), (h1, aJ (k 1) 60 anJ), (h2, aJ (k 1) 900 anJ)] H
set_option maxHeartbeats 4000000 in
set_option maxRecDepth 100000 in
theorem cX4_isRow_59a07 (l : Launch) (D : va_G) (k : Nat → ClassId) (sz : Nat) (h0 h1 h2 h3 h4 h5 h6 h7 h8 : Nat) (x1 : Int32) (h0f8 : Int32) (h0f9 : Int32) (h0f10 : Int32) (h0f11 : Int32) (b_x1 : 0 ≤ x1.toInt ∧ x1.toInt ≤ 99) (b_h0f8 : 1 ≤ h0f8.toInt ∧ h0f8.toInt ≤ 9) (b_h0f9 : 100 ≤ h0f9.toInt ∧ h0f9.toInt ≤ 100) (b_h0f10 : 1 ≤ h0f10.toInt ∧ h0f10.toInt ≤ 100) (b_h0f11 : 0 ≤ h0f11.toInt ∧ h0f11.toInt ≤ 1) : Met l yX4_isRow (Cond.code yX4_isRow cX4_isRow 5 (some .boolean) :: uw) Rm_cX4_isRow_59a07 (pT D k sz [.ref h0, .int x1, .ref h1] [(h0, ob 3 [.ref h2, .ref h3, .ref h4, .ref h5, .ref h6, .ref h7, .ref h8, .ref h1, .int h0f8, .int h0f9, .int h0f10, .int h0f11]), (h1, aJ (k 1) 60 anJ), (h2, aJ (k 1) 900 anJ)]) (qI (B_cX4_isRow_59a07 D k h0 h1 h2 h3 h4 h5 h6 h7 h8 x1 h0f8 h0f9 h0f10 h0f11 (zA [h0, h1, h2] sz)) (zA [h0, h1, h2] sz)) 0 0 (zA [h0, h1, h2] sz) := by
  refine tz_begin (as := [h0, h1, h2]) (Qc := fun A => qI (B_cX4_isRow_59a07 D k h0 h1 h2 h3 h4 h5 h6 h7 h8 x1 h0f8 h0f9 h0f10 h0f11 A) A) (by decide +kernel) rfl (Nat.le_of_ble_eq_true rfl) ?_
  intro p e s m args below meth c ls A Q hx hb hr hml hown hlocks hin hU hK hT hS hA hl hQ
  have hl : lv_has ls 5 [(0, .ref h0), (1, .int x1), (2, .ref h1)] := hl
  have hT : TP D A [(h0, ob 3 [.ref h2, .ref h3, .ref h4, .ref h5, .ref h6, .ref h7, .ref h8, .ref h1, .int h0f8, .int h0f9, .int h0f10, .int h0f11]), (h1, aJ (k 1) 60 anJ), (h2, aJ (k 1) 900 anJ)] s.heap := hT
  refine lv_aload_n hx hb dX4_isRow_0 rfl (lv_at hl 0 rfl) ?_
  refine lv_iload_n hx hb dX4_isRow_1 rfl (lv_at hl 1 rfl) ?_
  refine tcI (Tc := [(h0, ob 3 [.ref h2, .ref h3, .ref h4, .ref h5, .ref h6, .ref h7, .ref h8, .ref h1, .int h0f8, .int h0f9, .int h0f10, .int h0f11])]) (Tr := [(h1, aJ (k 1) 60 anJ), (h2, aJ (k 1) 900 anJ)]) (as := [h0]) (zcV (q0 := 0) (ci := 3) (As := [.int x1]) (rest := []) (Tc := [(h0, ob 3 [.ref h2, .ref h3, .ref h4, .ref h5, .ref h6, .ref h7, .ref h8, .ref h1, .int h0f8, .int h0f9, .int h0f10, .int h0f11])]) hx hb hml hown hU hK hT rfl rfl [0] rfl (by decide) (cX4_start_d01b0 l D k _ h0 h2 h3 h4 h5 h6 h7 h8 h1 x1 h0f8 h0f9 h0f10 h0f11 (by omega) (by omega) (by omega) (by omega) (by omega)) w505 w502 w503 w504 w66 hdX4_start ⟨rfl, rfl⟩ ⟨Nat.le_of_ble_eq_true rfl, Nat.le_of_ble_eq_true rfl⟩ rfl hl.1 (Nat.le_of_ble_eq_true rfl) dX4_isRow_2 ⟨Nat.le_of_ble_eq_true rfl, Nat.le_of_ble_eq_true rfl⟩) hT hS hA [0] [1, 2] rfl rfl rfl (by decide) (by decide) (fun r1 H locs hB J hS => ?_)
  obtain ⟨b_r1, hT1⟩ := hB
  have hT := J _ hT1
  have hT : TP D A [(h1, aJ (k 1) 60 anJ), (h2, aJ (k 1) 900 anJ), (h0, ob 3 [.ref h2, .ref h3, .ref h4, .ref h5, .ref h6, .ref h7, .ref h8, .ref h1, .int h0f8, .int h0f9, .int h0f10, .int h0f11])] _ := hT
  refine lv_istore_n (lv' := [(3, .int r1), (0, .ref h0), (1, .int x1), (2, .ref h1)]) hx hb dX4_isRow_5 rfl hl (by decide) rfl (fun ls hl => ?_)
  refine lv_iconst (v := 0) hx hb dX4_isRow_6 (by decide) ?_
  refine lv_istore (lv' := [(4, .int 0), (3, .int r1), (0, .ref h0), (1, .int x1), (2, .ref h1)]) hx hb dX4_isRow_7 hl (by decide) rfl (fun ls hl => ?_)
  have lp9_9 : ∀ (n : Nat) (y8 : Int32) (H : Heap) (locs : List Loc) (ls : Array Slot), (0 ≤ y8.toInt ∧ y8.toInt ≤ 9) → (h0f8.toInt + (-1) * y8.toInt + 1).toNat < n → TP D A [(h1, aJ (k 1) 60 anJ), (h2, aJ (k 1) 900 anJ), (h0, ob 3 [.ref h2, .ref h3, .ref h4, .ref h5, .ref h6, .ref h7, .ref h8, .ref h1, .int h0f8, .int h0f9, .int h0f10, .int h0f11])] H → va_S A s.heap H locs → lv_has ls 5 [(0, .ref h0), (2, .ref h1), (3, .int r1), (4, .int y8)] → W p l e Rm_cX4_isRow_59a07 s m args below meth c H locs 0 0 Q (F0 m 9 ls []) := by
    intro n
    induction n with
    | zero => intro y8 H locs ls b_y8 hm hT hS hl; exact absurd hm (Nat.not_lt_zero _)
    | succ n ih =>
      intro y8 H locs ls b_y8 hm hT hS hl
      have ih9_9 := ih
      clear ih
      refine lv_iload hx hb dX4_isRow_9 (lv_at hl 3 rfl) ?_
      refine lv_aload_n hx hb dX4_isRow_11 rfl (lv_at hl 0 rfl) ?_
      refine tz_get (ci := 3) (v := .int h0f8) (C := RX4) (F := TX4) (N := 12) hx hb hU iX4 hown hK hT 2 rfl rfl 8 (by decide) w162 (fun _ h9 => h9) rfl dX4_isRow_12 ?_
      refine lv_icmp_ge (tgt := 43) hx hb dX4_isRow_15 (by decide) (fun c_10 => ?_) (fun c_10 => ?_)
      · skip
        have c_10 := ni_le c_10 rfl rfl
        refine lv_iconst (v := 1) hx hb dX4_isRow_43 (by decide) ?_
        exact tz_retZ (B := B_cX4_isRow_59a07 D k h0 h1 h2 h3 h4 h5 h6 h7 h8 x1 h0f8 h0f9 h0f10 h0f11) (v := 1) hQ hx hb hr hlocks hS (Nat.le_of_ble_eq_true rfl) (Nat.le_of_ble_eq_true rfl) dX4_isRow_44 (by have := li_1; omega) (⟨(by have := li_1; omega), (hT.sub [2, 0, 1] (by decide) rfl)⟩)
      · skip
        have c_10 := ni_nle c_10 rfl rfl
        refine lv_aload_n hx hb dX4_isRow_18 rfl (lv_at hl 0 rfl) ?_
        refine tz_get (ci := 3) (v := .ref h2) (C := RX4) (F := TX4) (N := 12) hx hb hU iX4 hown hK hT 2 rfl rfl 0 (by decide) w149 (fun _ h9 => h9) rfl dX4_isRow_19 ?_
        refine lv_iload_n hx hb dX4_isRow_22 rfl (lv_at hl 2 rfl) ?_
        refine lv_iload hx hb dX4_isRow_23 (lv_at hl 3 rfl) ?_
        refine lv_iadd hx hb dX4_isRow_25 (lv_topi (fun v11 e_v11 => ?_))
        have e_v11 := ai_add e_v11 rfl rfl (by omega)
        refine tz_lald hx hb hK hT 1 rfl (by omega) dX4_isRow_26 (fun v12 e_v12 => ?_)
        clear e_v12
        refine lv_aload_n hx hb dX4_isRow_27 rfl (lv_at hl 1 rfl) ?_
        refine lv_iload hx hb dX4_isRow_28 (lv_at hl 3 rfl) ?_
        refine tz_lald hx hb hK hT 0 rfl (by omega) dX4_isRow_30 (fun v13 e_v13 => ?_)
        clear e_v13
        refine W.lcmp hx hb dX4_isRow_31 ?_
        refine lv_if_eq (tgt := 37) hx hb dX4_isRow_32 (by decide) (fun c_14 => ?_) (fun c_14 => ?_)
        · skip
          have c_14 := nl_eq c_14 rfl rfl
          obtain ⟨v15, e_v15⟩ : ∃ x : Int32, x = y8 + Int32.ofInt 1 := ⟨_, rfl⟩
          have f_v15 := e_v15.symm
          have e_v15 : v15.toInt = y8.toInt + 1 := ai_add e_v15 rfl (show (Int32.ofInt 1).toInt = 1 from (by decide +kernel)) (by omega)
          refine lv_iinc (v := v15) (lv' := [(4, .int v15), (0, .ref h0), (2, .ref h1), (3, .int r1)]) hx hb dX4_isRow_37 hl (k := 3) rfl f_v15 (by decide) rfl (fun ls hl => ?_)
          refine lv_goto (tgt := 9) hx hb dX4_isRow_40 (by decide) ?_
          exact ih9_9 v15 _ _ _ (by omega)  (by omega) hT hS (lv_sub hl [1, 2, 3, 0] rfl)
        · skip
          have c_14 := nl_ne c_14 rfl rfl
          refine lv_iconst (v := 0) hx hb dX4_isRow_35 (by decide) ?_
          exact tz_retZ (B := B_cX4_isRow_59a07 D k h0 h1 h2 h3 h4 h5 h6 h7 h8 x1 h0f8 h0f9 h0f10 h0f11) (v := 0) hQ hx hb hr hlocks hS (Nat.le_of_ble_eq_true rfl) (Nat.le_of_ble_eq_true rfl) dX4_isRow_36 (by have := li_0; omega) (⟨(by have := li_0; omega), (hT.sub [2, 0, 1] (by decide) rfl)⟩)
  exact lp9_9 ((h0f8.toInt + (-1) * (0 : Int32).toInt + 1).toNat + 1) (0) _ _ _ (by have := li_0; omega)  (Nat.lt_succ_self _) hT hS (lv_sub hl [2, 4, 1, 0] rfl)
abbrev Rm_cX4_search_cb6d9 : Room := { frames := 2, cells := 0, slots := 0, locals := 45 }
abbrev B_cX4_search_cb6d9 (D : va_G) (k : Nat → ClassId) (h0 h1 h2 h7 h8 h3 h4 h5 h6 : Nat) (h0f8 : Int32) (h0f9 : Int32) (h0f10 : Int32) (h0f11 : Int32) (A : Nat → Prop) (r : Int32) (H : Heap) : Prop := ((-1) ≤ r.toInt ∧ r.toInt ≤ 99) ∧ TP D A [(h0, ob 3 [.ref h2, .ref h3, .ref h4, .ref h5, .ref h6, .ref h7, .ref h8, .ref h1, .int h0f8, .int h0f9, .int h0f10, .int h0f11]), (h1, aJ (k 1) 60 anJ), (h2, aJ (k 1) 900 anJ), (h7, aI (k 0) 256 (rgI (-1) 99)), (h8, aI (k 0) 100 (rgI (-1) 99))] H
set_option maxHeartbeats 4000000 in
set_option maxRecDepth 100000 in
theorem cX4_search_cb6d9 (l : Launch) (D : va_G) (k : Nat → ClassId) (sz : Nat) (h0 h1 h2 h7 h8 h3 h4 h5 h6 : Nat) (h0f8 : Int32) (h0f9 : Int32) (h0f10 : Int32) (h0f11 : Int32) (b_h0f8 : 1 ≤ h0f8.toInt ∧ h0f8.toInt ≤ 9) (b_h0f9 : 100 ≤ h0f9.toInt ∧ h0f9.toInt ≤ 100) (b_h0f10 : 1 ≤ h0f10.toInt ∧ h0f10.toInt ≤ 100) (b_h0f11 : 0 ≤ h0f11.toInt ∧ h0f11.toInt ≤ 1) : Met l yX4_search (Cond.code yX4_search cX4_search 4 (some .int) :: uw) Rm_cX4_search_cb6d9 (pT D k sz [.ref h0, .ref h1] [(h0, ob 3 [.ref h2, .ref h3, .ref h4, .ref h5, .ref h6, .ref h7, .ref h8, .ref h1, .int h0f8, .int h0f9, .int h0f10, .int h0f11]), (h1, aJ (k 1) 60 anJ), (h2, aJ (k 1) 900 anJ), (h7, aI (k 0) 256 (rgI (-1) 99)), (h8, aI (k 0) 100 (rgI (-1) 99))]) (qI (B_cX4_search_cb6d9 D k h0 h1 h2 h7 h8 h3 h4 h5 h6 h0f8 h0f9 h0f10 h0f11 (zA [h0, h1, h2, h7, h8] sz)) (zA [h0, h1, h2, h7, h8] sz)) 0 0 (zA [h0, h1, h2, h7, h8] sz) := by
  refine tz_begin (as := [h0, h1, h2, h7, h8]) (Qc := fun A => qI (B_cX4_search_cb6d9 D k h0 h1 h2 h7 h8 h3 h4 h5 h6 h0f8 h0f9 h0f10 h0f11 A) A) (by decide +kernel) rfl (Nat.le_of_ble_eq_true rfl) ?_
  intro p e s m args below meth c ls A Q hx hb hr hml hown hlocks hin hU hK hT hS hA hl hQ
  have hl : lv_has ls 4 [(0, .ref h0), (1, .ref h1)] := hl
  have hT : TP D A [(h0, ob 3 [.ref h2, .ref h3, .ref h4, .ref h5, .ref h6, .ref h7, .ref h8, .ref h1, .int h0f8, .int h0f9, .int h0f10, .int h0f11]), (h1, aJ (k 1) 60 anJ), (h2, aJ (k 1) 900 anJ), (h7, aI (k 0) 256 (rgI (-1) 99)), (h8, aI (k 0) 100 (rgI (-1) 99))] s.heap := hT
  refine lv_aload_n hx hb dX4_search_0 rfl (lv_at hl 0 rfl) ?_
  refine tz_get (ci := 3) (v := .ref h7) (C := RX4) (F := TX4) (N := 12) hx hb hU iX4 hown hK hT 0 rfl rfl 5 (by decide) w159 (fun _ h9 => h9) rfl dX4_search_1 ?_
  refine lv_aload_n hx hb dX4_search_4 rfl (lv_at hl 0 rfl) ?_
  refine lv_aload_n hx hb dX4_search_5 rfl (lv_at hl 1 rfl) ?_
  refine tcI (Tc := [(h0, ob 3 [.ref h2, .ref h3, .ref h4, .ref h5, .ref h6, .ref h7, .ref h8, .ref h1, .int h0f8, .int h0f9, .int h0f10, .int h0f11]), (h1, aJ (k 1) 60 anJ), (h7, aI (k 0) 256 (rgI (-1) 99))]) (Tr := [(h2, aJ (k 1) 900 anJ), (h8, aI (k 0) 100 (rgI (-1) 99))]) (as := [h0, h1, h7]) (zcV (q0 := 0) (ci := 3) (As := [.ref h1]) (rest := [.ref h7]) (Tc := [(h0, ob 3 [.ref h2, .ref h3, .ref h4, .ref h5, .ref h6, .ref h7, .ref h8, .ref h1, .int h0f8, .int h0f9, .int h0f10, .int h0f11]), (h1, aJ (k 1) 60 anJ), (h7, aI (k 0) 256 (rgI (-1) 99))]) hx hb hml hown hU hK hT rfl rfl [0, 1, 3] rfl (by decide) (cX4_slotOf_33b21 l D k _ h0 h1 h7 h2 h3 h4 h5 h6 h8 h0f8 h0f9 h0f10 h0f11 (by omega) (by omega) (by omega) (by omega)) w514 w511 w513 w11 w66 hdX4_slotOf ⟨rfl, rfl⟩ ⟨Nat.le_of_ble_eq_true rfl, Nat.le_of_ble_eq_true rfl⟩ rfl hl.1 (Nat.le_of_ble_eq_true rfl) dX4_search_6 ⟨Nat.le_of_ble_eq_true rfl, Nat.le_of_ble_eq_true rfl⟩) hT hS hA [0, 1, 3] [2, 4] rfl rfl rfl (by decide) (by decide) (fun r1 H locs hB J hS => ?_)
  obtain ⟨b_r1, hT1⟩ := hB
  have hT := J _ hT1
  have hT : TP D A [(h2, aJ (k 1) 900 anJ), (h8, aI (k 0) 100 (rgI (-1) 99)), (h0, ob 3 [.ref h2, .ref h3, .ref h4, .ref h5, .ref h6, .ref h7, .ref h8, .ref h1, .int h0f8, .int h0f9, .int h0f10, .int h0f11]), (h1, aJ (k 1) 60 anJ), (h7, aI (k 0) 256 (rgI (-1) 99))] _ := hT
  refine tz_iald hx hb hK hT 4 rfl (by omega) dX4_search_9 (fun v2 e_v2 => ?_)
  have e_v2 := rg_get e_v2
  refine lv_istore_n (lv' := [(2, .int v2), (0, .ref h0), (1, .ref h1)]) hx hb dX4_search_10 rfl hl (by decide) rfl (fun ls hl => ?_)
  refine lv_iconst (v := 0) hx hb dX4_search_11 (by decide) ?_
  refine lv_istore_n (lv' := [(3, .int 0), (2, .int v2), (0, .ref h0), (1, .ref h1)]) hx hb dX4_search_12 rfl hl (by decide) rfl (fun ls hl => ?_)
  have lp13_29 : ∀ (n : Nat) (y27 : Int32) (y28 : Int32) (H : Heap) (locs : List Loc) (ls : Array Slot), (0 ≤ y27.toInt ∧ y27.toInt ≤ 100) → ((-1) ≤ y28.toInt ∧ y28.toInt ≤ 99) → (h0f10.toInt + (-1) * y27.toInt + 1).toNat < n → TP D A [(h2, aJ (k 1) 900 anJ), (h8, aI (k 0) 100 (rgI (-1) 99)), (h0, ob 3 [.ref h2, .ref h3, .ref h4, .ref h5, .ref h6, .ref h7, .ref h8, .ref h1, .int h0f8, .int h0f9, .int h0f10, .int h0f11]), (h1, aJ (k 1) 60 anJ), (h7, aI (k 0) 256 (rgI (-1) 99))] H → va_S A s.heap H locs → lv_has ls 4 [(0, .ref h0), (1, .ref h1), (2, .int y28), (3, .int y27)] → W p l e Rm_cX4_search_cb6d9 s m args below meth c H locs 0 0 Q (F0 m 13 ls []) := by
    intro n
    induction n with
    | zero => intro y27 y28 H locs ls b_y27 b_y28 hm hT hS hl; exact absurd hm (Nat.not_lt_zero _)
    | succ n ih =>
      intro y27 y28 H locs ls b_y27 b_y28 hm hT hS hl
      have ih13_29 := ih
      clear ih
      refine lv_iload_n hx hb dX4_search_13 rfl (lv_at hl 3 rfl) ?_
      refine lv_aload_n hx hb dX4_search_14 rfl (lv_at hl 0 rfl) ?_
      refine tz_get (ci := 3) (v := .int h0f10) (C := RX4) (F := TX4) (N := 12) hx hb hU iX4 hown hK hT 2 rfl rfl 10 (by decide) w164 (fun _ h9 => h9) rfl dX4_search_15 ?_
      refine lv_icmp_ge (tgt := 49) hx hb dX4_search_18 (by decide) (fun c_30 => ?_) (fun c_30 => ?_)
      · skip
        have c_30 := ni_le c_30 rfl rfl
        refine lv_iconst (v := (-1)) hx hb dX4_search_49 (by decide) ?_
        exact tz_retI (B := B_cX4_search_cb6d9 D k h0 h1 h2 h7 h8 h3 h4 h5 h6 h0f8 h0f9 h0f10 h0f11) (v := (-1)) hQ hx hb hr hlocks hS (Nat.le_of_ble_eq_true rfl) (Nat.le_of_ble_eq_true rfl) dX4_search_50 (⟨(by have := li_m1; omega), (hT.sub [2, 3, 0, 4, 1] (by decide) rfl)⟩)
      · skip
        have c_30 := ni_nle c_30 rfl rfl
        refine lv_iload_n hx hb dX4_search_21 rfl (lv_at hl 2 rfl) ?_
        refine lv_if_lt (tgt := 49) hx hb dX4_search_22 (by decide) (fun c_31 => ?_) (fun c_31 => ?_)
        · skip
          have c_31 := ni_lt c_31 rfl li_0
          refine lv_iconst (v := (-1)) hx hb dX4_search_49 (by decide) ?_
          exact tz_retI (B := B_cX4_search_cb6d9 D k h0 h1 h2 h7 h8 h3 h4 h5 h6 h0f8 h0f9 h0f10 h0f11) (v := (-1)) hQ hx hb hr hlocks hS (Nat.le_of_ble_eq_true rfl) (Nat.le_of_ble_eq_true rfl) dX4_search_50 (⟨(by have := li_m1; omega), (hT.sub [2, 3, 0, 4, 1] (by decide) rfl)⟩)
        · skip
          have c_31 := ni_nlt c_31 rfl li_0
          refine lv_aload_n hx hb dX4_search_25 rfl (lv_at hl 0 rfl) ?_
          refine lv_iload_n hx hb dX4_search_26 rfl (lv_at hl 2 rfl) ?_
          refine lv_aload_n hx hb dX4_search_27 rfl (lv_at hl 1 rfl) ?_
          refine tcI (Tc := [(h0, ob 3 [.ref h2, .ref h3, .ref h4, .ref h5, .ref h6, .ref h7, .ref h8, .ref h1, .int h0f8, .int h0f9, .int h0f10, .int h0f11]), (h1, aJ (k 1) 60 anJ), (h2, aJ (k 1) 900 anJ)]) (Tr := [(h8, aI (k 0) 100 (rgI (-1) 99)), (h7, aI (k 0) 256 (rgI (-1) 99))]) (as := [h0, h1, h2]) (zcV (q0 := 2) (ci := 3) (As := [.int y28, .ref h1]) (rest := []) (Tc := [(h0, ob 3 [.ref h2, .ref h3, .ref h4, .ref h5, .ref h6, .ref h7, .ref h8, .ref h1, .int h0f8, .int h0f9, .int h0f10, .int h0f11]), (h1, aJ (k 1) 60 anJ), (h2, aJ (k 1) 900 anJ)]) hx hb hml hown hU hK hT rfl rfl [2, 3, 0] rfl (by decide) (cX4_isRow_59a07 l D k _ h0 h1 h2 h3 h4 h5 h6 h7 h8 y28 h0f8 h0f9 h0f10 h0f11 (by omega) (by omega) (by omega) (by omega) (by omega)) w559 w556 w558 w13 w66 hdX4_isRow ⟨rfl, rfl⟩ ⟨Nat.le_of_ble_eq_true rfl, Nat.le_of_ble_eq_true rfl⟩ rfl hl.1 (Nat.le_of_ble_eq_true rfl) dX4_search_28 ⟨Nat.le_of_ble_eq_true rfl, Nat.le_of_ble_eq_true rfl⟩) hT hS hA [2, 3, 0] [1, 4] rfl rfl rfl (by decide) (by decide) (fun r32 H locs hB J hS => ?_)
          obtain ⟨b_r32, hT1⟩ := hB
          have hT := J _ hT1
          have hT : TP D A [(h8, aI (k 0) 100 (rgI (-1) 99)), (h7, aI (k 0) 256 (rgI (-1) 99)), (h0, ob 3 [.ref h2, .ref h3, .ref h4, .ref h5, .ref h6, .ref h7, .ref h8, .ref h1, .int h0f8, .int h0f9, .int h0f10, .int h0f11]), (h1, aJ (k 1) 60 anJ), (h2, aJ (k 1) 900 anJ)] _ := hT
          refine lv_if_eq (tgt := 36) hx hb dX4_search_31 (by decide) (fun c_33 => ?_) (fun c_33 => ?_)
          · skip
            have c_33 := ni_eq c_33 rfl li_0
            refine lv_aload_n hx hb dX4_search_36 rfl (lv_at hl 0 rfl) ?_
            refine tz_get (ci := 3) (v := .ref h8) (C := RX4) (F := TX4) (N := 12) hx hb hU iX4 hown hK hT 2 rfl rfl 6 (by decide) w160 (fun _ h9 => h9) rfl dX4_search_37 ?_
            refine lv_iload_n hx hb dX4_search_40 rfl (lv_at hl 2 rfl) ?_
            refine tz_iald hx hb hK hT 0 rfl (by omega) dX4_search_41 (fun v34 e_v34 => ?_)
            have e_v34 := rg_get e_v34
            refine lv_istore_n (lv' := [(2, .int v34), (0, .ref h0), (1, .ref h1), (3, .int y27)]) hx hb dX4_search_42 rfl hl (by decide) rfl (fun ls hl => ?_)
            obtain ⟨v35, e_v35⟩ : ∃ x : Int32, x = y27 + Int32.ofInt 1 := ⟨_, rfl⟩
            have f_v35 := e_v35.symm
            have e_v35 : v35.toInt = y27.toInt + 1 := ai_add e_v35 rfl (show (Int32.ofInt 1).toInt = 1 from (by decide +kernel)) (by omega)
            refine lv_iinc (v := v35) (lv' := [(3, .int v35), (2, .int v34), (0, .ref h0), (1, .ref h1)]) hx hb dX4_search_43 hl (k := 3) rfl f_v35 (by decide) rfl (fun ls hl => ?_)
            refine lv_goto (tgt := 13) hx hb dX4_search_46 (by decide) ?_
            exact ih13_29 v35 v34 _ _ _ (by omega) (by omega)  (by omega) (hT.sub [4, 0, 2, 3, 1] (by decide) rfl) hS (lv_sub hl [2, 3, 1, 0] rfl)
          · skip
            have c_33 := ni_ne c_33 rfl li_0
            refine lv_iload_n hx hb dX4_search_34 rfl (lv_at hl 2 rfl) ?_
            exact tz_retI (B := B_cX4_search_cb6d9 D k h0 h1 h2 h7 h8 h3 h4 h5 h6 h0f8 h0f9 h0f10 h0f11) (v := y28) hQ hx hb hr hlocks hS (Nat.le_of_ble_eq_true rfl) (Nat.le_of_ble_eq_true rfl) dX4_search_35 (⟨(by omega), (hT.sub [2, 3, 4, 1, 0] (by decide) rfl)⟩)
  exact lp13_29 ((h0f10.toInt + (-1) * (0 : Int32).toInt + 1).toNat + 1) (0) v2 _ _ _ (by have := li_0; omega) (by have := li_0; omega)  (Nat.lt_succ_self _) hT hS (lv_sub hl [2, 3, 1, 0] rfl)
abbrev Rm_cX4_append_38a94 : Room := { frames := 1, cells := 0, slots := 0, locals := 26 }
abbrev B_cX4_append_38a94 (D : va_G) (k : Nat → ClassId) (h0 h1 h2 h3 h4 h5 h7 h8 h6 : Nat) (x2 : Int32) (x3 : Int32) (h0f8 : Int32) (h0f9 : Int32) (h0f10 : Int32) (h0f11 : Int32) (A : Nat → Prop) (r : Int32) (H : Heap) : Prop := ∃ o0 : Int32, (2 ≤ o0.toInt ∧ o0.toInt ≤ 100) ∧ ((-1) ≤ r.toInt ∧ r.toInt ≤ 99) ∧ TP D A [(h0, ob 3 [.ref h2, .ref h3, .ref h4, .ref h5, .ref h6, .ref h7, .ref h8, .ref h1, .int h0f8, .int h0f9, .int o0, .int h0f11]), (h1, aJ (k 1) 60 anJ), (h2, aJ (k 1) 900 anJ), (h3, aI (k 0) 100 anI), (h4, aI (k 0) 100 anI), (h5, aI (k 0) 100 anI), (h7, aI (k 0) 256 (rgI (-1) 99)), (h8, aI (k 0) 100 (rgI (-1) 99))] H
set_option maxHeartbeats 4000000 in
set_option maxRecDepth 100000 in
theorem cX4_append_38a94 (l : Launch) (D : va_G) (k : Nat → ClassId) (sz : Nat) (h0 h1 h2 h3 h4 h5 h7 h8 h6 : Nat) (x2 : Int32) (x3 : Int32) (h0f8 : Int32) (h0f9 : Int32) (h0f10 : Int32) (h0f11 : Int32) (b_x2 : 0 ≤ x2.toInt ∧ x2.toInt ≤ 99) (b_x3 : 0 ≤ x3.toInt ∧ x3.toInt ≤ 3) (b_h0f8 : 1 ≤ h0f8.toInt ∧ h0f8.toInt ≤ 9) (b_h0f9 : 100 ≤ h0f9.toInt ∧ h0f9.toInt ≤ 100) (b_h0f10 : 1 ≤ h0f10.toInt ∧ h0f10.toInt ≤ 100) (b_h0f11 : 0 ≤ h0f11.toInt ∧ h0f11.toInt ≤ 1) : Met l yX4_append (Cond.code yX4_append cX4_append 6 (some .int) :: uw) Rm_cX4_append_38a94 (pT D k sz [.ref h0, .ref h1, .int x2, .int x3] [(h0, ob 3 [.ref h2, .ref h3, .ref h4, .ref h5, .ref h6, .ref h7, .ref h8, .ref h1, .int h0f8, .int h0f9, .int h0f10, .int h0f11]), (h1, aJ (k 1) 60 anJ), (h2, aJ (k 1) 900 anJ), (h3, aI (k 0) 100 anI), (h4, aI (k 0) 100 anI), (h5, aI (k 0) 100 anI), (h7, aI (k 0) 256 (rgI (-1) 99)), (h8, aI (k 0) 100 (rgI (-1) 99))]) (qI (B_cX4_append_38a94 D k h0 h1 h2 h3 h4 h5 h7 h8 h6 x2 x3 h0f8 h0f9 h0f10 h0f11 (zA [h0, h1, h2, h3, h4, h5, h7, h8] sz)) (zA [h0, h1, h2, h3, h4, h5, h7, h8] sz)) 0 0 (zA [h0, h1, h2, h3, h4, h5, h7, h8] sz) := by
  refine tz_begin (as := [h0, h1, h2, h3, h4, h5, h7, h8]) (Qc := fun A => qI (B_cX4_append_38a94 D k h0 h1 h2 h3 h4 h5 h7 h8 h6 x2 x3 h0f8 h0f9 h0f10 h0f11 A) A) (by decide +kernel) rfl (Nat.le_of_ble_eq_true rfl) ?_
  intro p e s m args below meth c ls A Q hx hb hr hml hown hlocks hin hU hK hT hS hA hl hQ
  have hl : lv_has ls 6 [(0, .ref h0), (1, .ref h1), (2, .int x2), (3, .int x3)] := hl
  have hT : TP D A [(h0, ob 3 [.ref h2, .ref h3, .ref h4, .ref h5, .ref h6, .ref h7, .ref h8, .ref h1, .int h0f8, .int h0f9, .int h0f10, .int h0f11]), (h1, aJ (k 1) 60 anJ), (h2, aJ (k 1) 900 anJ), (h3, aI (k 0) 100 anI), (h4, aI (k 0) 100 anI), (h5, aI (k 0) 100 anI), (h7, aI (k 0) 256 (rgI (-1) 99)), (h8, aI (k 0) 100 (rgI (-1) 99))] s.heap := hT
  refine lv_aload_n hx hb dX4_append_0 rfl (lv_at hl 0 rfl) ?_
  refine tz_get (ci := 3) (v := .int h0f10) (C := RX4) (F := TX4) (N := 12) hx hb hU iX4 hown hK hT 0 rfl rfl 10 (by decide) w164 (fun _ h9 => h9) rfl dX4_append_1 ?_
  refine lv_aload_n hx hb dX4_append_4 rfl (lv_at hl 0 rfl) ?_
  refine tz_get (ci := 3) (v := .int h0f9) (C := RX4) (F := TX4) (N := 12) hx hb hU iX4 hown hK hT 0 rfl rfl 9 (by decide) w163 (fun _ h9 => h9) rfl dX4_append_5 ?_
  refine lv_icmp_lt (tgt := 13) hx hb dX4_append_8 (by decide) (fun c_1 => ?_) (fun c_1 => ?_)
  · skip
    have c_1 := ni_lt c_1 rfl rfl
    refine lv_aload_n hx hb dX4_append_13 rfl (lv_at hl 0 rfl) ?_
    refine tz_get (ci := 3) (v := .int h0f10) (C := RX4) (F := TX4) (N := 12) hx hb hU iX4 hown hK hT 0 rfl rfl 10 (by decide) w164 (fun _ h9 => h9) rfl dX4_append_14 ?_
    refine lv_istore (lv' := [(4, .int h0f10), (0, .ref h0), (1, .ref h1), (2, .int x2), (3, .int x3)]) hx hb dX4_append_17 hl (by decide) rfl (fun ls hl => ?_)
    refine lv_aload_n hx hb dX4_append_19 rfl (lv_at hl 2 rfl) ?_
    refine lv_iconst (v := 0) hx hb dX4_append_20 (by decide) ?_
    refine lv_aload_n hx hb dX4_append_21 rfl (lv_at hl 1 rfl) ?_
    refine tz_get (ci := 3) (v := .ref h2) (C := RX4) (F := TX4) (N := 12) hx hb hU iX4 hown hK hT 0 rfl rfl 0 (by decide) w149 (fun _ h9 => h9) rfl dX4_append_22 ?_
    refine lv_aload_n hx hb dX4_append_25 rfl (lv_at hl 1 rfl) ?_
    refine lv_iload hx hb dX4_append_26 (lv_at hl 0 rfl) ?_
    refine tcI (Tc := [(h0, ob 3 [.ref h2, .ref h3, .ref h4, .ref h5, .ref h6, .ref h7, .ref h8, .ref h1, .int h0f8, .int h0f9, .int h0f10, .int h0f11])]) (Tr := [(h1, aJ (k 1) 60 anJ), (h2, aJ (k 1) 900 anJ), (h3, aI (k 0) 100 anI), (h4, aI (k 0) 100 anI), (h5, aI (k 0) 100 anI), (h7, aI (k 0) 256 (rgI (-1) 99)), (h8, aI (k 0) 100 (rgI (-1) 99))]) (as := [h0]) (zcV (q0 := 0) (ci := 3) (As := [.int h0f10]) (rest := [.ref h2, .int 0, .ref h1]) (Tc := [(h0, ob 3 [.ref h2, .ref h3, .ref h4, .ref h5, .ref h6, .ref h7, .ref h8, .ref h1, .int h0f8, .int h0f9, .int h0f10, .int h0f11])]) hx hb hml hown hU hK hT rfl rfl [0] rfl (by decide) (cX4_start_d01b0 l D k _ h0 h2 h3 h4 h5 h6 h7 h8 h1 h0f10 h0f8 h0f9 h0f10 h0f11 (by omega) (by omega) (by omega) (by omega) (by omega)) w505 w502 w503 w504 w66 hdX4_start ⟨rfl, rfl⟩ ⟨Nat.le_of_ble_eq_true rfl, Nat.le_of_ble_eq_true rfl⟩ rfl hl.1 (Nat.le_of_ble_eq_true rfl) dX4_append_28 ⟨Nat.le_of_ble_eq_true rfl, Nat.le_of_ble_eq_true rfl⟩) hT hS hA [0] [1, 2, 3, 4, 5, 6, 7] rfl rfl rfl (by decide) (by decide) (fun r2 H locs hB J hS => ?_)
    obtain ⟨b_r2, hT1⟩ := hB
    have hT := J _ hT1
    have hT : TP D A [(h1, aJ (k 1) 60 anJ), (h2, aJ (k 1) 900 anJ), (h3, aI (k 0) 100 anI), (h4, aI (k 0) 100 anI), (h5, aI (k 0) 100 anI), (h7, aI (k 0) 256 (rgI (-1) 99)), (h8, aI (k 0) 100 (rgI (-1) 99)), (h0, ob 3 [.ref h2, .ref h3, .ref h4, .ref h5, .ref h6, .ref h7, .ref h8, .ref h1, .int h0f8, .int h0f9, .int h0f10, .int h0f11])] _ := hT
    refine lv_aload_n hx hb dX4_append_31 rfl (lv_at hl 1 rfl) ?_
    refine tz_get (ci := 3) (v := .int h0f8) (C := RX4) (F := TX4) (N := 12) hx hb hU iX4 hown hK hT 7 rfl rfl 8 (by decide) w162 (fun _ h9 => h9) rfl dX4_append_32 ?_
    refine tz_copyl hx hb (by rw [hml]; exact hl.1.symm) hown hU w506 w348 w347 w75 hK hT hS 0 1 rfl rfl (by have := li_0; omega) (fun _ _ _ _ => trivial) (Nat.le_of_ble_eq_true rfl) (Nat.le_of_ble_eq_true rfl) dX4_append_35 (fun H locs hT hS => ?_)
    refine lv_aload_n hx hb dX4_append_38 rfl (lv_at hl 1 rfl) ?_
    refine tz_get (ci := 3) (v := .ref h3) (C := RX4) (F := TX4) (N := 12) hx hb hU iX4 hown hK hT 7 rfl rfl 1 (by decide) w151 (fun _ h9 => h9) rfl dX4_append_39 ?_
    refine lv_iload hx hb dX4_append_42 (lv_at hl 0 rfl) ?_
    refine lv_iload_n hx hb dX4_append_44 rfl (lv_at hl 3 rfl) ?_
    refine tz_iast hx hb hK hT hS 2 rfl (by omega) (fun _ _ => trivial) dX4_append_45 (fun H locs hT hS => ?_)
    refine lv_aload_n hx hb dX4_append_46 rfl (lv_at hl 1 rfl) ?_
    refine tz_get (ci := 3) (v := .ref h4) (C := RX4) (F := TX4) (N := 12) hx hb hU iX4 hown hK hT 7 rfl rfl 2 (by decide) w153 (fun _ h9 => h9) rfl dX4_append_47 ?_
    refine lv_iload hx hb dX4_append_50 (lv_at hl 0 rfl) ?_
    refine lv_iload_n hx hb dX4_append_52 rfl (lv_at hl 4 rfl) ?_
    refine tz_iast hx hb hK hT hS 3 rfl (by omega) (fun _ _ => trivial) dX4_append_53 (fun H locs hT hS => ?_)
    refine lv_aload_n hx hb dX4_append_54 rfl (lv_at hl 1 rfl) ?_
    refine tz_get (ci := 3) (v := .ref h5) (C := RX4) (F := TX4) (N := 12) hx hb hU iX4 hown hK hT 7 rfl rfl 3 (by decide) w155 (fun _ h9 => h9) rfl dX4_append_55 ?_
    refine lv_iload hx hb dX4_append_58 (lv_at hl 0 rfl) ?_
    refine lv_aload_n hx hb dX4_append_60 rfl (lv_at hl 1 rfl) ?_
    refine lv_iload_n hx hb dX4_append_61 rfl (lv_at hl 3 rfl) ?_
    refine tcI (Tc := [(h0, ob 3 [.ref h2, .ref h3, .ref h4, .ref h5, .ref h6, .ref h7, .ref h8, .ref h1, .int h0f8, .int h0f9, .int h0f10, .int h0f11])]) (Tr := [(h1, aJ (k 1) 60 anJ), (h2, aJ (k 1) 900 anJ), (h3, aI (k 0) 100 anI), (h4, aI (k 0) 100 anI), (h5, aI (k 0) 100 anI), (h7, aI (k 0) 256 (rgI (-1) 99)), (h8, aI (k 0) 100 (rgI (-1) 99))]) (as := [h0]) (zcV (q0 := 7) (ci := 3) (As := [.int x2]) (rest := [.int h0f10, .ref h5]) (Tc := [(h0, ob 3 [.ref h2, .ref h3, .ref h4, .ref h5, .ref h6, .ref h7, .ref h8, .ref h1, .int h0f8, .int h0f9, .int h0f10, .int h0f11])]) hx hb hml hown hU hK hT rfl rfl [7] rfl (by decide) (cX4_has_a7dbf l D k _ h0 h2 h3 h4 h5 h6 h7 h8 h1 x2 h0f8 h0f9 h0f10 h0f11 (by omega) (by omega) (by omega) (by omega)) w510 w507 w508 w509 w66 hdX4_has ⟨rfl, rfl⟩ ⟨Nat.le_of_ble_eq_true rfl, Nat.le_of_ble_eq_true rfl⟩ rfl hl.1 (Nat.le_of_ble_eq_true rfl) dX4_append_62 ⟨Nat.le_of_ble_eq_true rfl, Nat.le_of_ble_eq_true rfl⟩) hT hS hA [7] [0, 1, 2, 3, 4, 5, 6] rfl rfl rfl (by decide) (by decide) (fun r3 H locs hB J hS => ?_)
    rcases hB with ⟨rfl, hT1⟩ | ⟨c_4, c_5, rfl, hT1⟩
    · skip
      have hT := J _ hT1
      have hT : TP D A [(h1, aJ (k 1) 60 anJ), (h2, aJ (k 1) 900 anJ), (h3, aI (k 0) 100 anI), (h4, aI (k 0) 100 anI), (h5, aI (k 0) 100 anI), (h7, aI (k 0) 256 (rgI (-1) 99)), (h8, aI (k 0) 100 (rgI (-1) 99)), (h0, ob 3 [.ref h2, .ref h3, .ref h4, .ref h5, .ref h6, .ref h7, .ref h8, .ref h1, .int h0f8, .int h0f9, .int h0f10, .int h0f11])] _ := hT
      refine lv_if_eq (tgt := 79) hx hb dX4_append_65 (by decide) (fun _ => ?_) (fun cc => absurd (by decide +kernel) cc)
      refine lv_iconst (v := 0) hx hb dX4_append_79 (by decide) ?_
      refine tz_iast hx hb hK hT hS 4 rfl (by omega) (fun _ _ => trivial) dX4_append_80 (fun H locs hT hS => ?_)
      refine lv_aload_n hx hb dX4_append_81 rfl (lv_at hl 1 rfl) ?_
      refine lv_aload_n hx hb dX4_append_82 rfl (lv_at hl 2 rfl) ?_
      refine tcI (Tc := [(h0, ob 3 [.ref h2, .ref h3, .ref h4, .ref h5, .ref h6, .ref h7, .ref h8, .ref h1, .int h0f8, .int h0f9, .int h0f10, .int h0f11]), (h1, aJ (k 1) 60 anJ), (h7, aI (k 0) 256 (rgI (-1) 99))]) (Tr := [(h2, aJ (k 1) 900 anJ), (h3, aI (k 0) 100 anI), (h4, aI (k 0) 100 anI), (h5, aI (k 0) 100 anI), (h8, aI (k 0) 100 (rgI (-1) 99))]) (as := [h0, h1, h7]) (zcV (q0 := 7) (ci := 3) (As := [.ref h1]) (rest := []) (Tc := [(h0, ob 3 [.ref h2, .ref h3, .ref h4, .ref h5, .ref h6, .ref h7, .ref h8, .ref h1, .int h0f8, .int h0f9, .int h0f10, .int h0f11]), (h1, aJ (k 1) 60 anJ), (h7, aI (k 0) 256 (rgI (-1) 99))]) hx hb hml hown hU hK hT rfl rfl [7, 0, 5] rfl (by decide) (cX4_slotOf_33b21 l D k _ h0 h1 h7 h2 h3 h4 h5 h6 h8 h0f8 h0f9 h0f10 h0f11 (by omega) (by omega) (by omega) (by omega)) w514 w511 w513 w11 w66 hdX4_slotOf ⟨rfl, rfl⟩ ⟨Nat.le_of_ble_eq_true rfl, Nat.le_of_ble_eq_true rfl⟩ rfl hl.1 (Nat.le_of_ble_eq_true rfl) dX4_append_83 ⟨Nat.le_of_ble_eq_true rfl, Nat.le_of_ble_eq_true rfl⟩) hT hS hA [7, 0, 5] [1, 2, 3, 4, 6] rfl rfl rfl (by decide) (by decide) (fun r6 H locs hB J hS => ?_)
      obtain ⟨b_r6, hT1⟩ := hB
      have hT := J _ hT1
      have hT : TP D A [(h2, aJ (k 1) 900 anJ), (h3, aI (k 0) 100 anI), (h4, aI (k 0) 100 anI), (h5, aI (k 0) 100 anI), (h8, aI (k 0) 100 (rgI (-1) 99)), (h0, ob 3 [.ref h2, .ref h3, .ref h4, .ref h5, .ref h6, .ref h7, .ref h8, .ref h1, .int h0f8, .int h0f9, .int h0f10, .int h0f11]), (h1, aJ (k 1) 60 anJ), (h7, aI (k 0) 256 (rgI (-1) 99))] _ := hT
      refine lv_istore (lv' := [(5, .int r6), (4, .int h0f10), (0, .ref h0), (1, .ref h1), (2, .int x2), (3, .int x3)]) hx hb dX4_append_86 hl (by decide) rfl (fun ls hl => ?_)
      refine lv_aload_n hx hb dX4_append_88 rfl (lv_at hl 2 rfl) ?_
      refine tz_get (ci := 3) (v := .ref h8) (C := RX4) (F := TX4) (N := 12) hx hb hU iX4 hown hK hT 5 rfl rfl 6 (by decide) w160 (fun _ h9 => h9) rfl dX4_append_89 ?_
      refine lv_iload hx hb dX4_append_92 (lv_at hl 1 rfl) ?_
      refine lv_aload_n hx hb dX4_append_94 rfl (lv_at hl 2 rfl) ?_
      refine tz_get (ci := 3) (v := .ref h7) (C := RX4) (F := TX4) (N := 12) hx hb hU iX4 hown hK hT 5 rfl rfl 5 (by decide) w159 (fun _ h9 => h9) rfl dX4_append_95 ?_
      refine lv_iload hx hb dX4_append_98 (lv_at hl 0 rfl) ?_
      refine tz_iald hx hb hK hT 7 rfl (by omega) dX4_append_100 (fun v7 e_v7 => ?_)
      have e_v7 := rg_get e_v7
      refine tz_iast hx hb hK hT hS 4 rfl (by omega) (rg_put (by omega)) dX4_append_101 (fun H locs hT hS => ?_)
      refine lv_aload_n hx hb dX4_append_102 rfl (lv_at hl 2 rfl) ?_
      refine tz_get (ci := 3) (v := .ref h7) (C := RX4) (F := TX4) (N := 12) hx hb hU iX4 hown hK hT 5 rfl rfl 5 (by decide) w159 (fun _ h9 => h9) rfl dX4_append_103 ?_
      refine lv_iload hx hb dX4_append_106 (lv_at hl 0 rfl) ?_
      refine lv_iload hx hb dX4_append_108 (lv_at hl 1 rfl) ?_
      refine tz_iast hx hb hK hT hS 7 rfl (by omega) (rg_put (by omega)) dX4_append_110 (fun H locs hT hS => ?_)
      refine lv_aload_n hx hb dX4_append_111 rfl (lv_at hl 2 rfl) ?_
      refine lv_dup hx hb dX4_append_112 rfl ?_
      refine tz_get (ci := 3) (v := .int h0f10) (C := RX4) (F := TX4) (N := 12) hx hb hU iX4 hown hK hT 5 rfl rfl 10 (by decide) w164 (fun _ h9 => h9) rfl dX4_append_113 ?_
      refine lv_iconst (v := 1) hx hb dX4_append_116 (by decide) ?_
      refine lv_iadd hx hb dX4_append_117 (lv_topi (fun v8 e_v8 => ?_))
      have e_v8 := ai_add e_v8 rfl li_1 (by omega)
      refine tz_put (ci := 3) (v := .int v8) (ty := .int) (C := RX4) (F := TX4) (N := 12) hx hb hU iX4 tyX4 tyX4_ok nmX4 hown hK hT hS 5 rfl rfl 10 (by decide) w164 (fun _ h9 => h9) rfl (by decide +kernel) rfl rfl (Nat.le_of_ble_eq_true rfl) dX4_append_118 (fun H locs hT hS => ?_)
      have hT : TP D A [(h2, aJ (k 1) 900 anJ), (h3, aI (k 0) 100 anI), (h4, aI (k 0) 100 anI), (h5, aI (k 0) 100 anI), (h8, aI (k 0) 100 (rgI (-1) 99)), (h0, ob 3 [.ref h2, .ref h3, .ref h4, .ref h5, .ref h6, .ref h7, .ref h8, .ref h1, .int h0f8, .int h0f9, .int v8, .int h0f11]), (h1, aJ (k 1) 60 anJ), (h7, aI (k 0) 256 (rgI (-1) 99))] _ := hT
      refine lv_iload hx hb dX4_append_121 (lv_at hl 1 rfl) ?_
      exact tz_retI (B := B_cX4_append_38a94 D k h0 h1 h2 h3 h4 h5 h7 h8 h6 x2 x3 h0f8 h0f9 h0f10 h0f11) (v := h0f10) hQ hx hb hr hlocks hS (Nat.le_of_ble_eq_true rfl) (Nat.le_of_ble_eq_true rfl) dX4_append_123 (⟨v8, (by omega), (by omega), (hT.sub [5, 6, 0, 1, 2, 3, 7, 4] (by decide) rfl)⟩)
    · skip
      have hT := J _ hT1
      have hT : TP D A [(h1, aJ (k 1) 60 anJ), (h2, aJ (k 1) 900 anJ), (h3, aI (k 0) 100 anI), (h4, aI (k 0) 100 anI), (h5, aI (k 0) 100 anI), (h7, aI (k 0) 256 (rgI (-1) 99)), (h8, aI (k 0) 100 (rgI (-1) 99)), (h0, ob 3 [.ref h2, .ref h3, .ref h4, .ref h5, .ref h6, .ref h7, .ref h8, .ref h1, .int h0f8, .int h0f9, .int h0f10, .int h0f11])] _ := hT
      refine lv_if_eq (tgt := 79) hx hb dX4_append_65 (by decide) (fun cc => absurd cc (by decide +kernel)) (fun _ => ?_)
      refine lv_aload_n hx hb dX4_append_68 rfl (lv_at hl 1 rfl) ?_
      refine tz_get (ci := 3) (v := .ref h5) (C := RX4) (F := TX4) (N := 12) hx hb hU iX4 hown hK hT 7 rfl rfl 3 (by decide) w155 (fun _ h9 => h9) rfl dX4_append_69 ?_
      refine lv_iload_n hx hb dX4_append_72 rfl (lv_at hl 3 rfl) ?_
      refine tz_iald hx hb hK hT 4 rfl (by omega) dX4_append_73 (fun v9 e_v9 => ?_)
      clear e_v9
      refine lv_iconst (v := 1) hx hb dX4_append_74 (by decide) ?_
      refine lv_iadd hx hb dX4_append_75 (lv_topi (fun v10 e_v10 => ?_))
      refine lv_goto (tgt := 80) hx hb dX4_append_76 (by decide) ?_
      refine tz_iast hx hb hK hT hS 4 rfl (by omega) (fun _ _ => trivial) dX4_append_80 (fun H locs hT hS => ?_)
      refine lv_aload_n hx hb dX4_append_81 rfl (lv_at hl 1 rfl) ?_
      refine lv_aload_n hx hb dX4_append_82 rfl (lv_at hl 2 rfl) ?_
      refine tcI (Tc := [(h0, ob 3 [.ref h2, .ref h3, .ref h4, .ref h5, .ref h6, .ref h7, .ref h8, .ref h1, .int h0f8, .int h0f9, .int h0f10, .int h0f11]), (h1, aJ (k 1) 60 anJ), (h7, aI (k 0) 256 (rgI (-1) 99))]) (Tr := [(h2, aJ (k 1) 900 anJ), (h3, aI (k 0) 100 anI), (h4, aI (k 0) 100 anI), (h5, aI (k 0) 100 anI), (h8, aI (k 0) 100 (rgI (-1) 99))]) (as := [h0, h1, h7]) (zcV (q0 := 7) (ci := 3) (As := [.ref h1]) (rest := []) (Tc := [(h0, ob 3 [.ref h2, .ref h3, .ref h4, .ref h5, .ref h6, .ref h7, .ref h8, .ref h1, .int h0f8, .int h0f9, .int h0f10, .int h0f11]), (h1, aJ (k 1) 60 anJ), (h7, aI (k 0) 256 (rgI (-1) 99))]) hx hb hml hown hU hK hT rfl rfl [7, 0, 5] rfl (by decide) (cX4_slotOf_33b21 l D k _ h0 h1 h7 h2 h3 h4 h5 h6 h8 h0f8 h0f9 h0f10 h0f11 (by omega) (by omega) (by omega) (by omega)) w514 w511 w513 w11 w66 hdX4_slotOf ⟨rfl, rfl⟩ ⟨Nat.le_of_ble_eq_true rfl, Nat.le_of_ble_eq_true rfl⟩ rfl hl.1 (Nat.le_of_ble_eq_true rfl) dX4_append_83 ⟨Nat.le_of_ble_eq_true rfl, Nat.le_of_ble_eq_true rfl⟩) hT hS hA [7, 0, 5] [1, 2, 3, 4, 6] rfl rfl rfl (by decide) (by decide) (fun r11 H locs hB J hS => ?_)
      obtain ⟨b_r11, hT1⟩ := hB
      have hT := J _ hT1
      have hT : TP D A [(h2, aJ (k 1) 900 anJ), (h3, aI (k 0) 100 anI), (h4, aI (k 0) 100 anI), (h5, aI (k 0) 100 anI), (h8, aI (k 0) 100 (rgI (-1) 99)), (h0, ob 3 [.ref h2, .ref h3, .ref h4, .ref h5, .ref h6, .ref h7, .ref h8, .ref h1, .int h0f8, .int h0f9, .int h0f10, .int h0f11]), (h1, aJ (k 1) 60 anJ), (h7, aI (k 0) 256 (rgI (-1) 99))] _ := hT
      refine lv_istore (lv' := [(5, .int r11), (4, .int h0f10), (0, .ref h0), (1, .ref h1), (2, .int x2), (3, .int x3)]) hx hb dX4_append_86 hl (by decide) rfl (fun ls hl => ?_)
      refine lv_aload_n hx hb dX4_append_88 rfl (lv_at hl 2 rfl) ?_
      refine tz_get (ci := 3) (v := .ref h8) (C := RX4) (F := TX4) (N := 12) hx hb hU iX4 hown hK hT 5 rfl rfl 6 (by decide) w160 (fun _ h9 => h9) rfl dX4_append_89 ?_
      refine lv_iload hx hb dX4_append_92 (lv_at hl 1 rfl) ?_
      refine lv_aload_n hx hb dX4_append_94 rfl (lv_at hl 2 rfl) ?_
      refine tz_get (ci := 3) (v := .ref h7) (C := RX4) (F := TX4) (N := 12) hx hb hU iX4 hown hK hT 5 rfl rfl 5 (by decide) w159 (fun _ h9 => h9) rfl dX4_append_95 ?_
      refine lv_iload hx hb dX4_append_98 (lv_at hl 0 rfl) ?_
      refine tz_iald hx hb hK hT 7 rfl (by omega) dX4_append_100 (fun v12 e_v12 => ?_)
      have e_v12 := rg_get e_v12
      refine tz_iast hx hb hK hT hS 4 rfl (by omega) (rg_put (by omega)) dX4_append_101 (fun H locs hT hS => ?_)
      refine lv_aload_n hx hb dX4_append_102 rfl (lv_at hl 2 rfl) ?_
      refine tz_get (ci := 3) (v := .ref h7) (C := RX4) (F := TX4) (N := 12) hx hb hU iX4 hown hK hT 5 rfl rfl 5 (by decide) w159 (fun _ h9 => h9) rfl dX4_append_103 ?_
      refine lv_iload hx hb dX4_append_106 (lv_at hl 0 rfl) ?_
      refine lv_iload hx hb dX4_append_108 (lv_at hl 1 rfl) ?_
      refine tz_iast hx hb hK hT hS 7 rfl (by omega) (rg_put (by omega)) dX4_append_110 (fun H locs hT hS => ?_)
      refine lv_aload_n hx hb dX4_append_111 rfl (lv_at hl 2 rfl) ?_
      refine lv_dup hx hb dX4_append_112 rfl ?_
      refine tz_get (ci := 3) (v := .int h0f10) (C := RX4) (F := TX4) (N := 12) hx hb hU iX4 hown hK hT 5 rfl rfl 10 (by decide) w164 (fun _ h9 => h9) rfl dX4_append_113 ?_
      refine lv_iconst (v := 1) hx hb dX4_append_116 (by decide) ?_
      refine lv_iadd hx hb dX4_append_117 (lv_topi (fun v13 e_v13 => ?_))
      have e_v13 := ai_add e_v13 rfl li_1 (by omega)
      refine tz_put (ci := 3) (v := .int v13) (ty := .int) (C := RX4) (F := TX4) (N := 12) hx hb hU iX4 tyX4 tyX4_ok nmX4 hown hK hT hS 5 rfl rfl 10 (by decide) w164 (fun _ h9 => h9) rfl (by decide +kernel) rfl rfl (Nat.le_of_ble_eq_true rfl) dX4_append_118 (fun H locs hT hS => ?_)
      have hT : TP D A [(h2, aJ (k 1) 900 anJ), (h3, aI (k 0) 100 anI), (h4, aI (k 0) 100 anI), (h5, aI (k 0) 100 anI), (h8, aI (k 0) 100 (rgI (-1) 99)), (h0, ob 3 [.ref h2, .ref h3, .ref h4, .ref h5, .ref h6, .ref h7, .ref h8, .ref h1, .int h0f8, .int h0f9, .int v13, .int h0f11]), (h1, aJ (k 1) 60 anJ), (h7, aI (k 0) 256 (rgI (-1) 99))] _ := hT
      refine lv_iload hx hb dX4_append_121 (lv_at hl 1 rfl) ?_
      exact tz_retI (B := B_cX4_append_38a94 D k h0 h1 h2 h3 h4 h5 h7 h8 h6 x2 x3 h0f8 h0f9 h0f10 h0f11) (v := h0f10) hQ hx hb hr hlocks hS (Nat.le_of_ble_eq_true rfl) (Nat.le_of_ble_eq_true rfl) dX4_append_123 (⟨v13, (by omega), (by omega), (hT.sub [5, 6, 0, 1, 2, 3, 7, 4] (by decide) rfl)⟩)
  · skip
    have c_1 := ni_nlt c_1 rfl rfl
    refine lv_iconst (v := (-1)) hx hb dX4_append_11 (by decide) ?_
    exact tz_retI (B := B_cX4_append_38a94 D k h0 h1 h2 h3 h4 h5 h7 h8 h6 x2 x3 h0f8 h0f9 h0f10 h0f11) (v := (-1)) hQ hx hb hr hlocks hS (Nat.le_of_ble_eq_true rfl) (Nat.le_of_ble_eq_true rfl) dX4_append_12 (⟨h0f10, (by have := li_m1; omega), (by have := li_m1; omega), hT⟩)
abbrev Rm_cX4_lead_5297f : Room := { frames := 3, cells := 0, slots := 0, locals := 80 }
abbrev B_cX4_lead_5297f (D : va_G) (k : Nat → ClassId) (h0 h1 h2 h3 h4 h5 h7 h8 h9 h10 h11 h6 : Nat) (x2 : Int32) (x3 : Int32) (h0f8 : Int32) (h0f9 : Int32) (h0f10 : Int32) (h0f11 : Int32) (h1f1 : Int32) (h10f0 : Int32) (h10f1 : Int32) (h10f2 : Int32) (A : Nat → Prop) (r : Int32) (H : Heap) : Prop := ∃ o0 : Int32, (1 ≤ o0.toInt ∧ o0.toInt ≤ 100) ∧ ((-1) ≤ r.toInt ∧ r.toInt ≤ 99) ∧ TP D A [(h0, ob 3 [.ref h2, .ref h3, .ref h4, .ref h5, .ref h6, .ref h7, .ref h8, .ref h9, .int h0f8, .int h0f9, .int o0, .int h0f11]), (h1, ob 2 [.ref h10, .int h1f1]), (h2, aJ (k 1) 900 anJ), (h3, aI (k 0) 100 anI), (h4, aI (k 0) 100 anI), (h5, aI (k 0) 100 anI), (h7, aI (k 0) 256 (rgI (-1) 99)), (h8, aI (k 0) 100 (rgI (-1) 99)), (h9, aJ (k 1) 60 anJ), (h10, ob 4 [.int h10f0, .int h10f1, .int h10f2, .ref h11]), (h11, aJ (k 1) 36 anJ)] H
set_option maxHeartbeats 4000000 in
set_option maxRecDepth 100000 in
theorem cX4_lead_5297f (l : Launch) (D : va_G) (k : Nat → ClassId) (sz : Nat) (h0 h1 h2 h3 h4 h5 h7 h8 h9 h10 h11 h6 : Nat) (x2 : Int32) (x3 : Int32) (h0f8 : Int32) (h0f9 : Int32) (h0f10 : Int32) (h0f11 : Int32) (h1f1 : Int32) (h10f0 : Int32) (h10f1 : Int32) (h10f2 : Int32) (b_x2 : 0 ≤ x2.toInt ∧ x2.toInt ≤ 99) (b_x3 : 0 ≤ x3.toInt ∧ x3.toInt ≤ 3) (b_h0f8 : 1 ≤ h0f8.toInt ∧ h0f8.toInt ≤ 9) (b_h0f9 : 100 ≤ h0f9.toInt ∧ h0f9.toInt ≤ 100) (b_h0f10 : 1 ≤ h0f10.toInt ∧ h0f10.toInt ≤ 100) (b_h0f11 : 0 ≤ h0f11.toInt ∧ h0f11.toInt ≤ 1) (b_h1f1 : 0 ≤ h1f1.toInt ∧ h1f1.toInt ≤ 0) (b_h10f0 : 1 ≤ h10f0.toInt ∧ h10f0.toInt ≤ 3) (b_h10f1 : 0 ≤ h10f1.toInt ∧ h10f1.toInt ≤ 4) : Met l yX4_lead (Cond.code yX4_lead cX4_lead 5 (some .int) :: uw) Rm_cX4_lead_5297f (pT D k sz [.ref h0, .ref h1, .int x2, .int x3] [(h0, ob 3 [.ref h2, .ref h3, .ref h4, .ref h5, .ref h6, .ref h7, .ref h8, .ref h9, .int h0f8, .int h0f9, .int h0f10, .int h0f11]), (h1, ob 2 [.ref h10, .int h1f1]), (h2, aJ (k 1) 900 anJ), (h3, aI (k 0) 100 anI), (h4, aI (k 0) 100 anI), (h5, aI (k 0) 100 anI), (h7, aI (k 0) 256 (rgI (-1) 99)), (h8, aI (k 0) 100 (rgI (-1) 99)), (h9, aJ (k 1) 60 anJ), (h10, ob 4 [.int h10f0, .int h10f1, .int h10f2, .ref h11]), (h11, aJ (k 1) 36 anJ)]) (qI (B_cX4_lead_5297f D k h0 h1 h2 h3 h4 h5 h7 h8 h9 h10 h11 h6 x2 x3 h0f8 h0f9 h0f10 h0f11 h1f1 h10f0 h10f1 h10f2 (zA [h0, h1, h2, h3, h4, h5, h7, h8, h9, h10, h11] sz)) (zA [h0, h1, h2, h3, h4, h5, h7, h8, h9, h10, h11] sz)) 0 0 (zA [h0, h1, h2, h3, h4, h5, h7, h8, h9, h10, h11] sz) := by
  refine tz_begin (as := [h0, h1, h2, h3, h4, h5, h7, h8, h9, h10, h11]) (Qc := fun A => qI (B_cX4_lead_5297f D k h0 h1 h2 h3 h4 h5 h7 h8 h9 h10 h11 h6 x2 x3 h0f8 h0f9 h0f10 h0f11 h1f1 h10f0 h10f1 h10f2 A) A) (by decide +kernel) rfl (Nat.le_of_ble_eq_true rfl) ?_
  intro p e s m args below meth c ls A Q hx hb hr hml hown hlocks hin hU hK hT hS hA hl hQ
  have hl : lv_has ls 5 [(0, .ref h0), (1, .ref h1), (2, .int x2), (3, .int x3)] := hl
  have hT : TP D A [(h0, ob 3 [.ref h2, .ref h3, .ref h4, .ref h5, .ref h6, .ref h7, .ref h8, .ref h9, .int h0f8, .int h0f9, .int h0f10, .int h0f11]), (h1, ob 2 [.ref h10, .int h1f1]), (h2, aJ (k 1) 900 anJ), (h3, aI (k 0) 100 anI), (h4, aI (k 0) 100 anI), (h5, aI (k 0) 100 anI), (h7, aI (k 0) 256 (rgI (-1) 99)), (h8, aI (k 0) 100 (rgI (-1) 99)), (h9, aJ (k 1) 60 anJ), (h10, ob 4 [.int h10f0, .int h10f1, .int h10f2, .ref h11]), (h11, aJ (k 1) 36 anJ)] s.heap := hT
  refine lv_aload_n hx hb dX4_lead_0 rfl (lv_at hl 1 rfl) ?_
  refine lv_aload_n hx hb dX4_lead_1 rfl (lv_at hl 0 rfl) ?_
  refine tz_get (ci := 3) (v := .ref h2) (C := RX4) (F := TX4) (N := 12) hx hb hU iX4 hown hK hT 0 rfl rfl 0 (by decide) w149 (fun _ h9 => h9) rfl dX4_lead_2 ?_
  refine lv_aload_n hx hb dX4_lead_5 rfl (lv_at hl 0 rfl) ?_
  refine lv_iload_n hx hb dX4_lead_6 rfl (lv_at hl 2 rfl) ?_
  refine tcI (Tc := [(h0, ob 3 [.ref h2, .ref h3, .ref h4, .ref h5, .ref h6, .ref h7, .ref h8, .ref h9, .int h0f8, .int h0f9, .int h0f10, .int h0f11])]) (Tr := [(h1, ob 2 [.ref h10, .int h1f1]), (h2, aJ (k 1) 900 anJ), (h3, aI (k 0) 100 anI), (h4, aI (k 0) 100 anI), (h5, aI (k 0) 100 anI), (h7, aI (k 0) 256 (rgI (-1) 99)), (h8, aI (k 0) 100 (rgI (-1) 99)), (h9, aJ (k 1) 60 anJ), (h10, ob 4 [.int h10f0, .int h10f1, .int h10f2, .ref h11]), (h11, aJ (k 1) 36 anJ)]) (as := [h0]) (zcV (q0 := 0) (ci := 3) (As := [.int x2]) (rest := [.ref h2, .ref h1]) (Tc := [(h0, ob 3 [.ref h2, .ref h3, .ref h4, .ref h5, .ref h6, .ref h7, .ref h8, .ref h9, .int h0f8, .int h0f9, .int h0f10, .int h0f11])]) hx hb hml hown hU hK hT rfl rfl [0] rfl (by decide) (cX4_start_d01b0 l D k _ h0 h2 h3 h4 h5 h6 h7 h8 h9 x2 h0f8 h0f9 h0f10 h0f11 (by omega) (by omega) (by omega) (by omega) (by omega)) w505 w502 w503 w504 w66 hdX4_start ⟨rfl, rfl⟩ ⟨Nat.le_of_ble_eq_true rfl, Nat.le_of_ble_eq_true rfl⟩ rfl hl.1 (Nat.le_of_ble_eq_true rfl) dX4_lead_7 ⟨Nat.le_of_ble_eq_true rfl, Nat.le_of_ble_eq_true rfl⟩) hT hS hA [0] [1, 2, 3, 4, 5, 6, 7, 8, 9, 10] rfl rfl rfl (by decide) (by decide) (fun r1 H locs hB J hS => ?_)
  obtain ⟨b_r1, hT1⟩ := hB
  have hT := J _ hT1
  have hT : TP D A [(h1, ob 2 [.ref h10, .int h1f1]), (h2, aJ (k 1) 900 anJ), (h3, aI (k 0) 100 anI), (h4, aI (k 0) 100 anI), (h5, aI (k 0) 100 anI), (h7, aI (k 0) 256 (rgI (-1) 99)), (h8, aI (k 0) 100 (rgI (-1) 99)), (h9, aJ (k 1) 60 anJ), (h10, ob 4 [.int h10f0, .int h10f1, .int h10f2, .ref h11]), (h11, aJ (k 1) 36 anJ), (h0, ob 3 [.ref h2, .ref h3, .ref h4, .ref h5, .ref h6, .ref h7, .ref h8, .ref h9, .int h0f8, .int h0f9, .int h0f10, .int h0f11])] _ := hT
  refine lv_iload_n hx hb dX4_lead_10 rfl (lv_at hl 3 rfl) ?_
  refine lv_aload_n hx hb dX4_lead_11 rfl (lv_at hl 0 rfl) ?_
  refine tz_get (ci := 3) (v := .ref h9) (C := RX4) (F := TX4) (N := 12) hx hb hU iX4 hown hK hT 10 rfl rfl 7 (by decide) w161 (fun _ h9 => h9) rfl dX4_lead_12 ?_
  refine tcI (Tc := [(h1, ob 2 [.ref h10, .int h1f1]), (h2, aJ (k 1) 900 anJ), (h9, aJ (k 1) 60 anJ), (h10, ob 4 [.int h10f0, .int h10f1, .int h10f2, .ref h11]), (h11, aJ (k 1) 36 anJ)]) (Tr := [(h3, aI (k 0) 100 anI), (h4, aI (k 0) 100 anI), (h5, aI (k 0) 100 anI), (h7, aI (k 0) 256 (rgI (-1) 99)), (h8, aI (k 0) 100 (rgI (-1) 99)), (h0, ob 3 [.ref h2, .ref h3, .ref h4, .ref h5, .ref h6, .ref h7, .ref h8, .ref h9, .int h0f8, .int h0f9, .int h0f10, .int h0f11])]) (as := [h1, h2, h9, h10, h11]) (zcA (q0 := 0) (ci := 2) (As := [.ref h2, .int r1, .int x3, .ref h9]) (rest := []) (Tc := [(h1, ob 2 [.ref h10, .int h1f1]), (h2, aJ (k 1) 900 anJ), (h9, aJ (k 1) 60 anJ), (h10, ob 4 [.int h10f0, .int h10f1, .int h10f2, .ref h11]), (h11, aJ (k 1) 36 anJ)]) hx hb hml hown hU hK hT rfl rfl [0, 1, 7, 8, 9] rfl (by decide) (cX2_go_b273a l D k _ h1 h2 h9 h10 h11 r1 x3 h1f1 h10f0 h10f1 h10f2 (by omega) (by omega) (by omega) (by omega) (by omega)) w541 w524 wStepSame w539 w540 w68 hdX2_go ⟨rfl, rfl⟩ ⟨Nat.le_of_ble_eq_true rfl, Nat.le_of_ble_eq_true rfl⟩ rfl hl.1 (Nat.le_of_ble_eq_true rfl) dX4_lead_15 ⟨Nat.le_of_ble_eq_true rfl, Nat.le_of_ble_eq_true rfl⟩ rfl) hT hS hA [0, 1, 7, 8, 9] [2, 3, 4, 5, 6, 10] rfl rfl rfl (by decide) (by decide) (fun r2 H locs hB J hS => ?_)
  obtain ⟨b_r2, hT1⟩ := hB
  have hT := J _ hT1
  have hT : TP D A [(h3, aI (k 0) 100 anI), (h4, aI (k 0) 100 anI), (h5, aI (k 0) 100 anI), (h7, aI (k 0) 256 (rgI (-1) 99)), (h8, aI (k 0) 100 (rgI (-1) 99)), (h0, ob 3 [.ref h2, .ref h3, .ref h4, .ref h5, .ref h6, .ref h7, .ref h8, .ref h9, .int h0f8, .int h0f9, .int h0f10, .int h0f11]), (h1, ob 2 [.ref h10, .int h1f1]), (h2, aJ (k 1) 900 anJ), (h9, aJ (k 1) 60 anJ), (h10, ob 4 [.int h10f0, .int h10f1, .int h10f2, .ref h11]), (h11, aJ (k 1) 36 anJ)] _ := hT
  refine lv_if_ne (tgt := 23) hx hb dX4_lead_18 (by decide) (fun c_3 => ?_) (fun c_3 => ?_)
  · skip
    have c_3 := ni_ne c_3 rfl li_0
    refine lv_aload_n hx hb dX4_lead_23 rfl (lv_at hl 0 rfl) ?_
    refine lv_aload_n hx hb dX4_lead_24 rfl (lv_at hl 0 rfl) ?_
    refine tz_get (ci := 3) (v := .ref h9) (C := RX4) (F := TX4) (N := 12) hx hb hU iX4 hown hK hT 5 rfl rfl 7 (by decide) w161 (fun _ h9 => h9) rfl dX4_lead_25 ?_
    refine tcI (Tc := [(h0, ob 3 [.ref h2, .ref h3, .ref h4, .ref h5, .ref h6, .ref h7, .ref h8, .ref h9, .int h0f8, .int h0f9, .int h0f10, .int h0f11]), (h9, aJ (k 1) 60 anJ), (h2, aJ (k 1) 900 anJ), (h7, aI (k 0) 256 (rgI (-1) 99)), (h8, aI (k 0) 100 (rgI (-1) 99))]) (Tr := [(h3, aI (k 0) 100 anI), (h4, aI (k 0) 100 anI), (h5, aI (k 0) 100 anI), (h1, ob 2 [.ref h10, .int h1f1]), (h10, ob 4 [.int h10f0, .int h10f1, .int h10f2, .ref h11]), (h11, aJ (k 1) 36 anJ)]) (as := [h0, h9, h2, h7, h8]) (zcV (q0 := 5) (ci := 3) (As := [.ref h9]) (rest := []) (Tc := [(h0, ob 3 [.ref h2, .ref h3, .ref h4, .ref h5, .ref h6, .ref h7, .ref h8, .ref h9, .int h0f8, .int h0f9, .int h0f10, .int h0f11]), (h9, aJ (k 1) 60 anJ), (h2, aJ (k 1) 900 anJ), (h7, aI (k 0) 256 (rgI (-1) 99)), (h8, aI (k 0) 100 (rgI (-1) 99))]) hx hb hml hown hU hK hT rfl rfl [5, 8, 7, 3, 4] rfl (by decide) (cX4_search_cb6d9 l D k _ h0 h9 h2 h7 h8 h3 h4 h5 h6 h0f8 h0f9 h0f10 h0f11 (by omega) (by omega) (by omega) (by omega)) w555 w552 w553 w554 w66 hdX4_search ⟨rfl, rfl⟩ ⟨Nat.le_of_ble_eq_true rfl, Nat.le_of_ble_eq_true rfl⟩ rfl hl.1 (Nat.le_of_ble_eq_true rfl) dX4_lead_28 ⟨Nat.le_of_ble_eq_true rfl, Nat.le_of_ble_eq_true rfl⟩) hT hS hA [5, 8, 7, 3, 4] [0, 1, 2, 6, 9, 10] rfl rfl rfl (by decide) (by decide) (fun r4 H locs hB J hS => ?_)
    obtain ⟨b_r4, hT1⟩ := hB
    have hT := J _ hT1
    have hT : TP D A [(h3, aI (k 0) 100 anI), (h4, aI (k 0) 100 anI), (h5, aI (k 0) 100 anI), (h1, ob 2 [.ref h10, .int h1f1]), (h10, ob 4 [.int h10f0, .int h10f1, .int h10f2, .ref h11]), (h11, aJ (k 1) 36 anJ), (h0, ob 3 [.ref h2, .ref h3, .ref h4, .ref h5, .ref h6, .ref h7, .ref h8, .ref h9, .int h0f8, .int h0f9, .int h0f10, .int h0f11]), (h9, aJ (k 1) 60 anJ), (h2, aJ (k 1) 900 anJ), (h7, aI (k 0) 256 (rgI (-1) 99)), (h8, aI (k 0) 100 (rgI (-1) 99))] _ := hT
    refine lv_istore (lv' := [(4, .int r4), (0, .ref h0), (1, .ref h1), (2, .int x2), (3, .int x3)]) hx hb dX4_lead_31 hl (by decide) rfl (fun ls hl => ?_)
    refine lv_iload hx hb dX4_lead_33 (lv_at hl 0 rfl) ?_
    refine lv_if_lt (tgt := 43) hx hb dX4_lead_35 (by decide) (fun c_5 => ?_) (fun c_5 => ?_)
    · skip
      have c_5 := ni_lt c_5 rfl li_0
      refine lv_aload_n hx hb dX4_lead_43 rfl (lv_at hl 1 rfl) ?_
      refine lv_aload_n hx hb dX4_lead_44 rfl (lv_at hl 1 rfl) ?_
      refine tz_get (ci := 3) (v := .ref h9) (C := RX4) (F := TX4) (N := 12) hx hb hU iX4 hown hK hT 6 rfl rfl 7 (by decide) w161 (fun _ h9 => h9) rfl dX4_lead_45 ?_
      refine lv_iload_n hx hb dX4_lead_48 rfl (lv_at hl 3 rfl) ?_
      refine lv_iload_n hx hb dX4_lead_49 rfl (lv_at hl 4 rfl) ?_
      refine tcI (Tc := [(h0, ob 3 [.ref h2, .ref h3, .ref h4, .ref h5, .ref h6, .ref h7, .ref h8, .ref h9, .int h0f8, .int h0f9, .int h0f10, .int h0f11]), (h9, aJ (k 1) 60 anJ), (h2, aJ (k 1) 900 anJ), (h3, aI (k 0) 100 anI), (h4, aI (k 0) 100 anI), (h5, aI (k 0) 100 anI), (h7, aI (k 0) 256 (rgI (-1) 99)), (h8, aI (k 0) 100 (rgI (-1) 99))]) (Tr := [(h1, ob 2 [.ref h10, .int h1f1]), (h10, ob 4 [.int h10f0, .int h10f1, .int h10f2, .ref h11]), (h11, aJ (k 1) 36 anJ)]) (as := [h0, h9, h2, h3, h4, h5, h7, h8]) (zcV (q0 := 6) (ci := 3) (As := [.ref h9, .int x2, .int x3]) (rest := []) (Tc := [(h0, ob 3 [.ref h2, .ref h3, .ref h4, .ref h5, .ref h6, .ref h7, .ref h8, .ref h9, .int h0f8, .int h0f9, .int h0f10, .int h0f11]), (h9, aJ (k 1) 60 anJ), (h2, aJ (k 1) 900 anJ), (h3, aI (k 0) 100 anI), (h4, aI (k 0) 100 anI), (h5, aI (k 0) 100 anI), (h7, aI (k 0) 256 (rgI (-1) 99)), (h8, aI (k 0) 100 (rgI (-1) 99))]) hx hb hml hown hU hK hT rfl rfl [6, 7, 8, 0, 1, 2, 9, 10] rfl (by decide) (cX4_append_38a94 l D k _ h0 h9 h2 h3 h4 h5 h7 h8 h6 x2 x3 h0f8 h0f9 h0f10 h0f11 (by omega) (by omega) (by omega) (by omega) (by omega) (by omega)) w501 w560 w499 w500 w66 hdX4_append ⟨rfl, rfl⟩ ⟨Nat.le_of_ble_eq_true rfl, Nat.le_of_ble_eq_true rfl⟩ rfl hl.1 (Nat.le_of_ble_eq_true rfl) dX4_lead_50 ⟨Nat.le_of_ble_eq_true rfl, Nat.le_of_ble_eq_true rfl⟩) hT hS hA [6, 7, 8, 0, 1, 2, 9, 10] [3, 4, 5] rfl rfl rfl (by decide) (by decide) (fun r6 H locs hB J hS => ?_)
      obtain ⟨v7, b_v7, b_r6, hT1⟩ := hB
      have hT := J _ hT1
      have hT : TP D A [(h1, ob 2 [.ref h10, .int h1f1]), (h10, ob 4 [.int h10f0, .int h10f1, .int h10f2, .ref h11]), (h11, aJ (k 1) 36 anJ), (h0, ob 3 [.ref h2, .ref h3, .ref h4, .ref h5, .ref h6, .ref h7, .ref h8, .ref h9, .int h0f8, .int h0f9, .int v7, .int h0f11]), (h9, aJ (k 1) 60 anJ), (h2, aJ (k 1) 900 anJ), (h3, aI (k 0) 100 anI), (h4, aI (k 0) 100 anI), (h5, aI (k 0) 100 anI), (h7, aI (k 0) 256 (rgI (-1) 99)), (h8, aI (k 0) 100 (rgI (-1) 99))] _ := hT
      exact tz_retI (B := B_cX4_lead_5297f D k h0 h1 h2 h3 h4 h5 h7 h8 h9 h10 h11 h6 x2 x3 h0f8 h0f9 h0f10 h0f11 h1f1 h10f0 h10f1 h10f2) (v := r6) hQ hx hb hr hlocks hS (Nat.le_of_ble_eq_true rfl) (Nat.le_of_ble_eq_true rfl) dX4_lead_53 (⟨v7, (by omega), (by omega), (hT.sub [3, 0, 5, 6, 7, 8, 9, 10, 4, 1, 2] (by decide) rfl)⟩)
    · skip
      have c_5 := ni_nlt c_5 rfl li_0
      refine lv_iload hx hb dX4_lead_38 (lv_at hl 0 rfl) ?_
      refine lv_goto (tgt := 53) hx hb dX4_lead_40 (by decide) ?_
      exact tz_retI (B := B_cX4_lead_5297f D k h0 h1 h2 h3 h4 h5 h7 h8 h9 h10 h11 h6 x2 x3 h0f8 h0f9 h0f10 h0f11 h1f1 h10f0 h10f1 h10f2) (v := r4) hQ hx hb hr hlocks hS (Nat.le_of_ble_eq_true rfl) (Nat.le_of_ble_eq_true rfl) dX4_lead_53 (⟨h0f10, (by omega), (by omega), (hT.sub [6, 3, 8, 0, 1, 2, 9, 10, 7, 4, 5] (by decide) rfl)⟩)
  · skip
    have c_3 := ni_eq c_3 rfl li_0
    refine lv_iconst (v := (-1)) hx hb dX4_lead_21 (by decide) ?_
    exact tz_retI (B := B_cX4_lead_5297f D k h0 h1 h2 h3 h4 h5 h7 h8 h9 h10 h11 h6 x2 x3 h0f8 h0f9 h0f10 h0f11 h1f1 h10f0 h10f1 h10f2) (v := (-1)) hQ hx hb hr hlocks hS (Nat.le_of_ble_eq_true rfl) (Nat.le_of_ble_eq_true rfl) dX4_lead_22 (⟨h0f10, (by have := li_m1; omega), (by have := li_m1; omega), (hT.sub [5, 6, 7, 0, 1, 2, 3, 4, 8, 9, 10] (by decide) rfl)⟩)
abbrev Rm_cX4_spread_947f9 : Room := { frames := 4, cells := 0, slots := 0, locals := 104 }
abbrev B_cX4_spread_947f9 (D : va_G) (k : Nat → ClassId) (h0 h1 h2 h3 h4 h5 h6 h7 h8 h9 h10 h11 : Nat) (x2 : Int32) (h0f8 : Int32) (h0f9 : Int32) (h0f10 : Int32) (h0f11 : Int32) (h1f1 : Int32) (h10f0 : Int32) (h10f1 : Int32) (h10f2 : Int32) (A : Nat → Prop) (H : Heap) : Prop := ∃ o0 : Int32, ∃ o1 : Int32, (1 ≤ o0.toInt ∧ o0.toInt ≤ 100) ∧ (0 ≤ o1.toInt ∧ o1.toInt ≤ 1) ∧ TP D A [(h0, ob 3 [.ref h2, .ref h3, .ref h4, .ref h5, .ref h6, .ref h7, .ref h8, .ref h9, .int h0f8, .int h0f9, .int o0, .int o1]), (h1, ob 2 [.ref h10, .int h1f1]), (h2, aJ (k 1) 900 anJ), (h3, aI (k 0) 100 anI), (h4, aI (k 0) 100 anI), (h5, aI (k 0) 100 anI), (h6, aI (k 0) 400 anI), (h7, aI (k 0) 256 (rgI (-1) 99)), (h8, aI (k 0) 100 (rgI (-1) 99)), (h9, aJ (k 1) 60 anJ), (h10, ob 4 [.int h10f0, .int h10f1, .int h10f2, .ref h11]), (h11, aJ (k 1) 36 anJ)] H
set_option maxHeartbeats 4000000 in
set_option maxRecDepth 100000 in
theorem cX4_spread_947f9 (l : Launch) (D : va_G) (k : Nat → ClassId) (sz : Nat) (h0 h1 h2 h3 h4 h5 h6 h7 h8 h9 h10 h11 : Nat) (x2 : Int32) (h0f8 : Int32) (h0f9 : Int32) (h0f10 : Int32) (h0f11 : Int32) (h1f1 : Int32) (h10f0 : Int32) (h10f1 : Int32) (h10f2 : Int32) (b_x2 : 0 ≤ x2.toInt ∧ x2.toInt ≤ 4) (b_h0f8 : 1 ≤ h0f8.toInt ∧ h0f8.toInt ≤ 9) (b_h0f9 : 100 ≤ h0f9.toInt ∧ h0f9.toInt ≤ 100) (b_h0f10 : 1 ≤ h0f10.toInt ∧ h0f10.toInt ≤ 1) (b_h0f11 : 0 ≤ h0f11.toInt ∧ h0f11.toInt ≤ 0) (b_h1f1 : 0 ≤ h1f1.toInt ∧ h1f1.toInt ≤ 0) (b_h10f0 : 1 ≤ h10f0.toInt ∧ h10f0.toInt ≤ 3) (b_h10f1 : 0 ≤ h10f1.toInt ∧ h10f1.toInt ≤ 4) : Met l yX4_spread (Cond.code yX4_spread cX4_spread 6 none :: uw) Rm_cX4_spread_947f9 (pT D k sz [.ref h0, .ref h1, .int x2] [(h0, ob 3 [.ref h2, .ref h3, .ref h4, .ref h5, .ref h6, .ref h7, .ref h8, .ref h9, .int h0f8, .int h0f9, .int h0f10, .int h0f11]), (h1, ob 2 [.ref h10, .int h1f1]), (h2, aJ (k 1) 900 anJ), (h3, aI (k 0) 100 anI), (h4, aI (k 0) 100 anI), (h5, aI (k 0) 100 anI), (h6, aI (k 0) 400 anI), (h7, aI (k 0) 256 (rgI (-1) 99)), (h8, aI (k 0) 100 (rgI (-1) 99)), (h9, aJ (k 1) 60 anJ), (h10, ob 4 [.int h10f0, .int h10f1, .int h10f2, .ref h11]), (h11, aJ (k 1) 36 anJ)]) (qV (B_cX4_spread_947f9 D k h0 h1 h2 h3 h4 h5 h6 h7 h8 h9 h10 h11 x2 h0f8 h0f9 h0f10 h0f11 h1f1 h10f0 h10f1 h10f2 (zA [h0, h1, h2, h3, h4, h5, h6, h7, h8, h9, h10, h11] sz)) (zA [h0, h1, h2, h3, h4, h5, h6, h7, h8, h9, h10, h11] sz)) 0 0 (zA [h0, h1, h2, h3, h4, h5, h6, h7, h8, h9, h10, h11] sz) := by
  refine tz_begin (as := [h0, h1, h2, h3, h4, h5, h6, h7, h8, h9, h10, h11]) (Qc := fun A => qV (B_cX4_spread_947f9 D k h0 h1 h2 h3 h4 h5 h6 h7 h8 h9 h10 h11 x2 h0f8 h0f9 h0f10 h0f11 h1f1 h10f0 h10f1 h10f2 A) A) (by decide +kernel) rfl (Nat.le_of_ble_eq_true rfl) ?_
  intro p e s m args below meth c ls A Q hx hb hr hml hown hlocks hin hU hK hT hS hA hl hQ
  have hl : lv_has ls 6 [(0, .ref h0), (1, .ref h1), (2, .int x2)] := hl
  have hT : TP D A [(h0, ob 3 [.ref h2, .ref h3, .ref h4, .ref h5, .ref h6, .ref h7, .ref h8, .ref h9, .int h0f8, .int h0f9, .int h0f10, .int h0f11]), (h1, ob 2 [.ref h10, .int h1f1]), (h2, aJ (k 1) 900 anJ), (h3, aI (k 0) 100 anI), (h4, aI (k 0) 100 anI), (h5, aI (k 0) 100 anI), (h6, aI (k 0) 400 anI), (h7, aI (k 0) 256 (rgI (-1) 99)), (h8, aI (k 0) 100 (rgI (-1) 99)), (h9, aJ (k 1) 60 anJ), (h10, ob 4 [.int h10f0, .int h10f1, .int h10f2, .ref h11]), (h11, aJ (k 1) 36 anJ)] s.heap := hT
  refine lv_aload_n hx hb dX4_spread_0 rfl (lv_at hl 0 rfl) ?_
  refine lv_iconst (v := 1) hx hb dX4_spread_1 (by decide) ?_
  refine tz_put (ci := 3) (v := .int 1) (ty := .boolean) (C := RX4) (F := TX4) (N := 12) hx hb hU iX4 tyX4 tyX4_ok nmX4 hown hK hT hS 0 rfl rfl 11 (by decide) w167 (fun _ h9 => h9) rfl (by decide +kernel) rfl rfl (Nat.le_of_ble_eq_true rfl) dX4_spread_2 (fun H locs hT hS => ?_)
  have hT : TP D A [(h0, ob 3 [.ref h2, .ref h3, .ref h4, .ref h5, .ref h6, .ref h7, .ref h8, .ref h9, .int h0f8, .int h0f9, .int h0f10, .int 1]), (h1, ob 2 [.ref h10, .int h1f1]), (h2, aJ (k 1) 900 anJ), (h3, aI (k 0) 100 anI), (h4, aI (k 0) 100 anI), (h5, aI (k 0) 100 anI), (h6, aI (k 0) 400 anI), (h7, aI (k 0) 256 (rgI (-1) 99)), (h8, aI (k 0) 100 (rgI (-1) 99)), (h9, aJ (k 1) 60 anJ), (h10, ob 4 [.int h10f0, .int h10f1, .int h10f2, .ref h11]), (h11, aJ (k 1) 36 anJ)] _ := hT
  refine lv_iconst (v := 0) hx hb dX4_spread_5 (by decide) ?_
  refine lv_istore_n (lv' := [(3, .int 0), (0, .ref h0), (1, .ref h1), (2, .int x2)]) hx hb dX4_spread_6 rfl hl (by decide) rfl (fun ls hl => ?_)
  have lp7_43 : ∀ (n : Nat) (y40 : Int32) (y41 : Int32) (y42 : Int32) (H : Heap) (locs : List Loc) (ls : Array Slot), (0 ≤ y40.toInt ∧ y40.toInt ≤ 100) → (1 ≤ y41.toInt ∧ y41.toInt ≤ 100) → (0 ≤ y42.toInt ∧ y42.toInt ≤ 1) → (h0f9.toInt + (-1) * y40.toInt + 1).toNat < n → TP D A [(h0, ob 3 [.ref h2, .ref h3, .ref h4, .ref h5, .ref h6, .ref h7, .ref h8, .ref h9, .int h0f8, .int h0f9, .int y41, .int y42]), (h1, ob 2 [.ref h10, .int h1f1]), (h2, aJ (k 1) 900 anJ), (h3, aI (k 0) 100 anI), (h4, aI (k 0) 100 anI), (h5, aI (k 0) 100 anI), (h6, aI (k 0) 400 anI), (h7, aI (k 0) 256 (rgI (-1) 99)), (h8, aI (k 0) 100 (rgI (-1) 99)), (h9, aJ (k 1) 60 anJ), (h10, ob 4 [.int h10f0, .int h10f1, .int h10f2, .ref h11]), (h11, aJ (k 1) 36 anJ)] H → va_S A s.heap H locs → lv_has ls 6 [(0, .ref h0), (1, .ref h1), (2, .int x2), (3, .int y40)] → W p l e Rm_cX4_spread_947f9 s m args below meth c H locs 0 0 Q (F0 m 7 ls []) := by
    intro n
    induction n with
    | zero => intro y40 y41 y42 H locs ls b_y40 b_y41 b_y42 hm hT hS hl; exact absurd hm (Nat.not_lt_zero _)
    | succ n ih =>
      intro y40 y41 y42 H locs ls b_y40 b_y41 b_y42 hm hT hS hl
      have ih7_43 := ih
      clear ih
      refine lv_iload_n hx hb dX4_spread_7 rfl (lv_at hl 3 rfl) ?_
      refine lv_aload_n hx hb dX4_spread_8 rfl (lv_at hl 0 rfl) ?_
      refine tz_get (ci := 3) (v := .int h0f9) (C := RX4) (F := TX4) (N := 12) hx hb hU iX4 hown hK hT 0 rfl rfl 9 (by decide) w163 (fun _ h9 => h9) rfl dX4_spread_9 ?_
      refine lv_icmp_ge (tgt := 96) hx hb dX4_spread_12 (by decide) (fun c_44 => ?_) (fun c_44 => ?_)
      · skip
        have c_44 := ni_le c_44 rfl rfl
        exact tz_retV (B := B_cX4_spread_947f9 D k h0 h1 h2 h3 h4 h5 h6 h7 h8 h9 h10 h11 x2 h0f8 h0f9 h0f10 h0f11 h1f1 h10f0 h10f1 h10f2) hQ hx hb hr hlocks hS (Nat.le_of_ble_eq_true rfl) (Nat.le_of_ble_eq_true rfl) dX4_spread_96 (⟨y41, y42, (by omega), (by omega), hT⟩)
      · skip
        have c_44 := ni_nle c_44 rfl rfl
        refine lv_iload_n hx hb dX4_spread_15 rfl (lv_at hl 3 rfl) ?_
        refine lv_aload_n hx hb dX4_spread_16 rfl (lv_at hl 0 rfl) ?_
        refine tz_get (ci := 3) (v := .int y41) (C := RX4) (F := TX4) (N := 12) hx hb hU iX4 hown hK hT 0 rfl rfl 10 (by decide) w164 (fun _ h9 => h9) rfl dX4_spread_17 ?_
        refine lv_icmp_ge (tgt := 96) hx hb dX4_spread_20 (by decide) (fun c_45 => ?_) (fun c_45 => ?_)
        · skip
          have c_45 := ni_le c_45 rfl rfl
          exact tz_retV (B := B_cX4_spread_947f9 D k h0 h1 h2 h3 h4 h5 h6 h7 h8 h9 h10 h11 x2 h0f8 h0f9 h0f10 h0f11 h1f1 h10f0 h10f1 h10f2) hQ hx hb hr hlocks hS (Nat.le_of_ble_eq_true rfl) (Nat.le_of_ble_eq_true rfl) dX4_spread_96 (⟨y41, y42, (by omega), (by omega), hT⟩)
        · skip
          have c_45 := ni_nle c_45 rfl rfl
          refine lv_iconst (v := 0) hx hb dX4_spread_23 (by decide) ?_
          refine lv_istore (lv' := [(4, .int 0), (0, .ref h0), (1, .ref h1), (2, .int x2), (3, .int y40)]) hx hb dX4_spread_24 hl (by decide) rfl (fun ls hl => ?_)
          have lp26_58 : ∀ (n : Nat) (y55 : Int32) (y56 : Int32) (y57 : Int32) (H : Heap) (locs : List Loc) (ls : Array Slot), (0 ≤ y55.toInt ∧ y55.toInt ≤ 4) → (1 ≤ y56.toInt ∧ y56.toInt ≤ 100) → (0 ≤ y57.toInt ∧ y57.toInt ≤ 1) → (x2.toInt + (-1) * y55.toInt + 1).toNat < n → TP D A [(h0, ob 3 [.ref h2, .ref h3, .ref h4, .ref h5, .ref h6, .ref h7, .ref h8, .ref h9, .int h0f8, .int h0f9, .int y56, .int y57]), (h1, ob 2 [.ref h10, .int h1f1]), (h2, aJ (k 1) 900 anJ), (h3, aI (k 0) 100 anI), (h4, aI (k 0) 100 anI), (h5, aI (k 0) 100 anI), (h6, aI (k 0) 400 anI), (h7, aI (k 0) 256 (rgI (-1) 99)), (h8, aI (k 0) 100 (rgI (-1) 99)), (h9, aJ (k 1) 60 anJ), (h10, ob 4 [.int h10f0, .int h10f1, .int h10f2, .ref h11]), (h11, aJ (k 1) 36 anJ)] H → va_S A s.heap H locs → lv_has ls 6 [(0, .ref h0), (1, .ref h1), (2, .int x2), (3, .int y40), (4, .int y55)] → W p l e Rm_cX4_spread_947f9 s m args below meth c H locs 0 0 Q (F0 m 26 ls []) := by
            intro n
            induction n with
            | zero => intro y55 y56 y57 H locs ls b_y55 b_y56 b_y57 hm hT hS hl; exact absurd hm (Nat.not_lt_zero _)
            | succ n ih =>
              intro y55 y56 y57 H locs ls b_y55 b_y56 b_y57 hm hT hS hl
              have ih26_58 := ih
              clear ih
              refine lv_iload hx hb dX4_spread_26 (lv_at hl 4 rfl) ?_
              refine lv_iload_n hx hb dX4_spread_28 rfl (lv_at hl 2 rfl) ?_
              refine lv_icmp_ge (tgt := 71) hx hb dX4_spread_29 (by decide) (fun c_59 => ?_) (fun c_59 => ?_)
              · skip
                have c_59 := ni_le c_59 rfl rfl
                refine lv_aload_n hx hb dX4_spread_71 rfl (lv_at hl 0 rfl) ?_
                refine tz_get (ci := 3) (v := .int y57) (C := RX4) (F := TX4) (N := 12) hx hb hU iX4 hown hK hT 0 rfl rfl 11 (by decide) w167 (fun _ h9 => h9) rfl dX4_spread_72 ?_
                refine lv_if_ne (tgt := 90) hx hb dX4_spread_75 (by decide) (fun c_60 => ?_) (fun c_60 => ?_)
                · skip
                  have c_60 := ni_ne c_60 rfl li_0
                  obtain ⟨v61, e_v61⟩ : ∃ x : Int32, x = y40 + Int32.ofInt 1 := ⟨_, rfl⟩
                  have f_v61 := e_v61.symm
                  have e_v61 : v61.toInt = y40.toInt + 1 := ai_add e_v61 rfl (show (Int32.ofInt 1).toInt = 1 from (by decide +kernel)) (by omega)
                  refine lv_iinc (v := v61) (lv' := [(3, .int v61), (0, .ref h0), (1, .ref h1), (2, .int x2), (4, .int y55)]) hx hb dX4_spread_90 hl (k := 3) rfl f_v61 (by decide) rfl (fun ls hl => ?_)
                  refine lv_goto (tgt := 7) hx hb dX4_spread_93 (by decide) ?_
                  exact ih7_43 v61 y56 y57 _ _ _ (by omega) (by omega) (by omega)  (by omega) hT hS (lv_sub hl [1, 2, 3, 0] rfl)
                · skip
                  have c_60 := ni_eq c_60 rfl li_0
                  refine lv_aload_n hx hb dX4_spread_78 rfl (lv_at hl 0 rfl) ?_
                  refine tz_get (ci := 3) (v := .int y56) (C := RX4) (F := TX4) (N := 12) hx hb hU iX4 hown hK hT 0 rfl rfl 10 (by decide) w164 (fun _ h9 => h9) rfl dX4_spread_79 ?_
                  refine lv_aload_n hx hb dX4_spread_82 rfl (lv_at hl 0 rfl) ?_
                  refine tz_get (ci := 3) (v := .int h0f9) (C := RX4) (F := TX4) (N := 12) hx hb hU iX4 hown hK hT 0 rfl rfl 9 (by decide) w163 (fun _ h9 => h9) rfl dX4_spread_83 ?_
                  refine lv_icmp_ne (tgt := 90) hx hb dX4_spread_86 (by decide) (fun c_62 => ?_) (fun c_62 => ?_)
                  · skip
                    have c_62 := ni_ne c_62 rfl rfl
                    obtain ⟨v63, e_v63⟩ : ∃ x : Int32, x = y40 + Int32.ofInt 1 := ⟨_, rfl⟩
                    have f_v63 := e_v63.symm
                    have e_v63 : v63.toInt = y40.toInt + 1 := ai_add e_v63 rfl (show (Int32.ofInt 1).toInt = 1 from (by decide +kernel)) (by omega)
                    refine lv_iinc (v := v63) (lv' := [(3, .int v63), (0, .ref h0), (1, .ref h1), (2, .int x2), (4, .int y55)]) hx hb dX4_spread_90 hl (k := 3) rfl f_v63 (by decide) rfl (fun ls hl => ?_)
                    refine lv_goto (tgt := 7) hx hb dX4_spread_93 (by decide) ?_
                    exact ih7_43 v63 y56 y57 _ _ _ (by omega) (by omega) (by omega)  (by omega) hT hS (lv_sub hl [1, 2, 3, 0] rfl)
                  · skip
                    have c_62 := ni_eq c_62 rfl rfl
                    exact tz_retV (B := B_cX4_spread_947f9 D k h0 h1 h2 h3 h4 h5 h6 h7 h8 h9 h10 h11 x2 h0f8 h0f9 h0f10 h0f11 h1f1 h10f0 h10f1 h10f2) hQ hx hb hr hlocks hS (Nat.le_of_ble_eq_true rfl) (Nat.le_of_ble_eq_true rfl) dX4_spread_89 (⟨y56, y57, (by omega), (by omega), hT⟩)
              · skip
                have c_59 := ni_nle c_59 rfl rfl
                refine lv_aload_n hx hb dX4_spread_32 rfl (lv_at hl 0 rfl) ?_
                refine lv_aload_n hx hb dX4_spread_33 rfl (lv_at hl 1 rfl) ?_
                refine lv_iload_n hx hb dX4_spread_34 rfl (lv_at hl 3 rfl) ?_
                refine lv_iload hx hb dX4_spread_35 (lv_at hl 4 rfl) ?_
                refine tcI (Tc := [(h0, ob 3 [.ref h2, .ref h3, .ref h4, .ref h5, .ref h6, .ref h7, .ref h8, .ref h9, .int h0f8, .int h0f9, .int y56, .int y57]), (h1, ob 2 [.ref h10, .int h1f1]), (h2, aJ (k 1) 900 anJ), (h3, aI (k 0) 100 anI), (h4, aI (k 0) 100 anI), (h5, aI (k 0) 100 anI), (h7, aI (k 0) 256 (rgI (-1) 99)), (h8, aI (k 0) 100 (rgI (-1) 99)), (h9, aJ (k 1) 60 anJ), (h10, ob 4 [.int h10f0, .int h10f1, .int h10f2, .ref h11]), (h11, aJ (k 1) 36 anJ)]) (Tr := [(h6, aI (k 0) 400 anI)]) (as := [h0, h1, h2, h3, h4, h5, h7, h8, h9, h10, h11]) (zcV (q0 := 0) (ci := 3) (As := [.ref h1, .int y40, .int y55]) (rest := []) (Tc := [(h0, ob 3 [.ref h2, .ref h3, .ref h4, .ref h5, .ref h6, .ref h7, .ref h8, .ref h9, .int h0f8, .int h0f9, .int y56, .int y57]), (h1, ob 2 [.ref h10, .int h1f1]), (h2, aJ (k 1) 900 anJ), (h3, aI (k 0) 100 anI), (h4, aI (k 0) 100 anI), (h5, aI (k 0) 100 anI), (h7, aI (k 0) 256 (rgI (-1) 99)), (h8, aI (k 0) 100 (rgI (-1) 99)), (h9, aJ (k 1) 60 anJ), (h10, ob 4 [.int h10f0, .int h10f1, .int h10f2, .ref h11]), (h11, aJ (k 1) 36 anJ)]) hx hb hml hown hU hK hT rfl rfl [0, 1, 2, 3, 4, 5, 7, 8, 9, 10, 11] rfl (by decide) (cX4_lead_5297f l D k _ h0 h1 h2 h3 h4 h5 h7 h8 h9 h10 h11 h6 y40 y55 h0f8 h0f9 y56 y57 h1f1 h10f0 h10f1 h10f2 (by omega) (by omega) (by omega) (by omega) (by omega) (by omega) (by omega) (by omega) (by omega)) w523 w520 w522 w12 w66 hdX4_lead ⟨rfl, rfl⟩ ⟨Nat.le_of_ble_eq_true rfl, Nat.le_of_ble_eq_true rfl⟩ rfl hl.1 (Nat.le_of_ble_eq_true rfl) dX4_spread_37 ⟨Nat.le_of_ble_eq_true rfl, Nat.le_of_ble_eq_true rfl⟩) hT hS hA [0, 1, 2, 3, 4, 5, 7, 8, 9, 10, 11] [6] rfl rfl rfl (by decide) (by decide) (fun r64 H locs hB J hS => ?_)
                obtain ⟨v65, b_v65, b_r64, hT1⟩ := hB
                have hT := J _ hT1
                have hT : TP D A [(h6, aI (k 0) 400 anI), (h0, ob 3 [.ref h2, .ref h3, .ref h4, .ref h5, .ref h6, .ref h7, .ref h8, .ref h9, .int h0f8, .int h0f9, .int v65, .int y57]), (h1, ob 2 [.ref h10, .int h1f1]), (h2, aJ (k 1) 900 anJ), (h3, aI (k 0) 100 anI), (h4, aI (k 0) 100 anI), (h5, aI (k 0) 100 anI), (h7, aI (k 0) 256 (rgI (-1) 99)), (h8, aI (k 0) 100 (rgI (-1) 99)), (h9, aJ (k 1) 60 anJ), (h10, ob 4 [.int h10f0, .int h10f1, .int h10f2, .ref h11]), (h11, aJ (k 1) 36 anJ)] _ := hT
                refine lv_istore (lv' := [(5, .int r64), (0, .ref h0), (1, .ref h1), (2, .int x2), (3, .int y40), (4, .int y55)]) hx hb dX4_spread_40 hl (by decide) rfl (fun ls hl => ?_)
                refine lv_aload_n hx hb dX4_spread_42 rfl (lv_at hl 1 rfl) ?_
                refine tz_get (ci := 3) (v := .ref h6) (C := RX4) (F := TX4) (N := 12) hx hb hU iX4 hown hK hT 1 rfl rfl 4 (by decide) w157 (fun _ h9 => h9) rfl dX4_spread_43 ?_
                refine lv_iload_n hx hb dX4_spread_46 rfl (lv_at hl 4 rfl) ?_
                refine lv_iconst (v := 4) hx hb dX4_spread_47 (by decide) ?_
                refine lv_imul hx hb dX4_spread_48 (lv_topi (fun v66 e_v66 => ?_))
                have e_v66 := ai_mul e_v66 rfl li_4 (by omega)
                refine lv_iload hx hb dX4_spread_49 (lv_at hl 5 rfl) ?_
                refine lv_iadd hx hb dX4_spread_51 (lv_topi (fun v67 e_v67 => ?_))
                have e_v67 := ai_add e_v67 rfl rfl (by omega)
                refine lv_iload hx hb dX4_spread_52 (lv_at hl 0 rfl) ?_
                refine tz_iast hx hb hK hT hS 0 rfl (by omega) (fun _ _ => trivial) dX4_spread_54 (fun H locs hT hS => ?_)
                refine lv_iload hx hb dX4_spread_55 (lv_at hl 0 rfl) ?_
                refine lv_if_ge (tgt := 65) hx hb dX4_spread_57 (by decide) (fun c_68 => ?_) (fun c_68 => ?_)
                · skip
                  have c_68 := ni_le c_68 li_0 rfl
                  obtain ⟨v69, e_v69⟩ : ∃ x : Int32, x = y55 + Int32.ofInt 1 := ⟨_, rfl⟩
                  have f_v69 := e_v69.symm
                  have e_v69 : v69.toInt = y55.toInt + 1 := ai_add e_v69 rfl (show (Int32.ofInt 1).toInt = 1 from (by decide +kernel)) (by omega)
                  refine lv_iinc (v := v69) (lv' := [(4, .int v69), (5, .int r64), (0, .ref h0), (1, .ref h1), (2, .int x2), (3, .int y40)]) hx hb dX4_spread_65 hl (k := 5) rfl f_v69 (by decide) rfl (fun ls hl => ?_)
                  refine lv_goto (tgt := 26) hx hb dX4_spread_68 (by decide) ?_
                  exact ih26_58 v69 v65 y57 _ _ _ (by omega) (by omega) (by omega)  (by omega) (hT.sub [1, 2, 3, 4, 5, 6, 0, 7, 8, 9, 10, 11] (by decide) rfl) hS (lv_sub hl [2, 3, 4, 5, 0] rfl)
                · skip
                  have c_68 := ni_nle c_68 li_0 rfl
                  refine lv_aload_n hx hb dX4_spread_60 rfl (lv_at hl 1 rfl) ?_
                  refine lv_iconst (v := 0) hx hb dX4_spread_61 (by decide) ?_
                  refine tz_put (ci := 3) (v := .int 0) (ty := .boolean) (C := RX4) (F := TX4) (N := 12) hx hb hU iX4 tyX4 tyX4_ok nmX4 hown hK hT hS 1 rfl rfl 11 (by decide) w167 (fun _ h9 => h9) rfl (by decide +kernel) rfl rfl (Nat.le_of_ble_eq_true rfl) dX4_spread_62 (fun H locs hT hS => ?_)
                  have hT : TP D A [(h6, aI (k 0) 400 anI), (h0, ob 3 [.ref h2, .ref h3, .ref h4, .ref h5, .ref h6, .ref h7, .ref h8, .ref h9, .int h0f8, .int h0f9, .int v65, .int 0]), (h1, ob 2 [.ref h10, .int h1f1]), (h2, aJ (k 1) 900 anJ), (h3, aI (k 0) 100 anI), (h4, aI (k 0) 100 anI), (h5, aI (k 0) 100 anI), (h7, aI (k 0) 256 (rgI (-1) 99)), (h8, aI (k 0) 100 (rgI (-1) 99)), (h9, aJ (k 1) 60 anJ), (h10, ob 4 [.int h10f0, .int h10f1, .int h10f2, .ref h11]), (h11, aJ (k 1) 36 anJ)] _ := hT
                  obtain ⟨v70, e_v70⟩ : ∃ x : Int32, x = y55 + Int32.ofInt 1 := ⟨_, rfl⟩
                  have f_v70 := e_v70.symm
                  have e_v70 : v70.toInt = y55.toInt + 1 := ai_add e_v70 rfl (show (Int32.ofInt 1).toInt = 1 from (by decide +kernel)) (by omega)
                  refine lv_iinc (v := v70) (lv' := [(4, .int v70), (5, .int r64), (0, .ref h0), (1, .ref h1), (2, .int x2), (3, .int y40)]) hx hb dX4_spread_65 hl (k := 5) rfl f_v70 (by decide) rfl (fun ls hl => ?_)
                  refine lv_goto (tgt := 26) hx hb dX4_spread_68 (by decide) ?_
                  exact ih26_58 v70 v65 (0) _ _ _ (by have := li_0; omega) (by have := li_0; omega) (by have := li_0; omega)  (by have := li_0; omega) (hT.sub [1, 2, 3, 4, 5, 6, 0, 7, 8, 9, 10, 11] (by decide) rfl) hS (lv_sub hl [2, 3, 4, 5, 0] rfl)
          exact lp26_58 ((x2.toInt + (-1) * (0 : Int32).toInt + 1).toNat + 1) (0) y41 y42 _ _ _ (by have := li_0; omega) (by have := li_0; omega) (by have := li_0; omega)  (Nat.lt_succ_self _) hT hS (lv_sub hl [1, 2, 3, 4, 0] rfl)
  exact lp7_43 ((h0f9.toInt + (-1) * (0 : Int32).toInt + 1).toNat + 1) (0) h0f10 (1) _ _ _ (by have := li_0; have := li_1; omega) (by have := li_0; have := li_1; omega) (by have := li_0; have := li_1; omega)  (Nat.lt_succ_self _) hT hS (lv_sub hl [1, 2, 3, 0] rfl)
abbrev Rm_cX10_listAll_fe300 : Room := { frames := 5, cells := 0, slots := 0, locals := 129 }
abbrev B_cX10_listAll_fe300 (D : va_G) (k : Nat → ClassId) (h0 h1 h5 h8 h11 h13 h21 h22 h23 h24 h25 h26 h27 h28 h2 h3 h4 h6 h7 h9 h10 h12 : Nat) (h0f2 : Int32) (h0f6 : Int32) (h0f8 : Int32) (h0f11 : Int32) (h1f0 : Int32) (h1f1 : Int32) (h1f2 : Int32) (h5f8 : Int32) (h5f9 : Int32) (h5f10 : Int32) (h5f11 : Int32) (h8f1 : Int32) (A : Nat → Prop) (H : Heap) : Prop := ∃ o0 : Int32, ∃ o1 : Int32, ∃ o2 : Int32, ∃ o3 : Int32, ∃ o4 : Int32, ∃ o5 : Int32, (1 ≤ o0.toInt ∧ o0.toInt ≤ 1) ∧ (0 ≤ o1.toInt ∧ o1.toInt ≤ 9) ∧ (0 ≤ o2.toInt ∧ o2.toInt ≤ 100) ∧ (0 ≤ o3.toInt ∧ o3.toInt ≤ 100) ∧ (0 ≤ o4.toInt ∧ o4.toInt ≤ 1) ∧ (0 ≤ o5.toInt ∧ o5.toInt ≤ 7) ∧ TP D A [(h0, ob 7 [.ref h1, .ref h2, .int h0f2, .ref h3, .ref h4, .ref h5, .int o0, .ref h6, .int h0f8, .null, .ref h7, .int h0f11, .ref h8, .ref h9, .ref h10, .ref h11, .ref h12]), (h1, ob 4 [.int h1f0, .int h1f1, .int h1f2, .ref h13]), (h5, ob 3 [.ref h21, .ref h22, .ref h23, .ref h24, .ref h25, .ref h26, .ref h27, .ref h28, .int o1, .int o2, .int o3, .int o4]), (h8, ob 2 [.ref h1, .int o5]), (h11, aJ (k 1) 9 anJ), (h13, aJ (k 1) 36 anJ), (h21, aJ (k 1) 900 anJ), (h22, aI (k 0) 100 anI), (h23, aI (k 0) 100 anI), (h24, aI (k 0) 100 anI), (h25, aI (k 0) 400 anI), (h26, aI (k 0) 256 (rgI (-1) 99)), (h27, aI (k 0) 100 (rgI (-1) 99)), (h28, aJ (k 1) 60 anJ)] H
set_option maxHeartbeats 4000000 in
set_option maxRecDepth 100000 in
theorem cX10_listAll_fe300 (l : Launch) (D : va_G) (k : Nat → ClassId) (sz : Nat) (h0 h1 h5 h8 h11 h13 h21 h22 h23 h24 h25 h26 h27 h28 h2 h3 h4 h6 h7 h9 h10 h12 : Nat) (h0f2 : Int32) (h0f6 : Int32) (h0f8 : Int32) (h0f11 : Int32) (h1f0 : Int32) (h1f1 : Int32) (h1f2 : Int32) (h5f8 : Int32) (h5f9 : Int32) (h5f10 : Int32) (h5f11 : Int32) (h8f1 : Int32) (b_h0f2 : 0 ≤ h0f2.toInt ∧ h0f2.toInt ≤ 1) (b_h0f6 : 0 ≤ h0f6.toInt ∧ h0f6.toInt ≤ 1) (b_h0f8 : 0 ≤ h0f8.toInt ∧ h0f8.toInt ≤ 1) (b_h0f11 : 0 ≤ h0f11.toInt ∧ h0f11.toInt ≤ 200) (b_h1f0 : 1 ≤ h1f0.toInt ∧ h1f0.toInt ≤ 3) (b_h1f1 : 0 ≤ h1f1.toInt ∧ h1f1.toInt ≤ 4) (b_h5f8 : 0 ≤ h5f8.toInt ∧ h5f8.toInt ≤ 9) (b_h5f9 : 0 ≤ h5f9.toInt ∧ h5f9.toInt ≤ 100) (b_h5f10 : 0 ≤ h5f10.toInt ∧ h5f10.toInt ≤ 100) (b_h5f11 : 0 ≤ h5f11.toInt ∧ h5f11.toInt ≤ 1) (b_h8f1 : 0 ≤ h8f1.toInt ∧ h8f1.toInt ≤ 7) : Met l yX10_listAll (Cond.code yX10_listAll cX10_listAll 1 none :: uw) Rm_cX10_listAll_fe300 (pT D k sz [.ref h0] [(h0, ob 7 [.ref h1, .ref h2, .int h0f2, .ref h3, .ref h4, .ref h5, .int h0f6, .ref h6, .int h0f8, .null, .ref h7, .int h0f11, .ref h8, .ref h9, .ref h10, .ref h11, .ref h12]), (h1, ob 4 [.int h1f0, .int h1f1, .int h1f2, .ref h13]), (h5, ob 3 [.ref h21, .ref h22, .ref h23, .ref h24, .ref h25, .ref h26, .ref h27, .ref h28, .int h5f8, .int h5f9, .int h5f10, .int h5f11]), (h8, ob 2 [.ref h1, .int h8f1]), (h11, aJ (k 1) 9 anJ), (h13, aJ (k 1) 36 anJ), (h21, aJ (k 1) 900 anJ), (h22, aI (k 0) 100 anI), (h23, aI (k 0) 100 anI), (h24, aI (k 0) 100 anI), (h25, aI (k 0) 400 anI), (h26, aI (k 0) 256 (rgI (-1) 99)), (h27, aI (k 0) 100 (rgI (-1) 99)), (h28, aJ (k 1) 60 anJ)]) (qV (B_cX10_listAll_fe300 D k h0 h1 h5 h8 h11 h13 h21 h22 h23 h24 h25 h26 h27 h28 h2 h3 h4 h6 h7 h9 h10 h12 h0f2 h0f6 h0f8 h0f11 h1f0 h1f1 h1f2 h5f8 h5f9 h5f10 h5f11 h8f1 (zA [h0, h1, h5, h8, h11, h13, h21, h22, h23, h24, h25, h26, h27, h28] sz)) (zA [h0, h1, h5, h8, h11, h13, h21, h22, h23, h24, h25, h26, h27, h28] sz)) 0 0 (zA [h0, h1, h5, h8, h11, h13, h21, h22, h23, h24, h25, h26, h27, h28] sz) := by
  refine tz_begin (as := [h0, h1, h5, h8, h11, h13, h21, h22, h23, h24, h25, h26, h27, h28]) (Qc := fun A => qV (B_cX10_listAll_fe300 D k h0 h1 h5 h8 h11 h13 h21 h22 h23 h24 h25 h26 h27 h28 h2 h3 h4 h6 h7 h9 h10 h12 h0f2 h0f6 h0f8 h0f11 h1f0 h1f1 h1f2 h5f8 h5f9 h5f10 h5f11 h8f1 A) A) (by decide +kernel) rfl (Nat.le_of_ble_eq_true rfl) ?_
  intro p e s m args below meth c ls A Q hx hb hr hml hown hlocks hin hU hK hT hS hA hl hQ
  have hl : lv_has ls 1 [(0, .ref h0)] := hl
  have hT : TP D A [(h0, ob 7 [.ref h1, .ref h2, .int h0f2, .ref h3, .ref h4, .ref h5, .int h0f6, .ref h6, .int h0f8, .null, .ref h7, .int h0f11, .ref h8, .ref h9, .ref h10, .ref h11, .ref h12]), (h1, ob 4 [.int h1f0, .int h1f1, .int h1f2, .ref h13]), (h5, ob 3 [.ref h21, .ref h22, .ref h23, .ref h24, .ref h25, .ref h26, .ref h27, .ref h28, .int h5f8, .int h5f9, .int h5f10, .int h5f11]), (h8, ob 2 [.ref h1, .int h8f1]), (h11, aJ (k 1) 9 anJ), (h13, aJ (k 1) 36 anJ), (h21, aJ (k 1) 900 anJ), (h22, aI (k 0) 100 anI), (h23, aI (k 0) 100 anI), (h24, aI (k 0) 100 anI), (h25, aI (k 0) 400 anI), (h26, aI (k 0) 256 (rgI (-1) 99)), (h27, aI (k 0) 100 (rgI (-1) 99)), (h28, aJ (k 1) 60 anJ)] s.heap := hT
  refine lv_aload_n hx hb dX10_listAll_0 rfl (lv_at hl 0 rfl) ?_
  refine tz_get (ci := 7) (v := .int h0f6) (C := RX10) (F := TX10) (N := 17) hx hb hU iX10 hown hK hT 0 rfl rfl 6 (by decide) w255 (fun _ h9 => h9) rfl dX10_listAll_1 ?_
  refine lv_if_eq (tgt := 8) hx hb dX10_listAll_4 (by decide) (fun c_1 => ?_) (fun c_1 => ?_)
  · skip
    have c_1 := ni_eq c_1 rfl li_0
    refine lv_aload_n hx hb dX10_listAll_8 rfl (lv_at hl 0 rfl) ?_
    refine tz_get (ci := 7) (v := .ref h11) (C := RX10) (F := TX10) (N := 17) hx hb hU iX10 hown hK hT 0 rfl rfl 15 (by decide) w264 (fun _ h9 => h9) rfl dX10_listAll_9 ?_
    refine lv_aload_n hx hb dX10_listAll_12 rfl (lv_at hl 0 rfl) ?_
    refine tz_get (ci := 7) (v := .ref h1) (C := RX10) (F := TX10) (N := 17) hx hb hU iX10 hown hK hT 0 rfl rfl 0 (by decide) w249 (fun _ h9 => h9) rfl dX10_listAll_13 ?_
    refine tz_get (ci := 4) (v := .int h1f0) (C := RX5) (F := TX5) (N := 4) hx hb hU iX5 hown hK hT 1 rfl rfl 0 (by decide) w93 (fun _ h9 => h9) rfl dX10_listAll_16 ?_
    refine tcV (Tc := [(h11, aJ (k 1) 9 anJ)]) (Tr := [(h0, ob 7 [.ref h1, .ref h2, .int h0f2, .ref h3, .ref h4, .ref h5, .int h0f6, .ref h6, .int h0f8, .null, .ref h7, .int h0f11, .ref h8, .ref h9, .ref h10, .ref h11, .ref h12]), (h1, ob 4 [.int h1f0, .int h1f1, .int h1f2, .ref h13]), (h5, ob 3 [.ref h21, .ref h22, .ref h23, .ref h24, .ref h25, .ref h26, .ref h27, .ref h28, .int h5f8, .int h5f9, .int h5f10, .int h5f11]), (h8, ob 2 [.ref h1, .int h8f1]), (h13, aJ (k 1) 36 anJ), (h21, aJ (k 1) 900 anJ), (h22, aI (k 0) 100 anI), (h23, aI (k 0) 100 anI), (h24, aI (k 0) 100 anI), (h25, aI (k 0) 400 anI), (h26, aI (k 0) 256 (rgI (-1) 99)), (h27, aI (k 0) 100 (rgI (-1) 99)), (h28, aJ (k 1) 60 anJ)]) (as := [h11]) (zcS (As := [.ref h11, .int h1f0]) (rest := []) (Tc := [(h11, aJ (k 1) 9 anJ)]) hx hb hml hown hU hK hT [4] rfl (by decide) (cX7_becomeOne_9e486 l D k _ h11 h1f0 (by omega)) w333 w331 w332 w74 hdX7_becomeOne ⟨rfl, rfl⟩ ⟨Nat.le_of_ble_eq_true rfl, Nat.le_of_ble_eq_true rfl⟩ rfl hl.1 (Nat.le_of_ble_eq_true rfl) dX10_listAll_19 ⟨Nat.le_of_ble_eq_true rfl, Nat.le_of_ble_eq_true rfl⟩) hT hS hA [4] [0, 1, 2, 3, 5, 6, 7, 8, 9, 10, 11, 12, 13] rfl rfl rfl (by decide) (by decide) (fun H locs hB J hS => ?_)
    have hT1 := hB
    have hT := J _ hT1
    have hT : TP D A [(h0, ob 7 [.ref h1, .ref h2, .int h0f2, .ref h3, .ref h4, .ref h5, .int h0f6, .ref h6, .int h0f8, .null, .ref h7, .int h0f11, .ref h8, .ref h9, .ref h10, .ref h11, .ref h12]), (h1, ob 4 [.int h1f0, .int h1f1, .int h1f2, .ref h13]), (h5, ob 3 [.ref h21, .ref h22, .ref h23, .ref h24, .ref h25, .ref h26, .ref h27, .ref h28, .int h5f8, .int h5f9, .int h5f10, .int h5f11]), (h8, ob 2 [.ref h1, .int h8f1]), (h13, aJ (k 1) 36 anJ), (h21, aJ (k 1) 900 anJ), (h22, aI (k 0) 100 anI), (h23, aI (k 0) 100 anI), (h24, aI (k 0) 100 anI), (h25, aI (k 0) 400 anI), (h26, aI (k 0) 256 (rgI (-1) 99)), (h27, aI (k 0) 100 (rgI (-1) 99)), (h28, aJ (k 1) 60 anJ), (h11, aJ (k 1) 9 anJ)] _ := hT
    refine lv_aload_n hx hb dX10_listAll_22 rfl (lv_at hl 0 rfl) ?_
    refine tz_get (ci := 7) (v := .ref h5) (C := RX10) (F := TX10) (N := 17) hx hb hU iX10 hown hK hT 0 rfl rfl 5 (by decide) w254 (fun _ h9 => h9) rfl dX10_listAll_23 ?_
    refine lv_aload_n hx hb dX10_listAll_26 rfl (lv_at hl 0 rfl) ?_
    refine tz_get (ci := 7) (v := .ref h1) (C := RX10) (F := TX10) (N := 17) hx hb hU iX10 hown hK hT 0 rfl rfl 0 (by decide) w249 (fun _ h9 => h9) rfl dX10_listAll_27 ?_
    refine tcI (Tc := [(h1, ob 4 [.int h1f0, .int h1f1, .int h1f2, .ref h13])]) (Tr := [(h0, ob 7 [.ref h1, .ref h2, .int h0f2, .ref h3, .ref h4, .ref h5, .int h0f6, .ref h6, .int h0f8, .null, .ref h7, .int h0f11, .ref h8, .ref h9, .ref h10, .ref h11, .ref h12]), (h5, ob 3 [.ref h21, .ref h22, .ref h23, .ref h24, .ref h25, .ref h26, .ref h27, .ref h28, .int h5f8, .int h5f9, .int h5f10, .int h5f11]), (h8, ob 2 [.ref h1, .int h8f1]), (h13, aJ (k 1) 36 anJ), (h21, aJ (k 1) 900 anJ), (h22, aI (k 0) 100 anI), (h23, aI (k 0) 100 anI), (h24, aI (k 0) 100 anI), (h25, aI (k 0) 400 anI), (h26, aI (k 0) 256 (rgI (-1) 99)), (h27, aI (k 0) 100 (rgI (-1) 99)), (h28, aJ (k 1) 60 anJ), (h11, aJ (k 1) 9 anJ)]) (as := [h1]) (zcV (q0 := 1) (ci := 4) (As := []) (rest := [.ref h5]) (Tc := [(h1, ob 4 [.int h1f0, .int h1f1, .int h1f2, .ref h13])]) hx hb hml hown hU hK hT rfl rfl [1] rfl (by decide) (cX5_cellCount_642c9 l D k _ h1 h13 h1f0 h1f1 h1f2 (by omega) (by omega)) w385 w382 w383 w384 w64 hdX5_cellCount ⟨rfl, rfl⟩ ⟨Nat.le_of_ble_eq_true rfl, Nat.le_of_ble_eq_true rfl⟩ rfl hl.1 (Nat.le_of_ble_eq_true rfl) dX10_listAll_30 ⟨Nat.le_of_ble_eq_true rfl, Nat.le_of_ble_eq_true rfl⟩) hT hS hA [1] [0, 2, 3, 4, 5, 6, 7, 8, 9, 10, 11, 12, 13] rfl rfl rfl (by decide) (by decide) (fun r3 H locs hB J hS => ?_)
    obtain ⟨b_r3, hT1⟩ := hB
    have hT := J _ hT1
    have hT : TP D A [(h0, ob 7 [.ref h1, .ref h2, .int h0f2, .ref h3, .ref h4, .ref h5, .int h0f6, .ref h6, .int h0f8, .null, .ref h7, .int h0f11, .ref h8, .ref h9, .ref h10, .ref h11, .ref h12]), (h5, ob 3 [.ref h21, .ref h22, .ref h23, .ref h24, .ref h25, .ref h26, .ref h27, .ref h28, .int h5f8, .int h5f9, .int h5f10, .int h5f11]), (h8, ob 2 [.ref h1, .int h8f1]), (h13, aJ (k 1) 36 anJ), (h21, aJ (k 1) 900 anJ), (h22, aI (k 0) 100 anI), (h23, aI (k 0) 100 anI), (h24, aI (k 0) 100 anI), (h25, aI (k 0) 400 anI), (h26, aI (k 0) 256 (rgI (-1) 99)), (h27, aI (k 0) 100 (rgI (-1) 99)), (h28, aJ (k 1) 60 anJ), (h11, aJ (k 1) 9 anJ), (h1, ob 4 [.int h1f0, .int h1f1, .int h1f2, .ref h13])] _ := hT
    refine lv_bipush (v := 100) hx hb dX10_listAll_33 (by decide) ?_
    have q_q5 := li_100
    refine tcV (Tc := [(h5, ob 3 [.ref h21, .ref h22, .ref h23, .ref h24, .ref h25, .ref h26, .ref h27, .ref h28, .int h5f8, .int h5f9, .int h5f10, .int h5f11]), (h26, aI (k 0) 256 (rgI (-1) 99))]) (Tr := [(h0, ob 7 [.ref h1, .ref h2, .int h0f2, .ref h3, .ref h4, .ref h5, .int h0f6, .ref h6, .int h0f8, .null, .ref h7, .int h0f11, .ref h8, .ref h9, .ref h10, .ref h11, .ref h12]), (h8, ob 2 [.ref h1, .int h8f1]), (h13, aJ (k 1) 36 anJ), (h21, aJ (k 1) 900 anJ), (h22, aI (k 0) 100 anI), (h23, aI (k 0) 100 anI), (h24, aI (k 0) 100 anI), (h25, aI (k 0) 400 anI), (h27, aI (k 0) 100 (rgI (-1) 99)), (h28, aJ (k 1) 60 anJ), (h11, aJ (k 1) 9 anJ), (h1, ob 4 [.int h1f0, .int h1f1, .int h1f2, .ref h13])]) (as := [h5, h26]) (zcV (q0 := 1) (ci := 3) (As := [.int r3, .int 100]) (rest := []) (Tc := [(h5, ob 3 [.ref h21, .ref h22, .ref h23, .ref h24, .ref h25, .ref h26, .ref h27, .ref h28, .int h5f8, .int h5f9, .int h5f10, .int h5f11]), (h26, aI (k 0) 256 (rgI (-1) 99))]) hx hb hml hown hU hK hT rfl rfl [1, 9] rfl (by decide) (cX4_clear_4f28a l D k _ h5 h26 h21 h22 h23 h24 h25 h27 h28 r3 (100) h5f8 h5f9 h5f10 h5f11 (by omega) (by have := li_100; omega) (by omega) (by omega) (by omega) (by omega)) w496 w493 w494 w495 w66 hdX4_clear ⟨rfl, rfl⟩ ⟨Nat.le_of_ble_eq_true rfl, Nat.le_of_ble_eq_true rfl⟩ rfl hl.1 (Nat.le_of_ble_eq_true rfl) dX10_listAll_35 ⟨Nat.le_of_ble_eq_true rfl, Nat.le_of_ble_eq_true rfl⟩) hT hS hA [1, 9] [0, 2, 3, 4, 5, 6, 7, 8, 10, 11, 12, 13] rfl rfl rfl (by decide) (by decide) (fun H locs hB J hS => ?_)
    have hT1 := hB
    have hT := J _ hT1
    have hT : TP D A [(h0, ob 7 [.ref h1, .ref h2, .int h0f2, .ref h3, .ref h4, .ref h5, .int h0f6, .ref h6, .int h0f8, .null, .ref h7, .int h0f11, .ref h8, .ref h9, .ref h10, .ref h11, .ref h12]), (h8, ob 2 [.ref h1, .int h8f1]), (h13, aJ (k 1) 36 anJ), (h21, aJ (k 1) 900 anJ), (h22, aI (k 0) 100 anI), (h23, aI (k 0) 100 anI), (h24, aI (k 0) 100 anI), (h25, aI (k 0) 400 anI), (h27, aI (k 0) 100 (rgI (-1) 99)), (h28, aJ (k 1) 60 anJ), (h11, aJ (k 1) 9 anJ), (h1, ob 4 [.int h1f0, .int h1f1, .int h1f2, .ref h13]), (h5, ob 3 [.ref h21, .ref h22, .ref h23, .ref h24, .ref h25, .ref h26, .ref h27, .ref h28, .int r3, .int 100, .int 0, .int 0]), (h26, aI (k 0) 256 (rgI (-1) 99))] _ := hT
    refine lv_aload_n hx hb dX10_listAll_38 rfl (lv_at hl 0 rfl) ?_
    refine tz_get (ci := 7) (v := .ref h5) (C := RX10) (F := TX10) (N := 17) hx hb hU iX10 hown hK hT 0 rfl rfl 5 (by decide) w254 (fun _ h9 => h9) rfl dX10_listAll_39 ?_
    refine lv_aload_n hx hb dX10_listAll_42 rfl (lv_at hl 0 rfl) ?_
    refine tz_get (ci := 7) (v := .ref h11) (C := RX10) (F := TX10) (N := 17) hx hb hU iX10 hown hK hT 0 rfl rfl 15 (by decide) w264 (fun _ h9 => h9) rfl dX10_listAll_43 ?_
    refine lv_bipush (v := (-3)) hx hb dX10_listAll_46 (by decide) ?_
    refine lv_bipush (v := (-3)) hx hb dX10_listAll_48 (by decide) ?_
    have q_q7 := li_m3
    have q_q8 := li_m3
    have q_q9 := li_100
    have q_q10 := li_0
    have q_q11 := li_0
    refine tcI (Tc := [(h5, ob 3 [.ref h21, .ref h22, .ref h23, .ref h24, .ref h25, .ref h26, .ref h27, .ref h28, .int r3, .int 100, .int 0, .int 0]), (h11, aJ (k 1) 9 anJ), (h21, aJ (k 1) 900 anJ), (h22, aI (k 0) 100 anI), (h23, aI (k 0) 100 anI), (h24, aI (k 0) 100 anI), (h26, aI (k 0) 256 (rgI (-1) 99)), (h27, aI (k 0) 100 (rgI (-1) 99))]) (Tr := [(h0, ob 7 [.ref h1, .ref h2, .int h0f2, .ref h3, .ref h4, .ref h5, .int h0f6, .ref h6, .int h0f8, .null, .ref h7, .int h0f11, .ref h8, .ref h9, .ref h10, .ref h11, .ref h12]), (h8, ob 2 [.ref h1, .int h8f1]), (h13, aJ (k 1) 36 anJ), (h25, aI (k 0) 400 anI), (h28, aJ (k 1) 60 anJ), (h1, ob 4 [.int h1f0, .int h1f1, .int h1f2, .ref h13])]) (as := [h5, h11, h21, h22, h23, h24, h26, h27]) (zcV (q0 := 12) (ci := 3) (As := [.ref h11, .int (-3), .int (-3)]) (rest := []) (Tc := [(h5, ob 3 [.ref h21, .ref h22, .ref h23, .ref h24, .ref h25, .ref h26, .ref h27, .ref h28, .int r3, .int 100, .int 0, .int 0]), (h11, aJ (k 1) 9 anJ), (h21, aJ (k 1) 900 anJ), (h22, aI (k 0) 100 anI), (h23, aI (k 0) 100 anI), (h24, aI (k 0) 100 anI), (h26, aI (k 0) 256 (rgI (-1) 99)), (h27, aI (k 0) 100 (rgI (-1) 99))]) hx hb hml hown hU hK hT rfl rfl [12, 10, 3, 4, 5, 6, 13, 8] rfl (by decide) (cX4_append_9dcf5 l D k _ h5 h11 h21 h22 h23 h24 h26 h27 h25 h28 ((-3)) ((-3)) r3 (100) (0) (0) (by have := li_m3; omega) (by have := li_m3; omega) (by omega) (by have := li_100; omega) (by have := li_0; omega) (by have := li_0; omega)) w501 w498 w499 w500 w66 hdX4_append ⟨rfl, rfl⟩ ⟨Nat.le_of_ble_eq_true rfl, Nat.le_of_ble_eq_true rfl⟩ rfl hl.1 (Nat.le_of_ble_eq_true rfl) dX10_listAll_50 ⟨Nat.le_of_ble_eq_true rfl, Nat.le_of_ble_eq_true rfl⟩) hT hS hA [12, 10, 3, 4, 5, 6, 13, 8] [0, 1, 2, 7, 9, 11] rfl rfl rfl (by decide) (by decide) (fun r6 H locs hB J hS => ?_)
    obtain ⟨v12, b_v12, rfl, hT1⟩ := hB
    have hT := J _ hT1
    have hT : TP D A [(h0, ob 7 [.ref h1, .ref h2, .int h0f2, .ref h3, .ref h4, .ref h5, .int h0f6, .ref h6, .int h0f8, .null, .ref h7, .int h0f11, .ref h8, .ref h9, .ref h10, .ref h11, .ref h12]), (h8, ob 2 [.ref h1, .int h8f1]), (h13, aJ (k 1) 36 anJ), (h25, aI (k 0) 400 anI), (h28, aJ (k 1) 60 anJ), (h1, ob 4 [.int h1f0, .int h1f1, .int h1f2, .ref h13]), (h5, ob 3 [.ref h21, .ref h22, .ref h23, .ref h24, .ref h25, .ref h26, .ref h27, .ref h28, .int r3, .int 100, .int v12, .int 0]), (h11, aJ (k 1) 9 anJ), (h21, aJ (k 1) 900 anJ), (h22, aI (k 0) 100 anI), (h23, aI (k 0) 100 anI), (h24, aI (k 0) 100 anI), (h26, aI (k 0) 256 (rgI (-1) 99)), (h27, aI (k 0) 100 (rgI (-1) 99))] _ := hT
    refine lv_pop hx hb dX10_listAll_53 rfl ?_
    refine lv_aload_n hx hb dX10_listAll_54 rfl (lv_at hl 0 rfl) ?_
    refine tz_get (ci := 7) (v := .ref h8) (C := RX10) (F := TX10) (N := 17) hx hb hU iX10 hown hK hT 0 rfl rfl 12 (by decide) w261 (fun _ h9 => h9) rfl dX10_listAll_55 ?_
    refine lv_iconst (v := 0) hx hb dX10_listAll_58 (by decide) ?_
    refine tz_put (ci := 2) (v := .int 0) (ty := .int) (C := RX2) (F := TX2) (N := 2) hx hb hU iX2 tyX2 tyX2_ok nmX2 hown hK hT hS 1 rfl rfl 1 (by decide) w206 (fun _ h9 => h9) rfl (by decide +kernel) rfl rfl (Nat.le_of_ble_eq_true rfl) dX10_listAll_59 (fun H locs hT hS => ?_)
    have hT : TP D A [(h0, ob 7 [.ref h1, .ref h2, .int h0f2, .ref h3, .ref h4, .ref h5, .int h0f6, .ref h6, .int h0f8, .null, .ref h7, .int h0f11, .ref h8, .ref h9, .ref h10, .ref h11, .ref h12]), (h8, ob 2 [.ref h1, .int 0]), (h13, aJ (k 1) 36 anJ), (h25, aI (k 0) 400 anI), (h28, aJ (k 1) 60 anJ), (h1, ob 4 [.int h1f0, .int h1f1, .int h1f2, .ref h13]), (h5, ob 3 [.ref h21, .ref h22, .ref h23, .ref h24, .ref h25, .ref h26, .ref h27, .ref h28, .int r3, .int 100, .int v12, .int 0]), (h11, aJ (k 1) 9 anJ), (h21, aJ (k 1) 900 anJ), (h22, aI (k 0) 100 anI), (h23, aI (k 0) 100 anI), (h24, aI (k 0) 100 anI), (h26, aI (k 0) 256 (rgI (-1) 99)), (h27, aI (k 0) 100 (rgI (-1) 99))] _ := hT
    refine lv_aload_n hx hb dX10_listAll_62 rfl (lv_at hl 0 rfl) ?_
    refine tz_get (ci := 7) (v := .ref h5) (C := RX10) (F := TX10) (N := 17) hx hb hU iX10 hown hK hT 0 rfl rfl 5 (by decide) w254 (fun _ h9 => h9) rfl dX10_listAll_63 ?_
    refine lv_aload_n hx hb dX10_listAll_66 rfl (lv_at hl 0 rfl) ?_
    refine tz_get (ci := 7) (v := .ref h8) (C := RX10) (F := TX10) (N := 17) hx hb hU iX10 hown hK hT 0 rfl rfl 12 (by decide) w261 (fun _ h9 => h9) rfl dX10_listAll_67 ?_
    refine lv_aload_n hx hb dX10_listAll_70 rfl (lv_at hl 0 rfl) ?_
    refine tz_get (ci := 7) (v := .ref h1) (C := RX10) (F := TX10) (N := 17) hx hb hU iX10 hown hK hT 0 rfl rfl 0 (by decide) w249 (fun _ h9 => h9) rfl dX10_listAll_71 ?_
    refine tz_get (ci := 4) (v := .int h1f1) (C := RX5) (F := TX5) (N := 4) hx hb hU iX5 hown hK hT 5 rfl rfl 1 (by decide) w97 (fun _ h9 => h9) rfl dX10_listAll_74 ?_
    have q_q14 := li_100
    have q_q15 := li_0
    have q_q16 := li_0
    refine tcV (Tc := [(h5, ob 3 [.ref h21, .ref h22, .ref h23, .ref h24, .ref h25, .ref h26, .ref h27, .ref h28, .int r3, .int 100, .int v12, .int 0]), (h8, ob 2 [.ref h1, .int 0]), (h21, aJ (k 1) 900 anJ), (h22, aI (k 0) 100 anI), (h23, aI (k 0) 100 anI), (h24, aI (k 0) 100 anI), (h25, aI (k 0) 400 anI), (h26, aI (k 0) 256 (rgI (-1) 99)), (h27, aI (k 0) 100 (rgI (-1) 99)), (h28, aJ (k 1) 60 anJ), (h1, ob 4 [.int h1f0, .int h1f1, .int h1f2, .ref h13]), (h13, aJ (k 1) 36 anJ)]) (Tr := [(h0, ob 7 [.ref h1, .ref h2, .int h0f2, .ref h3, .ref h4, .ref h5, .int h0f6, .ref h6, .int h0f8, .null, .ref h7, .int h0f11, .ref h8, .ref h9, .ref h10, .ref h11, .ref h12]), (h11, aJ (k 1) 9 anJ)]) (as := [h5, h8, h21, h22, h23, h24, h25, h26, h27, h28, h1, h13]) (zcV (q0 := 6) (ci := 3) (As := [.ref h8, .int h1f1]) (rest := []) (Tc := [(h5, ob 3 [.ref h21, .ref h22, .ref h23, .ref h24, .ref h25, .ref h26, .ref h27, .ref h28, .int r3, .int 100, .int v12, .int 0]), (h8, ob 2 [.ref h1, .int 0]), (h21, aJ (k 1) 900 anJ), (h22, aI (k 0) 100 anI), (h23, aI (k 0) 100 anI), (h24, aI (k 0) 100 anI), (h25, aI (k 0) 400 anI), (h26, aI (k 0) 256 (rgI (-1) 99)), (h27, aI (k 0) 100 (rgI (-1) 99)), (h28, aJ (k 1) 60 anJ), (h1, ob 4 [.int h1f0, .int h1f1, .int h1f2, .ref h13]), (h13, aJ (k 1) 36 anJ)]) hx hb hml hown hU hK hT rfl rfl [6, 1, 8, 9, 10, 11, 3, 12, 13, 4, 5, 2] rfl (by decide) (cX4_spread_947f9 l D k _ h5 h8 h21 h22 h23 h24 h25 h26 h27 h28 h1 h13 h1f1 r3 (100) v12 (0) (0) h1f0 h1f1 h1f2 (by omega) (by omega) (by have := li_100; omega) (by omega) (by have := li_0; omega) (by have := li_0; omega) (by omega) (by omega)) w519 w516 w517 w518 w66 hdX4_spread ⟨rfl, rfl⟩ ⟨Nat.le_of_ble_eq_true rfl, Nat.le_of_ble_eq_true rfl⟩ rfl hl.1 (Nat.le_of_ble_eq_true rfl) dX10_listAll_77 ⟨Nat.le_of_ble_eq_true rfl, Nat.le_of_ble_eq_true rfl⟩) hT hS hA [6, 1, 8, 9, 10, 11, 3, 12, 13, 4, 5, 2] [0, 7] rfl rfl rfl (by decide) (by decide) (fun H locs hB J hS => ?_)
    obtain ⟨v17, v18, b_v17, b_v18, hT1⟩ := hB
    have hT := J _ hT1
    have hT : TP D A [(h0, ob 7 [.ref h1, .ref h2, .int h0f2, .ref h3, .ref h4, .ref h5, .int h0f6, .ref h6, .int h0f8, .null, .ref h7, .int h0f11, .ref h8, .ref h9, .ref h10, .ref h11, .ref h12]), (h11, aJ (k 1) 9 anJ), (h5, ob 3 [.ref h21, .ref h22, .ref h23, .ref h24, .ref h25, .ref h26, .ref h27, .ref h28, .int r3, .int 100, .int v17, .int v18]), (h8, ob 2 [.ref h1, .int 0]), (h21, aJ (k 1) 900 anJ), (h22, aI (k 0) 100 anI), (h23, aI (k 0) 100 anI), (h24, aI (k 0) 100 anI), (h25, aI (k 0) 400 anI), (h26, aI (k 0) 256 (rgI (-1) 99)), (h27, aI (k 0) 100 (rgI (-1) 99)), (h28, aJ (k 1) 60 anJ), (h1, ob 4 [.int h1f0, .int h1f1, .int h1f2, .ref h13]), (h13, aJ (k 1) 36 anJ)] _ := hT
    refine lv_aload_n hx hb dX10_listAll_80 rfl (lv_at hl 0 rfl) ?_
    refine lv_iconst (v := 1) hx hb dX10_listAll_81 (by decide) ?_
    refine tz_put (ci := 7) (v := .int 1) (ty := .boolean) (C := RX10) (F := TX10) (N := 17) hx hb hU iX10 tyX10 tyX10_ok nmX10 hown hK hT hS 0 rfl rfl 6 (by decide) w255 (fun _ h9 => h9) rfl (by decide +kernel) rfl rfl (Nat.le_of_ble_eq_true rfl) dX10_listAll_82 (fun H locs hT hS => ?_)
    have hT : TP D A [(h0, ob 7 [.ref h1, .ref h2, .int h0f2, .ref h3, .ref h4, .ref h5, .int 1, .ref h6, .int h0f8, .null, .ref h7, .int h0f11, .ref h8, .ref h9, .ref h10, .ref h11, .ref h12]), (h11, aJ (k 1) 9 anJ), (h5, ob 3 [.ref h21, .ref h22, .ref h23, .ref h24, .ref h25, .ref h26, .ref h27, .ref h28, .int r3, .int 100, .int v17, .int v18]), (h8, ob 2 [.ref h1, .int 0]), (h21, aJ (k 1) 900 anJ), (h22, aI (k 0) 100 anI), (h23, aI (k 0) 100 anI), (h24, aI (k 0) 100 anI), (h25, aI (k 0) 400 anI), (h26, aI (k 0) 256 (rgI (-1) 99)), (h27, aI (k 0) 100 (rgI (-1) 99)), (h28, aJ (k 1) 60 anJ), (h1, ob 4 [.int h1f0, .int h1f1, .int h1f2, .ref h13]), (h13, aJ (k 1) 36 anJ)] _ := hT
    exact tz_retV (B := B_cX10_listAll_fe300 D k h0 h1 h5 h8 h11 h13 h21 h22 h23 h24 h25 h26 h27 h28 h2 h3 h4 h6 h7 h9 h10 h12 h0f2 h0f6 h0f8 h0f11 h1f0 h1f1 h1f2 h5f8 h5f9 h5f10 h5f11 h8f1) hQ hx hb hr hlocks hS (Nat.le_of_ble_eq_true rfl) (Nat.le_of_ble_eq_true rfl) dX10_listAll_85 (⟨1, r3, 100, v17, v18, 0, (by have := li_1; have := li_100; have := li_0; omega), (by have := li_1; have := li_100; have := li_0; omega), (by have := li_1; have := li_100; have := li_0; omega), (by have := li_1; have := li_100; have := li_0; omega), (by have := li_1; have := li_100; have := li_0; omega), (by have := li_1; have := li_100; have := li_0; omega), (hT.sub [0, 12, 2, 3, 1, 13, 4, 5, 6, 7, 8, 9, 10, 11] (by decide) rfl)⟩)
  · skip
    have c_1 := ni_ne c_1 rfl li_0
    exact tz_retV (B := B_cX10_listAll_fe300 D k h0 h1 h5 h8 h11 h13 h21 h22 h23 h24 h25 h26 h27 h28 h2 h3 h4 h6 h7 h9 h10 h12 h0f2 h0f6 h0f8 h0f11 h1f0 h1f1 h1f2 h5f8 h5f9 h5f10 h5f11 h8f1) hQ hx hb hr hlocks hS (Nat.le_of_ble_eq_true rfl) (Nat.le_of_ble_eq_true rfl) dX10_listAll_7 (⟨h0f6, h5f8, h5f9, h5f10, h5f11, h8f1, (by omega), (by omega), (by omega), (by omega), (by omega), (by omega), hT⟩)
abbrev Rm_cX10_listed_f0942 : Room := { frames := 6, cells := 0, slots := 0, locals := 149 }
abbrev B_cX10_listed_f0942 (D : va_G) (k : Nat → ClassId) (h0 h1 h5 h8 h11 h13 h21 h22 h23 h24 h25 h26 h27 h28 h2 h3 h4 h6 h7 h9 h10 h12 : Nat) (h0f2 : Int32) (h0f6 : Int32) (h0f8 : Int32) (h0f11 : Int32) (h1f0 : Int32) (h1f1 : Int32) (h1f2 : Int32) (h5f8 : Int32) (h5f9 : Int32) (h5f10 : Int32) (h5f11 : Int32) (h8f1 : Int32) (A : Nat → Prop) (r : Int32) (H : Heap) : Prop := ∃ o0 : Int32, ∃ o1 : Int32, ∃ o2 : Int32, ∃ o3 : Int32, ∃ o4 : Int32, ∃ o5 : Int32, (1 ≤ o0.toInt ∧ o0.toInt ≤ 1) ∧ (0 ≤ o1.toInt ∧ o1.toInt ≤ 9) ∧ (0 ≤ o2.toInt ∧ o2.toInt ≤ 100) ∧ (0 ≤ o3.toInt ∧ o3.toInt ≤ 100) ∧ (0 ≤ o4.toInt ∧ o4.toInt ≤ 1) ∧ (0 ≤ o5.toInt ∧ o5.toInt ≤ 7) ∧ (0 ≤ r.toInt ∧ r.toInt ≤ 100) ∧ TP D A [(h0, ob 7 [.ref h1, .ref h2, .int h0f2, .ref h3, .ref h4, .ref h5, .int o0, .ref h6, .int h0f8, .null, .ref h7, .int h0f11, .ref h8, .ref h9, .ref h10, .ref h11, .ref h12]), (h1, ob 4 [.int h1f0, .int h1f1, .int h1f2, .ref h13]), (h5, ob 3 [.ref h21, .ref h22, .ref h23, .ref h24, .ref h25, .ref h26, .ref h27, .ref h28, .int o1, .int o2, .int o3, .int o4]), (h8, ob 2 [.ref h1, .int o5]), (h11, aJ (k 1) 9 anJ), (h13, aJ (k 1) 36 anJ), (h21, aJ (k 1) 900 anJ), (h22, aI (k 0) 100 anI), (h23, aI (k 0) 100 anI), (h24, aI (k 0) 100 anI), (h25, aI (k 0) 400 anI), (h26, aI (k 0) 256 (rgI (-1) 99)), (h27, aI (k 0) 100 (rgI (-1) 99)), (h28, aJ (k 1) 60 anJ)] H
set_option maxHeartbeats 4000000 in
set_option maxRecDepth 100000 in
theorem cX10_listed_f0942 (l : Launch) (D : va_G) (k : Nat → ClassId) (sz : Nat) (h0 h1 h5 h8 h11 h13 h21 h22 h23 h24 h25 h26 h27 h28 h2 h3 h4 h6 h7 h9 h10 h12 : Nat) (h0f2 : Int32) (h0f6 : Int32) (h0f8 : Int32) (h0f11 : Int32) (h1f0 : Int32) (h1f1 : Int32) (h1f2 : Int32) (h5f8 : Int32) (h5f9 : Int32) (h5f10 : Int32) (h5f11 : Int32) (h8f1 : Int32) (b_h0f2 : 0 ≤ h0f2.toInt ∧ h0f2.toInt ≤ 1) (b_h0f6 : 0 ≤ h0f6.toInt ∧ h0f6.toInt ≤ 1) (b_h0f8 : 0 ≤ h0f8.toInt ∧ h0f8.toInt ≤ 1) (b_h0f11 : 0 ≤ h0f11.toInt ∧ h0f11.toInt ≤ 200) (b_h1f0 : 1 ≤ h1f0.toInt ∧ h1f0.toInt ≤ 3) (b_h1f1 : 0 ≤ h1f1.toInt ∧ h1f1.toInt ≤ 4) (b_h5f8 : 0 ≤ h5f8.toInt ∧ h5f8.toInt ≤ 9) (b_h5f9 : 0 ≤ h5f9.toInt ∧ h5f9.toInt ≤ 100) (b_h5f10 : 0 ≤ h5f10.toInt ∧ h5f10.toInt ≤ 100) (b_h5f11 : 0 ≤ h5f11.toInt ∧ h5f11.toInt ≤ 1) (b_h8f1 : 0 ≤ h8f1.toInt ∧ h8f1.toInt ≤ 7) : Met l yX10_listed (Cond.code yX10_listed cX10_listed 1 (some .int) :: uw) Rm_cX10_listed_f0942 (pT D k sz [.ref h0] [(h0, ob 7 [.ref h1, .ref h2, .int h0f2, .ref h3, .ref h4, .ref h5, .int h0f6, .ref h6, .int h0f8, .null, .ref h7, .int h0f11, .ref h8, .ref h9, .ref h10, .ref h11, .ref h12]), (h1, ob 4 [.int h1f0, .int h1f1, .int h1f2, .ref h13]), (h5, ob 3 [.ref h21, .ref h22, .ref h23, .ref h24, .ref h25, .ref h26, .ref h27, .ref h28, .int h5f8, .int h5f9, .int h5f10, .int h5f11]), (h8, ob 2 [.ref h1, .int h8f1]), (h11, aJ (k 1) 9 anJ), (h13, aJ (k 1) 36 anJ), (h21, aJ (k 1) 900 anJ), (h22, aI (k 0) 100 anI), (h23, aI (k 0) 100 anI), (h24, aI (k 0) 100 anI), (h25, aI (k 0) 400 anI), (h26, aI (k 0) 256 (rgI (-1) 99)), (h27, aI (k 0) 100 (rgI (-1) 99)), (h28, aJ (k 1) 60 anJ)]) (qI (B_cX10_listed_f0942 D k h0 h1 h5 h8 h11 h13 h21 h22 h23 h24 h25 h26 h27 h28 h2 h3 h4 h6 h7 h9 h10 h12 h0f2 h0f6 h0f8 h0f11 h1f0 h1f1 h1f2 h5f8 h5f9 h5f10 h5f11 h8f1 (zA [h0, h1, h5, h8, h11, h13, h21, h22, h23, h24, h25, h26, h27, h28] sz)) (zA [h0, h1, h5, h8, h11, h13, h21, h22, h23, h24, h25, h26, h27, h28] sz)) 0 0 (zA [h0, h1, h5, h8, h11, h13, h21, h22, h23, h24, h25, h26, h27, h28] sz) := by
  refine tz_begin (as := [h0, h1, h5, h8, h11, h13, h21, h22, h23, h24, h25, h26, h27, h28]) (Qc := fun A => qI (B_cX10_listed_f0942 D k h0 h1 h5 h8 h11 h13 h21 h22 h23 h24 h25 h26 h27 h28 h2 h3 h4 h6 h7 h9 h10 h12 h0f2 h0f6 h0f8 h0f11 h1f0 h1f1 h1f2 h5f8 h5f9 h5f10 h5f11 h8f1 A) A) (by decide +kernel) rfl (Nat.le_of_ble_eq_true rfl) ?_
  intro p e s m args below meth c ls A Q hx hb hr hml hown hlocks hin hU hK hT hS hA hl hQ
  have hl : lv_has ls 1 [(0, .ref h0)] := hl
  have hT : TP D A [(h0, ob 7 [.ref h1, .ref h2, .int h0f2, .ref h3, .ref h4, .ref h5, .int h0f6, .ref h6, .int h0f8, .null, .ref h7, .int h0f11, .ref h8, .ref h9, .ref h10, .ref h11, .ref h12]), (h1, ob 4 [.int h1f0, .int h1f1, .int h1f2, .ref h13]), (h5, ob 3 [.ref h21, .ref h22, .ref h23, .ref h24, .ref h25, .ref h26, .ref h27, .ref h28, .int h5f8, .int h5f9, .int h5f10, .int h5f11]), (h8, ob 2 [.ref h1, .int h8f1]), (h11, aJ (k 1) 9 anJ), (h13, aJ (k 1) 36 anJ), (h21, aJ (k 1) 900 anJ), (h22, aI (k 0) 100 anI), (h23, aI (k 0) 100 anI), (h24, aI (k 0) 100 anI), (h25, aI (k 0) 400 anI), (h26, aI (k 0) 256 (rgI (-1) 99)), (h27, aI (k 0) 100 (rgI (-1) 99)), (h28, aJ (k 1) 60 anJ)] s.heap := hT
  refine lv_aload_n hx hb dX10_listed_0 rfl (lv_at hl 0 rfl) ?_
  refine tcV (Tc := [(h0, ob 7 [.ref h1, .ref h2, .int h0f2, .ref h3, .ref h4, .ref h5, .int h0f6, .ref h6, .int h0f8, .null, .ref h7, .int h0f11, .ref h8, .ref h9, .ref h10, .ref h11, .ref h12]), (h1, ob 4 [.int h1f0, .int h1f1, .int h1f2, .ref h13]), (h5, ob 3 [.ref h21, .ref h22, .ref h23, .ref h24, .ref h25, .ref h26, .ref h27, .ref h28, .int h5f8, .int h5f9, .int h5f10, .int h5f11]), (h8, ob 2 [.ref h1, .int h8f1]), (h11, aJ (k 1) 9 anJ), (h13, aJ (k 1) 36 anJ), (h21, aJ (k 1) 900 anJ), (h22, aI (k 0) 100 anI), (h23, aI (k 0) 100 anI), (h24, aI (k 0) 100 anI), (h25, aI (k 0) 400 anI), (h26, aI (k 0) 256 (rgI (-1) 99)), (h27, aI (k 0) 100 (rgI (-1) 99)), (h28, aJ (k 1) 60 anJ)]) (Tr := []) (as := [h0, h1, h5, h8, h11, h13, h21, h22, h23, h24, h25, h26, h27, h28]) (zcV (q0 := 0) (ci := 7) (As := []) (rest := []) (Tc := [(h0, ob 7 [.ref h1, .ref h2, .int h0f2, .ref h3, .ref h4, .ref h5, .int h0f6, .ref h6, .int h0f8, .null, .ref h7, .int h0f11, .ref h8, .ref h9, .ref h10, .ref h11, .ref h12]), (h1, ob 4 [.int h1f0, .int h1f1, .int h1f2, .ref h13]), (h5, ob 3 [.ref h21, .ref h22, .ref h23, .ref h24, .ref h25, .ref h26, .ref h27, .ref h28, .int h5f8, .int h5f9, .int h5f10, .int h5f11]), (h8, ob 2 [.ref h1, .int h8f1]), (h11, aJ (k 1) 9 anJ), (h13, aJ (k 1) 36 anJ), (h21, aJ (k 1) 900 anJ), (h22, aI (k 0) 100 anI), (h23, aI (k 0) 100 anI), (h24, aI (k 0) 100 anI), (h25, aI (k 0) 400 anI), (h26, aI (k 0) 256 (rgI (-1) 99)), (h27, aI (k 0) 100 (rgI (-1) 99)), (h28, aJ (k 1) 60 anJ)]) hx hb hml hown hU hK hT rfl rfl [0, 1, 2, 3, 4, 5, 6, 7, 8, 9, 10, 11, 12, 13] rfl (by decide) (cX10_listAll_fe300 l D k _ h0 h1 h5 h8 h11 h13 h21 h22 h23 h24 h25 h26 h27 h28 h2 h3 h4 h6 h7 h9 h10 h12 h0f2 h0f6 h0f8 h0f11 h1f0 h1f1 h1f2 h5f8 h5f9 h5f10 h5f11 h8f1 (by omega) (by omega) (by omega) (by omega) (by omega) (by omega) (by omega) (by omega) (by omega) (by omega) (by omega)) w492 w489 w491 w10 w63 hdX10_listAll ⟨rfl, rfl⟩ ⟨Nat.le_of_ble_eq_true rfl, Nat.le_of_ble_eq_true rfl⟩ rfl hl.1 (Nat.le_of_ble_eq_true rfl) dX10_listed_1 ⟨Nat.le_of_ble_eq_true rfl, Nat.le_of_ble_eq_true rfl⟩) hT hS hA [0, 1, 2, 3, 4, 5, 6, 7, 8, 9, 10, 11, 12, 13] [] rfl rfl rfl (by decide) (by decide) (fun H locs hB J hS => ?_)
  obtain ⟨v2, v3, v4, v5, v6, v7, b_v2, b_v3, b_v4, b_v5, b_v6, b_v7, hT1⟩ := hB
  have hT := J _ hT1
  have hT : TP D A [(h0, ob 7 [.ref h1, .ref h2, .int h0f2, .ref h3, .ref h4, .ref h5, .int v2, .ref h6, .int h0f8, .null, .ref h7, .int h0f11, .ref h8, .ref h9, .ref h10, .ref h11, .ref h12]), (h1, ob 4 [.int h1f0, .int h1f1, .int h1f2, .ref h13]), (h5, ob 3 [.ref h21, .ref h22, .ref h23, .ref h24, .ref h25, .ref h26, .ref h27, .ref h28, .int v3, .int v4, .int v5, .int v6]), (h8, ob 2 [.ref h1, .int v7]), (h11, aJ (k 1) 9 anJ), (h13, aJ (k 1) 36 anJ), (h21, aJ (k 1) 900 anJ), (h22, aI (k 0) 100 anI), (h23, aI (k 0) 100 anI), (h24, aI (k 0) 100 anI), (h25, aI (k 0) 400 anI), (h26, aI (k 0) 256 (rgI (-1) 99)), (h27, aI (k 0) 100 (rgI (-1) 99)), (h28, aJ (k 1) 60 anJ)] _ := hT
  refine lv_aload_n hx hb dX10_listed_4 rfl (lv_at hl 0 rfl) ?_
  refine tz_get (ci := 7) (v := .ref h5) (C := RX10) (F := TX10) (N := 17) hx hb hU iX10 hown hK hT 0 rfl rfl 5 (by decide) w254 (fun _ h9 => h9) rfl dX10_listed_5 ?_
  refine tz_get (ci := 3) (v := .int v5) (C := RX4) (F := TX4) (N := 12) hx hb hU iX4 hown hK hT 2 rfl rfl 10 (by decide) w166 (fun _ h9 => h9) rfl dX10_listed_8 ?_
  exact tz_retI (B := B_cX10_listed_f0942 D k h0 h1 h5 h8 h11 h13 h21 h22 h23 h24 h25 h26 h27 h28 h2 h3 h4 h6 h7 h9 h10 h12 h0f2 h0f6 h0f8 h0f11 h1f0 h1f1 h1f2 h5f8 h5f9 h5f10 h5f11 h8f1) (v := v5) hQ hx hb hr hlocks hS (Nat.le_of_ble_eq_true rfl) (Nat.le_of_ble_eq_true rfl) dX10_listed_11 (⟨v2, v3, v4, v5, v6, v7, (by omega), (by omega), (by omega), (by omega), (by omega), (by omega), (by omega), hT⟩)
abbrev Rm_cX10_listAll_d24ec : Room := { frames := 5, cells := 0, slots := 0, locals := 129 }
abbrev B_cX10_listAll_d24ec (D : va_G) (k : Nat → ClassId) (h0 h1 h5 h9 h12 h14 h22 h23 h24 h25 h26 h27 h28 h29 h2 h3 h4 h6 h7 h8 h10 h11 h13 : Nat) (h0f2 : Int32) (h0f6 : Int32) (h0f8 : Int32) (h0f11 : Int32) (h1f0 : Int32) (h1f1 : Int32) (h1f2 : Int32) (h5f8 : Int32) (h5f9 : Int32) (h5f10 : Int32) (h5f11 : Int32) (h9f1 : Int32) (A : Nat → Prop) (H : Heap) : Prop := ∃ o0 : Int32, ∃ o1 : Int32, ∃ o2 : Int32, ∃ o3 : Int32, ∃ o4 : Int32, ∃ o5 : Int32, (1 ≤ o0.toInt ∧ o0.toInt ≤ 1) ∧ (0 ≤ o1.toInt ∧ o1.toInt ≤ 9) ∧ (0 ≤ o2.toInt ∧ o2.toInt ≤ 100) ∧ (0 ≤ o3.toInt ∧ o3.toInt ≤ 100) ∧ (0 ≤ o4.toInt ∧ o4.toInt ≤ 1) ∧ (0 ≤ o5.toInt ∧ o5.toInt ≤ 7) ∧ TP D A [(h0, ob 7 [.ref h1, .ref h2, .int h0f2, .ref h3, .ref h4, .ref h5, .int o0, .ref h6, .int h0f8, .ref h7, .ref h8, .int h0f11, .ref h9, .ref h10, .ref h11, .ref h12, .ref h13]), (h1, ob 4 [.int h1f0, .int h1f1, .int h1f2, .ref h14]), (h5, ob 3 [.ref h22, .ref h23, .ref h24, .ref h25, .ref h26, .ref h27, .ref h28, .ref h29, .int o1, .int o2, .int o3, .int o4]), (h9, ob 2 [.ref h1, .int o5]), (h12, aJ (k 1) 9 anJ), (h14, aJ (k 1) 36 anJ), (h22, aJ (k 1) 900 anJ), (h23, aI (k 0) 100 anI), (h24, aI (k 0) 100 anI), (h25, aI (k 0) 100 anI), (h26, aI (k 0) 400 anI), (h27, aI (k 0) 256 (rgI (-1) 99)), (h28, aI (k 0) 100 (rgI (-1) 99)), (h29, aJ (k 1) 60 anJ)] H
set_option maxHeartbeats 4000000 in
set_option maxRecDepth 100000 in
theorem cX10_listAll_d24ec (l : Launch) (D : va_G) (k : Nat → ClassId) (sz : Nat) (h0 h1 h5 h9 h12 h14 h22 h23 h24 h25 h26 h27 h28 h29 h2 h3 h4 h6 h7 h8 h10 h11 h13 : Nat) (h0f2 : Int32) (h0f6 : Int32) (h0f8 : Int32) (h0f11 : Int32) (h1f0 : Int32) (h1f1 : Int32) (h1f2 : Int32) (h5f8 : Int32) (h5f9 : Int32) (h5f10 : Int32) (h5f11 : Int32) (h9f1 : Int32) (b_h0f2 : 0 ≤ h0f2.toInt ∧ h0f2.toInt ≤ 1) (b_h0f6 : 0 ≤ h0f6.toInt ∧ h0f6.toInt ≤ 1) (b_h0f8 : 0 ≤ h0f8.toInt ∧ h0f8.toInt ≤ 1) (b_h0f11 : 0 ≤ h0f11.toInt ∧ h0f11.toInt ≤ 200) (b_h1f0 : 1 ≤ h1f0.toInt ∧ h1f0.toInt ≤ 3) (b_h1f1 : 0 ≤ h1f1.toInt ∧ h1f1.toInt ≤ 4) (b_h5f8 : 0 ≤ h5f8.toInt ∧ h5f8.toInt ≤ 9) (b_h5f9 : 0 ≤ h5f9.toInt ∧ h5f9.toInt ≤ 100) (b_h5f10 : 0 ≤ h5f10.toInt ∧ h5f10.toInt ≤ 100) (b_h5f11 : 0 ≤ h5f11.toInt ∧ h5f11.toInt ≤ 1) (b_h9f1 : 0 ≤ h9f1.toInt ∧ h9f1.toInt ≤ 7) : Met l yX10_listAll (Cond.code yX10_listAll cX10_listAll 1 none :: uw) Rm_cX10_listAll_d24ec (pT D k sz [.ref h0] [(h0, ob 7 [.ref h1, .ref h2, .int h0f2, .ref h3, .ref h4, .ref h5, .int h0f6, .ref h6, .int h0f8, .ref h7, .ref h8, .int h0f11, .ref h9, .ref h10, .ref h11, .ref h12, .ref h13]), (h1, ob 4 [.int h1f0, .int h1f1, .int h1f2, .ref h14]), (h5, ob 3 [.ref h22, .ref h23, .ref h24, .ref h25, .ref h26, .ref h27, .ref h28, .ref h29, .int h5f8, .int h5f9, .int h5f10, .int h5f11]), (h9, ob 2 [.ref h1, .int h9f1]), (h12, aJ (k 1) 9 anJ), (h14, aJ (k 1) 36 anJ), (h22, aJ (k 1) 900 anJ), (h23, aI (k 0) 100 anI), (h24, aI (k 0) 100 anI), (h25, aI (k 0) 100 anI), (h26, aI (k 0) 400 anI), (h27, aI (k 0) 256 (rgI (-1) 99)), (h28, aI (k 0) 100 (rgI (-1) 99)), (h29, aJ (k 1) 60 anJ)]) (qV (B_cX10_listAll_d24ec D k h0 h1 h5 h9 h12 h14 h22 h23 h24 h25 h26 h27 h28 h29 h2 h3 h4 h6 h7 h8 h10 h11 h13 h0f2 h0f6 h0f8 h0f11 h1f0 h1f1 h1f2 h5f8 h5f9 h5f10 h5f11 h9f1 (zA [h0, h1, h5, h9, h12, h14, h22, h23, h24, h25, h26, h27, h28, h29] sz)) (zA [h0, h1, h5, h9, h12, h14, h22, h23, h24, h25, h26, h27, h28, h29] sz)) 0 0 (zA [h0, h1, h5, h9, h12, h14, h22, h23, h24, h25, h26, h27, h28, h29] sz) := by
  refine tz_begin (as := [h0, h1, h5, h9, h12, h14, h22, h23, h24, h25, h26, h27, h28, h29]) (Qc := fun A => qV (B_cX10_listAll_d24ec D k h0 h1 h5 h9 h12 h14 h22 h23 h24 h25 h26 h27 h28 h29 h2 h3 h4 h6 h7 h8 h10 h11 h13 h0f2 h0f6 h0f8 h0f11 h1f0 h1f1 h1f2 h5f8 h5f9 h5f10 h5f11 h9f1 A) A) (by decide +kernel) rfl (Nat.le_of_ble_eq_true rfl) ?_
  intro p e s m args below meth c ls A Q hx hb hr hml hown hlocks hin hU hK hT hS hA hl hQ
  have hl : lv_has ls 1 [(0, .ref h0)] := hl
  have hT : TP D A [(h0, ob 7 [.ref h1, .ref h2, .int h0f2, .ref h3, .ref h4, .ref h5, .int h0f6, .ref h6, .int h0f8, .ref h7, .ref h8, .int h0f11, .ref h9, .ref h10, .ref h11, .ref h12, .ref h13]), (h1, ob 4 [.int h1f0, .int h1f1, .int h1f2, .ref h14]), (h5, ob 3 [.ref h22, .ref h23, .ref h24, .ref h25, .ref h26, .ref h27, .ref h28, .ref h29, .int h5f8, .int h5f9, .int h5f10, .int h5f11]), (h9, ob 2 [.ref h1, .int h9f1]), (h12, aJ (k 1) 9 anJ), (h14, aJ (k 1) 36 anJ), (h22, aJ (k 1) 900 anJ), (h23, aI (k 0) 100 anI), (h24, aI (k 0) 100 anI), (h25, aI (k 0) 100 anI), (h26, aI (k 0) 400 anI), (h27, aI (k 0) 256 (rgI (-1) 99)), (h28, aI (k 0) 100 (rgI (-1) 99)), (h29, aJ (k 1) 60 anJ)] s.heap := hT
  refine lv_aload_n hx hb dX10_listAll_0 rfl (lv_at hl 0 rfl) ?_
  refine tz_get (ci := 7) (v := .int h0f6) (C := RX10) (F := TX10) (N := 17) hx hb hU iX10 hown hK hT 0 rfl rfl 6 (by decide) w255 (fun _ h9 => h9) rfl dX10_listAll_1 ?_
  refine lv_if_eq (tgt := 8) hx hb dX10_listAll_4 (by decide) (fun c_1 => ?_) (fun c_1 => ?_)
  · skip
    have c_1 := ni_eq c_1 rfl li_0
    refine lv_aload_n hx hb dX10_listAll_8 rfl (lv_at hl 0 rfl) ?_
    refine tz_get (ci := 7) (v := .ref h12) (C := RX10) (F := TX10) (N := 17) hx hb hU iX10 hown hK hT 0 rfl rfl 15 (by decide) w264 (fun _ h9 => h9) rfl dX10_listAll_9 ?_
    refine lv_aload_n hx hb dX10_listAll_12 rfl (lv_at hl 0 rfl) ?_
    refine tz_get (ci := 7) (v := .ref h1) (C := RX10) (F := TX10) (N := 17) hx hb hU iX10 hown hK hT 0 rfl rfl 0 (by decide) w249 (fun _ h9 => h9) rfl dX10_listAll_13 ?_
    refine tz_get (ci := 4) (v := .int h1f0) (C := RX5) (F := TX5) (N := 4) hx hb hU iX5 hown hK hT 1 rfl rfl 0 (by decide) w93 (fun _ h9 => h9) rfl dX10_listAll_16 ?_
    refine tcV (Tc := [(h12, aJ (k 1) 9 anJ)]) (Tr := [(h0, ob 7 [.ref h1, .ref h2, .int h0f2, .ref h3, .ref h4, .ref h5, .int h0f6, .ref h6, .int h0f8, .ref h7, .ref h8, .int h0f11, .ref h9, .ref h10, .ref h11, .ref h12, .ref h13]), (h1, ob 4 [.int h1f0, .int h1f1, .int h1f2, .ref h14]), (h5, ob 3 [.ref h22, .ref h23, .ref h24, .ref h25, .ref h26, .ref h27, .ref h28, .ref h29, .int h5f8, .int h5f9, .int h5f10, .int h5f11]), (h9, ob 2 [.ref h1, .int h9f1]), (h14, aJ (k 1) 36 anJ), (h22, aJ (k 1) 900 anJ), (h23, aI (k 0) 100 anI), (h24, aI (k 0) 100 anI), (h25, aI (k 0) 100 anI), (h26, aI (k 0) 400 anI), (h27, aI (k 0) 256 (rgI (-1) 99)), (h28, aI (k 0) 100 (rgI (-1) 99)), (h29, aJ (k 1) 60 anJ)]) (as := [h12]) (zcS (As := [.ref h12, .int h1f0]) (rest := []) (Tc := [(h12, aJ (k 1) 9 anJ)]) hx hb hml hown hU hK hT [4] rfl (by decide) (cX7_becomeOne_9e486 l D k _ h12 h1f0 (by omega)) w333 w331 w332 w74 hdX7_becomeOne ⟨rfl, rfl⟩ ⟨Nat.le_of_ble_eq_true rfl, Nat.le_of_ble_eq_true rfl⟩ rfl hl.1 (Nat.le_of_ble_eq_true rfl) dX10_listAll_19 ⟨Nat.le_of_ble_eq_true rfl, Nat.le_of_ble_eq_true rfl⟩) hT hS hA [4] [0, 1, 2, 3, 5, 6, 7, 8, 9, 10, 11, 12, 13] rfl rfl rfl (by decide) (by decide) (fun H locs hB J hS => ?_)
    have hT1 := hB
    have hT := J _ hT1
    have hT : TP D A [(h0, ob 7 [.ref h1, .ref h2, .int h0f2, .ref h3, .ref h4, .ref h5, .int h0f6, .ref h6, .int h0f8, .ref h7, .ref h8, .int h0f11, .ref h9, .ref h10, .ref h11, .ref h12, .ref h13]), (h1, ob 4 [.int h1f0, .int h1f1, .int h1f2, .ref h14]), (h5, ob 3 [.ref h22, .ref h23, .ref h24, .ref h25, .ref h26, .ref h27, .ref h28, .ref h29, .int h5f8, .int h5f9, .int h5f10, .int h5f11]), (h9, ob 2 [.ref h1, .int h9f1]), (h14, aJ (k 1) 36 anJ), (h22, aJ (k 1) 900 anJ), (h23, aI (k 0) 100 anI), (h24, aI (k 0) 100 anI), (h25, aI (k 0) 100 anI), (h26, aI (k 0) 400 anI), (h27, aI (k 0) 256 (rgI (-1) 99)), (h28, aI (k 0) 100 (rgI (-1) 99)), (h29, aJ (k 1) 60 anJ), (h12, aJ (k 1) 9 anJ)] _ := hT
    refine lv_aload_n hx hb dX10_listAll_22 rfl (lv_at hl 0 rfl) ?_
    refine tz_get (ci := 7) (v := .ref h5) (C := RX10) (F := TX10) (N := 17) hx hb hU iX10 hown hK hT 0 rfl rfl 5 (by decide) w254 (fun _ h9 => h9) rfl dX10_listAll_23 ?_
    refine lv_aload_n hx hb dX10_listAll_26 rfl (lv_at hl 0 rfl) ?_
    refine tz_get (ci := 7) (v := .ref h1) (C := RX10) (F := TX10) (N := 17) hx hb hU iX10 hown hK hT 0 rfl rfl 0 (by decide) w249 (fun _ h9 => h9) rfl dX10_listAll_27 ?_
    refine tcI (Tc := [(h1, ob 4 [.int h1f0, .int h1f1, .int h1f2, .ref h14])]) (Tr := [(h0, ob 7 [.ref h1, .ref h2, .int h0f2, .ref h3, .ref h4, .ref h5, .int h0f6, .ref h6, .int h0f8, .ref h7, .ref h8, .int h0f11, .ref h9, .ref h10, .ref h11, .ref h12, .ref h13]), (h5, ob 3 [.ref h22, .ref h23, .ref h24, .ref h25, .ref h26, .ref h27, .ref h28, .ref h29, .int h5f8, .int h5f9, .int h5f10, .int h5f11]), (h9, ob 2 [.ref h1, .int h9f1]), (h14, aJ (k 1) 36 anJ), (h22, aJ (k 1) 900 anJ), (h23, aI (k 0) 100 anI), (h24, aI (k 0) 100 anI), (h25, aI (k 0) 100 anI), (h26, aI (k 0) 400 anI), (h27, aI (k 0) 256 (rgI (-1) 99)), (h28, aI (k 0) 100 (rgI (-1) 99)), (h29, aJ (k 1) 60 anJ), (h12, aJ (k 1) 9 anJ)]) (as := [h1]) (zcV (q0 := 1) (ci := 4) (As := []) (rest := [.ref h5]) (Tc := [(h1, ob 4 [.int h1f0, .int h1f1, .int h1f2, .ref h14])]) hx hb hml hown hU hK hT rfl rfl [1] rfl (by decide) (cX5_cellCount_642c9 l D k _ h1 h14 h1f0 h1f1 h1f2 (by omega) (by omega)) w385 w382 w383 w384 w64 hdX5_cellCount ⟨rfl, rfl⟩ ⟨Nat.le_of_ble_eq_true rfl, Nat.le_of_ble_eq_true rfl⟩ rfl hl.1 (Nat.le_of_ble_eq_true rfl) dX10_listAll_30 ⟨Nat.le_of_ble_eq_true rfl, Nat.le_of_ble_eq_true rfl⟩) hT hS hA [1] [0, 2, 3, 4, 5, 6, 7, 8, 9, 10, 11, 12, 13] rfl rfl rfl (by decide) (by decide) (fun r3 H locs hB J hS => ?_)
    obtain ⟨b_r3, hT1⟩ := hB
    have hT := J _ hT1
    have hT : TP D A [(h0, ob 7 [.ref h1, .ref h2, .int h0f2, .ref h3, .ref h4, .ref h5, .int h0f6, .ref h6, .int h0f8, .ref h7, .ref h8, .int h0f11, .ref h9, .ref h10, .ref h11, .ref h12, .ref h13]), (h5, ob 3 [.ref h22, .ref h23, .ref h24, .ref h25, .ref h26, .ref h27, .ref h28, .ref h29, .int h5f8, .int h5f9, .int h5f10, .int h5f11]), (h9, ob 2 [.ref h1, .int h9f1]), (h14, aJ (k 1) 36 anJ), (h22, aJ (k 1) 900 anJ), (h23, aI (k 0) 100 anI), (h24, aI (k 0) 100 anI), (h25, aI (k 0) 100 anI), (h26, aI (k 0) 400 anI), (h27, aI (k 0) 256 (rgI (-1) 99)), (h28, aI (k 0) 100 (rgI (-1) 99)), (h29, aJ (k 1) 60 anJ), (h12, aJ (k 1) 9 anJ), (h1, ob 4 [.int h1f0, .int h1f1, .int h1f2, .ref h14])] _ := hT
    refine lv_bipush (v := 100) hx hb dX10_listAll_33 (by decide) ?_
    have q_q5 := li_100
    refine tcV (Tc := [(h5, ob 3 [.ref h22, .ref h23, .ref h24, .ref h25, .ref h26, .ref h27, .ref h28, .ref h29, .int h5f8, .int h5f9, .int h5f10, .int h5f11]), (h27, aI (k 0) 256 (rgI (-1) 99))]) (Tr := [(h0, ob 7 [.ref h1, .ref h2, .int h0f2, .ref h3, .ref h4, .ref h5, .int h0f6, .ref h6, .int h0f8, .ref h7, .ref h8, .int h0f11, .ref h9, .ref h10, .ref h11, .ref h12, .ref h13]), (h9, ob 2 [.ref h1, .int h9f1]), (h14, aJ (k 1) 36 anJ), (h22, aJ (k 1) 900 anJ), (h23, aI (k 0) 100 anI), (h24, aI (k 0) 100 anI), (h25, aI (k 0) 100 anI), (h26, aI (k 0) 400 anI), (h28, aI (k 0) 100 (rgI (-1) 99)), (h29, aJ (k 1) 60 anJ), (h12, aJ (k 1) 9 anJ), (h1, ob 4 [.int h1f0, .int h1f1, .int h1f2, .ref h14])]) (as := [h5, h27]) (zcV (q0 := 1) (ci := 3) (As := [.int r3, .int 100]) (rest := []) (Tc := [(h5, ob 3 [.ref h22, .ref h23, .ref h24, .ref h25, .ref h26, .ref h27, .ref h28, .ref h29, .int h5f8, .int h5f9, .int h5f10, .int h5f11]), (h27, aI (k 0) 256 (rgI (-1) 99))]) hx hb hml hown hU hK hT rfl rfl [1, 9] rfl (by decide) (cX4_clear_4f28a l D k _ h5 h27 h22 h23 h24 h25 h26 h28 h29 r3 (100) h5f8 h5f9 h5f10 h5f11 (by omega) (by have := li_100; omega) (by omega) (by omega) (by omega) (by omega)) w496 w493 w494 w495 w66 hdX4_clear ⟨rfl, rfl⟩ ⟨Nat.le_of_ble_eq_true rfl, Nat.le_of_ble_eq_true rfl⟩ rfl hl.1 (Nat.le_of_ble_eq_true rfl) dX10_listAll_35 ⟨Nat.le_of_ble_eq_true rfl, Nat.le_of_ble_eq_true rfl⟩) hT hS hA [1, 9] [0, 2, 3, 4, 5, 6, 7, 8, 10, 11, 12, 13] rfl rfl rfl (by decide) (by decide) (fun H locs hB J hS => ?_)
    have hT1 := hB
    have hT := J _ hT1
    have hT : TP D A [(h0, ob 7 [.ref h1, .ref h2, .int h0f2, .ref h3, .ref h4, .ref h5, .int h0f6, .ref h6, .int h0f8, .ref h7, .ref h8, .int h0f11, .ref h9, .ref h10, .ref h11, .ref h12, .ref h13]), (h9, ob 2 [.ref h1, .int h9f1]), (h14, aJ (k 1) 36 anJ), (h22, aJ (k 1) 900 anJ), (h23, aI (k 0) 100 anI), (h24, aI (k 0) 100 anI), (h25, aI (k 0) 100 anI), (h26, aI (k 0) 400 anI), (h28, aI (k 0) 100 (rgI (-1) 99)), (h29, aJ (k 1) 60 anJ), (h12, aJ (k 1) 9 anJ), (h1, ob 4 [.int h1f0, .int h1f1, .int h1f2, .ref h14]), (h5, ob 3 [.ref h22, .ref h23, .ref h24, .ref h25, .ref h26, .ref h27, .ref h28, .ref h29, .int r3, .int 100, .int 0, .int 0]), (h27, aI (k 0) 256 (rgI (-1) 99))] _ := hT
    refine lv_aload_n hx hb dX10_listAll_38 rfl (lv_at hl 0 rfl) ?_
    refine tz_get (ci := 7) (v := .ref h5) (C := RX10) (F := TX10) (N := 17) hx hb hU iX10 hown hK hT 0 rfl rfl 5 (by decide) w254 (fun _ h9 => h9) rfl dX10_listAll_39 ?_
    refine lv_aload_n hx hb dX10_listAll_42 rfl (lv_at hl 0 rfl) ?_
    refine tz_get (ci := 7) (v := .ref h12) (C := RX10) (F := TX10) (N := 17) hx hb hU iX10 hown hK hT 0 rfl rfl 15 (by decide) w264 (fun _ h9 => h9) rfl dX10_listAll_43 ?_
    refine lv_bipush (v := (-3)) hx hb dX10_listAll_46 (by decide) ?_
    refine lv_bipush (v := (-3)) hx hb dX10_listAll_48 (by decide) ?_
    have q_q7 := li_m3
    have q_q8 := li_m3
    have q_q9 := li_100
    have q_q10 := li_0
    have q_q11 := li_0
    refine tcI (Tc := [(h5, ob 3 [.ref h22, .ref h23, .ref h24, .ref h25, .ref h26, .ref h27, .ref h28, .ref h29, .int r3, .int 100, .int 0, .int 0]), (h12, aJ (k 1) 9 anJ), (h22, aJ (k 1) 900 anJ), (h23, aI (k 0) 100 anI), (h24, aI (k 0) 100 anI), (h25, aI (k 0) 100 anI), (h27, aI (k 0) 256 (rgI (-1) 99)), (h28, aI (k 0) 100 (rgI (-1) 99))]) (Tr := [(h0, ob 7 [.ref h1, .ref h2, .int h0f2, .ref h3, .ref h4, .ref h5, .int h0f6, .ref h6, .int h0f8, .ref h7, .ref h8, .int h0f11, .ref h9, .ref h10, .ref h11, .ref h12, .ref h13]), (h9, ob 2 [.ref h1, .int h9f1]), (h14, aJ (k 1) 36 anJ), (h26, aI (k 0) 400 anI), (h29, aJ (k 1) 60 anJ), (h1, ob 4 [.int h1f0, .int h1f1, .int h1f2, .ref h14])]) (as := [h5, h12, h22, h23, h24, h25, h27, h28]) (zcV (q0 := 12) (ci := 3) (As := [.ref h12, .int (-3), .int (-3)]) (rest := []) (Tc := [(h5, ob 3 [.ref h22, .ref h23, .ref h24, .ref h25, .ref h26, .ref h27, .ref h28, .ref h29, .int r3, .int 100, .int 0, .int 0]), (h12, aJ (k 1) 9 anJ), (h22, aJ (k 1) 900 anJ), (h23, aI (k 0) 100 anI), (h24, aI (k 0) 100 anI), (h25, aI (k 0) 100 anI), (h27, aI (k 0) 256 (rgI (-1) 99)), (h28, aI (k 0) 100 (rgI (-1) 99))]) hx hb hml hown hU hK hT rfl rfl [12, 10, 3, 4, 5, 6, 13, 8] rfl (by decide) (cX4_append_9dcf5 l D k _ h5 h12 h22 h23 h24 h25 h27 h28 h26 h29 ((-3)) ((-3)) r3 (100) (0) (0) (by have := li_m3; omega) (by have := li_m3; omega) (by omega) (by have := li_100; omega) (by have := li_0; omega) (by have := li_0; omega)) w501 w498 w499 w500 w66 hdX4_append ⟨rfl, rfl⟩ ⟨Nat.le_of_ble_eq_true rfl, Nat.le_of_ble_eq_true rfl⟩ rfl hl.1 (Nat.le_of_ble_eq_true rfl) dX10_listAll_50 ⟨Nat.le_of_ble_eq_true rfl, Nat.le_of_ble_eq_true rfl⟩) hT hS hA [12, 10, 3, 4, 5, 6, 13, 8] [0, 1, 2, 7, 9, 11] rfl rfl rfl (by decide) (by decide) (fun r6 H locs hB J hS => ?_)
    obtain ⟨v12, b_v12, rfl, hT1⟩ := hB
    have hT := J _ hT1
    have hT : TP D A [(h0, ob 7 [.ref h1, .ref h2, .int h0f2, .ref h3, .ref h4, .ref h5, .int h0f6, .ref h6, .int h0f8, .ref h7, .ref h8, .int h0f11, .ref h9, .ref h10, .ref h11, .ref h12, .ref h13]), (h9, ob 2 [.ref h1, .int h9f1]), (h14, aJ (k 1) 36 anJ), (h26, aI (k 0) 400 anI), (h29, aJ (k 1) 60 anJ), (h1, ob 4 [.int h1f0, .int h1f1, .int h1f2, .ref h14]), (h5, ob 3 [.ref h22, .ref h23, .ref h24, .ref h25, .ref h26, .ref h27, .ref h28, .ref h29, .int r3, .int 100, .int v12, .int 0]), (h12, aJ (k 1) 9 anJ), (h22, aJ (k 1) 900 anJ), (h23, aI (k 0) 100 anI), (h24, aI (k 0) 100 anI), (h25, aI (k 0) 100 anI), (h27, aI (k 0) 256 (rgI (-1) 99)), (h28, aI (k 0) 100 (rgI (-1) 99))] _ := hT
    refine lv_pop hx hb dX10_listAll_53 rfl ?_
    refine lv_aload_n hx hb dX10_listAll_54 rfl (lv_at hl 0 rfl) ?_
    refine tz_get (ci := 7) (v := .ref h9) (C := RX10) (F := TX10) (N := 17) hx hb hU iX10 hown hK hT 0 rfl rfl 12 (by decide) w261 (fun _ h9 => h9) rfl dX10_listAll_55 ?_
    refine lv_iconst (v := 0) hx hb dX10_listAll_58 (by decide) ?_
    refine tz_put (ci := 2) (v := .int 0) (ty := .int) (C := RX2) (F := TX2) (N := 2) hx hb hU iX2 tyX2 tyX2_ok nmX2 hown hK hT hS 1 rfl rfl 1 (by decide) w206 (fun _ h9 => h9) rfl (by decide +kernel) rfl rfl (Nat.le_of_ble_eq_true rfl) dX10_listAll_59 (fun H locs hT hS => ?_)
    have hT : TP D A [(h0, ob 7 [.ref h1, .ref h2, .int h0f2, .ref h3, .ref h4, .ref h5, .int h0f6, .ref h6, .int h0f8, .ref h7, .ref h8, .int h0f11, .ref h9, .ref h10, .ref h11, .ref h12, .ref h13]), (h9, ob 2 [.ref h1, .int 0]), (h14, aJ (k 1) 36 anJ), (h26, aI (k 0) 400 anI), (h29, aJ (k 1) 60 anJ), (h1, ob 4 [.int h1f0, .int h1f1, .int h1f2, .ref h14]), (h5, ob 3 [.ref h22, .ref h23, .ref h24, .ref h25, .ref h26, .ref h27, .ref h28, .ref h29, .int r3, .int 100, .int v12, .int 0]), (h12, aJ (k 1) 9 anJ), (h22, aJ (k 1) 900 anJ), (h23, aI (k 0) 100 anI), (h24, aI (k 0) 100 anI), (h25, aI (k 0) 100 anI), (h27, aI (k 0) 256 (rgI (-1) 99)), (h28, aI (k 0) 100 (rgI (-1) 99))] _ := hT
    refine lv_aload_n hx hb dX10_listAll_62 rfl (lv_at hl 0 rfl) ?_
    refine tz_get (ci := 7) (v := .ref h5) (C := RX10) (F := TX10) (N := 17) hx hb hU iX10 hown hK hT 0 rfl rfl 5 (by decide) w254 (fun _ h9 => h9) rfl dX10_listAll_63 ?_
    refine lv_aload_n hx hb dX10_listAll_66 rfl (lv_at hl 0 rfl) ?_
    refine tz_get (ci := 7) (v := .ref h9) (C := RX10) (F := TX10) (N := 17) hx hb hU iX10 hown hK hT 0 rfl rfl 12 (by decide) w261 (fun _ h9 => h9) rfl dX10_listAll_67 ?_
    refine lv_aload_n hx hb dX10_listAll_70 rfl (lv_at hl 0 rfl) ?_
    refine tz_get (ci := 7) (v := .ref h1) (C := RX10) (F := TX10) (N := 17) hx hb hU iX10 hown hK hT 0 rfl rfl 0 (by decide) w249 (fun _ h9 => h9) rfl dX10_listAll_71 ?_
    refine tz_get (ci := 4) (v := .int h1f1) (C := RX5) (F := TX5) (N := 4) hx hb hU iX5 hown hK hT 5 rfl rfl 1 (by decide) w97 (fun _ h9 => h9) rfl dX10_listAll_74 ?_
    have q_q14 := li_100
    have q_q15 := li_0
    have q_q16 := li_0
    refine tcV (Tc := [(h5, ob 3 [.ref h22, .ref h23, .ref h24, .ref h25, .ref h26, .ref h27, .ref h28, .ref h29, .int r3, .int 100, .int v12, .int 0]), (h9, ob 2 [.ref h1, .int 0]), (h22, aJ (k 1) 900 anJ), (h23, aI (k 0) 100 anI), (h24, aI (k 0) 100 anI), (h25, aI (k 0) 100 anI), (h26, aI (k 0) 400 anI), (h27, aI (k 0) 256 (rgI (-1) 99)), (h28, aI (k 0) 100 (rgI (-1) 99)), (h29, aJ (k 1) 60 anJ), (h1, ob 4 [.int h1f0, .int h1f1, .int h1f2, .ref h14]), (h14, aJ (k 1) 36 anJ)]) (Tr := [(h0, ob 7 [.ref h1, .ref h2, .int h0f2, .ref h3, .ref h4, .ref h5, .int h0f6, .ref h6, .int h0f8, .ref h7, .ref h8, .int h0f11, .ref h9, .ref h10, .ref h11, .ref h12, .ref h13]), (h12, aJ (k 1) 9 anJ)]) (as := [h5, h9, h22, h23, h24, h25, h26, h27, h28, h29, h1, h14]) (zcV (q0 := 6) (ci := 3) (As := [.ref h9, .int h1f1]) (rest := []) (Tc := [(h5, ob 3 [.ref h22, .ref h23, .ref h24, .ref h25, .ref h26, .ref h27, .ref h28, .ref h29, .int r3, .int 100, .int v12, .int 0]), (h9, ob 2 [.ref h1, .int 0]), (h22, aJ (k 1) 900 anJ), (h23, aI (k 0) 100 anI), (h24, aI (k 0) 100 anI), (h25, aI (k 0) 100 anI), (h26, aI (k 0) 400 anI), (h27, aI (k 0) 256 (rgI (-1) 99)), (h28, aI (k 0) 100 (rgI (-1) 99)), (h29, aJ (k 1) 60 anJ), (h1, ob 4 [.int h1f0, .int h1f1, .int h1f2, .ref h14]), (h14, aJ (k 1) 36 anJ)]) hx hb hml hown hU hK hT rfl rfl [6, 1, 8, 9, 10, 11, 3, 12, 13, 4, 5, 2] rfl (by decide) (cX4_spread_947f9 l D k _ h5 h9 h22 h23 h24 h25 h26 h27 h28 h29 h1 h14 h1f1 r3 (100) v12 (0) (0) h1f0 h1f1 h1f2 (by omega) (by omega) (by have := li_100; omega) (by omega) (by have := li_0; omega) (by have := li_0; omega) (by omega) (by omega)) w519 w516 w517 w518 w66 hdX4_spread ⟨rfl, rfl⟩ ⟨Nat.le_of_ble_eq_true rfl, Nat.le_of_ble_eq_true rfl⟩ rfl hl.1 (Nat.le_of_ble_eq_true rfl) dX10_listAll_77 ⟨Nat.le_of_ble_eq_true rfl, Nat.le_of_ble_eq_true rfl⟩) hT hS hA [6, 1, 8, 9, 10, 11, 3, 12, 13, 4, 5, 2] [0, 7] rfl rfl rfl (by decide) (by decide) (fun H locs hB J hS => ?_)
    obtain ⟨v17, v18, b_v17, b_v18, hT1⟩ := hB
    have hT := J _ hT1
    have hT : TP D A [(h0, ob 7 [.ref h1, .ref h2, .int h0f2, .ref h3, .ref h4, .ref h5, .int h0f6, .ref h6, .int h0f8, .ref h7, .ref h8, .int h0f11, .ref h9, .ref h10, .ref h11, .ref h12, .ref h13]), (h12, aJ (k 1) 9 anJ), (h5, ob 3 [.ref h22, .ref h23, .ref h24, .ref h25, .ref h26, .ref h27, .ref h28, .ref h29, .int r3, .int 100, .int v17, .int v18]), (h9, ob 2 [.ref h1, .int 0]), (h22, aJ (k 1) 900 anJ), (h23, aI (k 0) 100 anI), (h24, aI (k 0) 100 anI), (h25, aI (k 0) 100 anI), (h26, aI (k 0) 400 anI), (h27, aI (k 0) 256 (rgI (-1) 99)), (h28, aI (k 0) 100 (rgI (-1) 99)), (h29, aJ (k 1) 60 anJ), (h1, ob 4 [.int h1f0, .int h1f1, .int h1f2, .ref h14]), (h14, aJ (k 1) 36 anJ)] _ := hT
    refine lv_aload_n hx hb dX10_listAll_80 rfl (lv_at hl 0 rfl) ?_
    refine lv_iconst (v := 1) hx hb dX10_listAll_81 (by decide) ?_
    refine tz_put (ci := 7) (v := .int 1) (ty := .boolean) (C := RX10) (F := TX10) (N := 17) hx hb hU iX10 tyX10 tyX10_ok nmX10 hown hK hT hS 0 rfl rfl 6 (by decide) w255 (fun _ h9 => h9) rfl (by decide +kernel) rfl rfl (Nat.le_of_ble_eq_true rfl) dX10_listAll_82 (fun H locs hT hS => ?_)
    have hT : TP D A [(h0, ob 7 [.ref h1, .ref h2, .int h0f2, .ref h3, .ref h4, .ref h5, .int 1, .ref h6, .int h0f8, .ref h7, .ref h8, .int h0f11, .ref h9, .ref h10, .ref h11, .ref h12, .ref h13]), (h12, aJ (k 1) 9 anJ), (h5, ob 3 [.ref h22, .ref h23, .ref h24, .ref h25, .ref h26, .ref h27, .ref h28, .ref h29, .int r3, .int 100, .int v17, .int v18]), (h9, ob 2 [.ref h1, .int 0]), (h22, aJ (k 1) 900 anJ), (h23, aI (k 0) 100 anI), (h24, aI (k 0) 100 anI), (h25, aI (k 0) 100 anI), (h26, aI (k 0) 400 anI), (h27, aI (k 0) 256 (rgI (-1) 99)), (h28, aI (k 0) 100 (rgI (-1) 99)), (h29, aJ (k 1) 60 anJ), (h1, ob 4 [.int h1f0, .int h1f1, .int h1f2, .ref h14]), (h14, aJ (k 1) 36 anJ)] _ := hT
    exact tz_retV (B := B_cX10_listAll_d24ec D k h0 h1 h5 h9 h12 h14 h22 h23 h24 h25 h26 h27 h28 h29 h2 h3 h4 h6 h7 h8 h10 h11 h13 h0f2 h0f6 h0f8 h0f11 h1f0 h1f1 h1f2 h5f8 h5f9 h5f10 h5f11 h9f1) hQ hx hb hr hlocks hS (Nat.le_of_ble_eq_true rfl) (Nat.le_of_ble_eq_true rfl) dX10_listAll_85 (⟨1, r3, 100, v17, v18, 0, (by have := li_1; have := li_100; have := li_0; omega), (by have := li_1; have := li_100; have := li_0; omega), (by have := li_1; have := li_100; have := li_0; omega), (by have := li_1; have := li_100; have := li_0; omega), (by have := li_1; have := li_100; have := li_0; omega), (by have := li_1; have := li_100; have := li_0; omega), (hT.sub [0, 12, 2, 3, 1, 13, 4, 5, 6, 7, 8, 9, 10, 11] (by decide) rfl)⟩)
  · skip
    have c_1 := ni_ne c_1 rfl li_0
    exact tz_retV (B := B_cX10_listAll_d24ec D k h0 h1 h5 h9 h12 h14 h22 h23 h24 h25 h26 h27 h28 h29 h2 h3 h4 h6 h7 h8 h10 h11 h13 h0f2 h0f6 h0f8 h0f11 h1f0 h1f1 h1f2 h5f8 h5f9 h5f10 h5f11 h9f1) hQ hx hb hr hlocks hS (Nat.le_of_ble_eq_true rfl) (Nat.le_of_ble_eq_true rfl) dX10_listAll_7 (⟨h0f6, h5f8, h5f9, h5f10, h5f11, h9f1, (by omega), (by omega), (by omega), (by omega), (by omega), (by omega), hT⟩)
abbrev Rm_cX10_listed_dbcd9 : Room := { frames := 6, cells := 0, slots := 0, locals := 149 }
abbrev B_cX10_listed_dbcd9 (D : va_G) (k : Nat → ClassId) (h0 h1 h5 h9 h12 h14 h22 h23 h24 h25 h26 h27 h28 h29 h2 h3 h4 h6 h7 h8 h10 h11 h13 : Nat) (h0f2 : Int32) (h0f6 : Int32) (h0f8 : Int32) (h0f11 : Int32) (h1f0 : Int32) (h1f1 : Int32) (h1f2 : Int32) (h5f8 : Int32) (h5f9 : Int32) (h5f10 : Int32) (h5f11 : Int32) (h9f1 : Int32) (A : Nat → Prop) (r : Int32) (H : Heap) : Prop := ∃ o0 : Int32, ∃ o1 : Int32, ∃ o2 : Int32, ∃ o3 : Int32, ∃ o4 : Int32, ∃ o5 : Int32, (1 ≤ o0.toInt ∧ o0.toInt ≤ 1) ∧ (0 ≤ o1.toInt ∧ o1.toInt ≤ 9) ∧ (0 ≤ o2.toInt ∧ o2.toInt ≤ 100) ∧ (0 ≤ o3.toInt ∧ o3.toInt ≤ 100) ∧ (0 ≤ o4.toInt ∧ o4.toInt ≤ 1) ∧ (0 ≤ o5.toInt ∧ o5.toInt ≤ 7) ∧ (0 ≤ r.toInt ∧ r.toInt ≤ 100) ∧ TP D A [(h0, ob 7 [.ref h1, .ref h2, .int h0f2, .ref h3, .ref h4, .ref h5, .int o0, .ref h6, .int h0f8, .ref h7, .ref h8, .int h0f11, .ref h9, .ref h10, .ref h11, .ref h12, .ref h13]), (h1, ob 4 [.int h1f0, .int h1f1, .int h1f2, .ref h14]), (h5, ob 3 [.ref h22, .ref h23, .ref h24, .ref h25, .ref h26, .ref h27, .ref h28, .ref h29, .int o1, .int o2, .int o3, .int o4]), (h9, ob 2 [.ref h1, .int o5]), (h12, aJ (k 1) 9 anJ), (h14, aJ (k 1) 36 anJ), (h22, aJ (k 1) 900 anJ), (h23, aI (k 0) 100 anI), (h24, aI (k 0) 100 anI), (h25, aI (k 0) 100 anI), (h26, aI (k 0) 400 anI), (h27, aI (k 0) 256 (rgI (-1) 99)), (h28, aI (k 0) 100 (rgI (-1) 99)), (h29, aJ (k 1) 60 anJ)] H
set_option maxHeartbeats 4000000 in
set_option maxRecDepth 100000 in
theorem cX10_listed_dbcd9 (l : Launch) (D : va_G) (k : Nat → ClassId) (sz : Nat) (h0 h1 h5 h9 h12 h14 h22 h23 h24 h25 h26 h27 h28 h29 h2 h3 h4 h6 h7 h8 h10 h11 h13 : Nat) (h0f2 : Int32) (h0f6 : Int32) (h0f8 : Int32) (h0f11 : Int32) (h1f0 : Int32) (h1f1 : Int32) (h1f2 : Int32) (h5f8 : Int32) (h5f9 : Int32) (h5f10 : Int32) (h5f11 : Int32) (h9f1 : Int32) (b_h0f2 : 0 ≤ h0f2.toInt ∧ h0f2.toInt ≤ 1) (b_h0f6 : 0 ≤ h0f6.toInt ∧ h0f6.toInt ≤ 1) (b_h0f8 : 0 ≤ h0f8.toInt ∧ h0f8.toInt ≤ 1) (b_h0f11 : 0 ≤ h0f11.toInt ∧ h0f11.toInt ≤ 200) (b_h1f0 : 1 ≤ h1f0.toInt ∧ h1f0.toInt ≤ 3) (b_h1f1 : 0 ≤ h1f1.toInt ∧ h1f1.toInt ≤ 4) (b_h5f8 : 0 ≤ h5f8.toInt ∧ h5f8.toInt ≤ 9) (b_h5f9 : 0 ≤ h5f9.toInt ∧ h5f9.toInt ≤ 100) (b_h5f10 : 0 ≤ h5f10.toInt ∧ h5f10.toInt ≤ 100) (b_h5f11 : 0 ≤ h5f11.toInt ∧ h5f11.toInt ≤ 1) (b_h9f1 : 0 ≤ h9f1.toInt ∧ h9f1.toInt ≤ 7) : Met l yX10_listed (Cond.code yX10_listed cX10_listed 1 (some .int) :: uw) Rm_cX10_listed_dbcd9 (pT D k sz [.ref h0] [(h0, ob 7 [.ref h1, .ref h2, .int h0f2, .ref h3, .ref h4, .ref h5, .int h0f6, .ref h6, .int h0f8, .ref h7, .ref h8, .int h0f11, .ref h9, .ref h10, .ref h11, .ref h12, .ref h13]), (h1, ob 4 [.int h1f0, .int h1f1, .int h1f2, .ref h14]), (h5, ob 3 [.ref h22, .ref h23, .ref h24, .ref h25, .ref h26, .ref h27, .ref h28, .ref h29, .int h5f8, .int h5f9, .int h5f10, .int h5f11]), (h9, ob 2 [.ref h1, .int h9f1]), (h12, aJ (k 1) 9 anJ), (h14, aJ (k 1) 36 anJ), (h22, aJ (k 1) 900 anJ), (h23, aI (k 0) 100 anI), (h24, aI (k 0) 100 anI), (h25, aI (k 0) 100 anI), (h26, aI (k 0) 400 anI), (h27, aI (k 0) 256 (rgI (-1) 99)), (h28, aI (k 0) 100 (rgI (-1) 99)), (h29, aJ (k 1) 60 anJ)]) (qI (B_cX10_listed_dbcd9 D k h0 h1 h5 h9 h12 h14 h22 h23 h24 h25 h26 h27 h28 h29 h2 h3 h4 h6 h7 h8 h10 h11 h13 h0f2 h0f6 h0f8 h0f11 h1f0 h1f1 h1f2 h5f8 h5f9 h5f10 h5f11 h9f1 (zA [h0, h1, h5, h9, h12, h14, h22, h23, h24, h25, h26, h27, h28, h29] sz)) (zA [h0, h1, h5, h9, h12, h14, h22, h23, h24, h25, h26, h27, h28, h29] sz)) 0 0 (zA [h0, h1, h5, h9, h12, h14, h22, h23, h24, h25, h26, h27, h28, h29] sz) := by
  refine tz_begin (as := [h0, h1, h5, h9, h12, h14, h22, h23, h24, h25, h26, h27, h28, h29]) (Qc := fun A => qI (B_cX10_listed_dbcd9 D k h0 h1 h5 h9 h12 h14 h22 h23 h24 h25 h26 h27 h28 h29 h2 h3 h4 h6 h7 h8 h10 h11 h13 h0f2 h0f6 h0f8 h0f11 h1f0 h1f1 h1f2 h5f8 h5f9 h5f10 h5f11 h9f1 A) A) (by decide +kernel) rfl (Nat.le_of_ble_eq_true rfl) ?_
  intro p e s m args below meth c ls A Q hx hb hr hml hown hlocks hin hU hK hT hS hA hl hQ
  have hl : lv_has ls 1 [(0, .ref h0)] := hl
  have hT : TP D A [(h0, ob 7 [.ref h1, .ref h2, .int h0f2, .ref h3, .ref h4, .ref h5, .int h0f6, .ref h6, .int h0f8, .ref h7, .ref h8, .int h0f11, .ref h9, .ref h10, .ref h11, .ref h12, .ref h13]), (h1, ob 4 [.int h1f0, .int h1f1, .int h1f2, .ref h14]), (h5, ob 3 [.ref h22, .ref h23, .ref h24, .ref h25, .ref h26, .ref h27, .ref h28, .ref h29, .int h5f8, .int h5f9, .int h5f10, .int h5f11]), (h9, ob 2 [.ref h1, .int h9f1]), (h12, aJ (k 1) 9 anJ), (h14, aJ (k 1) 36 anJ), (h22, aJ (k 1) 900 anJ), (h23, aI (k 0) 100 anI), (h24, aI (k 0) 100 anI), (h25, aI (k 0) 100 anI), (h26, aI (k 0) 400 anI), (h27, aI (k 0) 256 (rgI (-1) 99)), (h28, aI (k 0) 100 (rgI (-1) 99)), (h29, aJ (k 1) 60 anJ)] s.heap := hT
  refine lv_aload_n hx hb dX10_listed_0 rfl (lv_at hl 0 rfl) ?_
  refine tcV (Tc := [(h0, ob 7 [.ref h1, .ref h2, .int h0f2, .ref h3, .ref h4, .ref h5, .int h0f6, .ref h6, .int h0f8, .ref h7, .ref h8, .int h0f11, .ref h9, .ref h10, .ref h11, .ref h12, .ref h13]), (h1, ob 4 [.int h1f0, .int h1f1, .int h1f2, .ref h14]), (h5, ob 3 [.ref h22, .ref h23, .ref h24, .ref h25, .ref h26, .ref h27, .ref h28, .ref h29, .int h5f8, .int h5f9, .int h5f10, .int h5f11]), (h9, ob 2 [.ref h1, .int h9f1]), (h12, aJ (k 1) 9 anJ), (h14, aJ (k 1) 36 anJ), (h22, aJ (k 1) 900 anJ), (h23, aI (k 0) 100 anI), (h24, aI (k 0) 100 anI), (h25, aI (k 0) 100 anI), (h26, aI (k 0) 400 anI), (h27, aI (k 0) 256 (rgI (-1) 99)), (h28, aI (k 0) 100 (rgI (-1) 99)), (h29, aJ (k 1) 60 anJ)]) (Tr := []) (as := [h0, h1, h5, h9, h12, h14, h22, h23, h24, h25, h26, h27, h28, h29]) (zcV (q0 := 0) (ci := 7) (As := []) (rest := []) (Tc := [(h0, ob 7 [.ref h1, .ref h2, .int h0f2, .ref h3, .ref h4, .ref h5, .int h0f6, .ref h6, .int h0f8, .ref h7, .ref h8, .int h0f11, .ref h9, .ref h10, .ref h11, .ref h12, .ref h13]), (h1, ob 4 [.int h1f0, .int h1f1, .int h1f2, .ref h14]), (h5, ob 3 [.ref h22, .ref h23, .ref h24, .ref h25, .ref h26, .ref h27, .ref h28, .ref h29, .int h5f8, .int h5f9, .int h5f10, .int h5f11]), (h9, ob 2 [.ref h1, .int h9f1]), (h12, aJ (k 1) 9 anJ), (h14, aJ (k 1) 36 anJ), (h22, aJ (k 1) 900 anJ), (h23, aI (k 0) 100 anI), (h24, aI (k 0) 100 anI), (h25, aI (k 0) 100 anI), (h26, aI (k 0) 400 anI), (h27, aI (k 0) 256 (rgI (-1) 99)), (h28, aI (k 0) 100 (rgI (-1) 99)), (h29, aJ (k 1) 60 anJ)]) hx hb hml hown hU hK hT rfl rfl [0, 1, 2, 3, 4, 5, 6, 7, 8, 9, 10, 11, 12, 13] rfl (by decide) (cX10_listAll_d24ec l D k _ h0 h1 h5 h9 h12 h14 h22 h23 h24 h25 h26 h27 h28 h29 h2 h3 h4 h6 h7 h8 h10 h11 h13 h0f2 h0f6 h0f8 h0f11 h1f0 h1f1 h1f2 h5f8 h5f9 h5f10 h5f11 h9f1 (by omega) (by omega) (by omega) (by omega) (by omega) (by omega) (by omega) (by omega) (by omega) (by omega) (by omega)) w492 w489 w491 w10 w63 hdX10_listAll ⟨rfl, rfl⟩ ⟨Nat.le_of_ble_eq_true rfl, Nat.le_of_ble_eq_true rfl⟩ rfl hl.1 (Nat.le_of_ble_eq_true rfl) dX10_listed_1 ⟨Nat.le_of_ble_eq_true rfl, Nat.le_of_ble_eq_true rfl⟩) hT hS hA [0, 1, 2, 3, 4, 5, 6, 7, 8, 9, 10, 11, 12, 13] [] rfl rfl rfl (by decide) (by decide) (fun H locs hB J hS => ?_)
  obtain ⟨v2, v3, v4, v5, v6, v7, b_v2, b_v3, b_v4, b_v5, b_v6, b_v7, hT1⟩ := hB
  have hT := J _ hT1
  have hT : TP D A [(h0, ob 7 [.ref h1, .ref h2, .int h0f2, .ref h3, .ref h4, .ref h5, .int v2, .ref h6, .int h0f8, .ref h7, .ref h8, .int h0f11, .ref h9, .ref h10, .ref h11, .ref h12, .ref h13]), (h1, ob 4 [.int h1f0, .int h1f1, .int h1f2, .ref h14]), (h5, ob 3 [.ref h22, .ref h23, .ref h24, .ref h25, .ref h26, .ref h27, .ref h28, .ref h29, .int v3, .int v4, .int v5, .int v6]), (h9, ob 2 [.ref h1, .int v7]), (h12, aJ (k 1) 9 anJ), (h14, aJ (k 1) 36 anJ), (h22, aJ (k 1) 900 anJ), (h23, aI (k 0) 100 anI), (h24, aI (k 0) 100 anI), (h25, aI (k 0) 100 anI), (h26, aI (k 0) 400 anI), (h27, aI (k 0) 256 (rgI (-1) 99)), (h28, aI (k 0) 100 (rgI (-1) 99)), (h29, aJ (k 1) 60 anJ)] _ := hT
  refine lv_aload_n hx hb dX10_listed_4 rfl (lv_at hl 0 rfl) ?_
  refine tz_get (ci := 7) (v := .ref h5) (C := RX10) (F := TX10) (N := 17) hx hb hU iX10 hown hK hT 0 rfl rfl 5 (by decide) w254 (fun _ h9 => h9) rfl dX10_listed_5 ?_
  refine tz_get (ci := 3) (v := .int v5) (C := RX4) (F := TX4) (N := 12) hx hb hU iX4 hown hK hT 2 rfl rfl 10 (by decide) w166 (fun _ h9 => h9) rfl dX10_listed_8 ?_
  exact tz_retI (B := B_cX10_listed_dbcd9 D k h0 h1 h5 h9 h12 h14 h22 h23 h24 h25 h26 h27 h28 h29 h2 h3 h4 h6 h7 h8 h10 h11 h13 h0f2 h0f6 h0f8 h0f11 h1f0 h1f1 h1f2 h5f8 h5f9 h5f10 h5f11 h9f1) (v := v5) hQ hx hb hr hlocks hS (Nat.le_of_ble_eq_true rfl) (Nat.le_of_ble_eq_true rfl) dX10_listed_11 (⟨v2, v3, v4, v5, v6, v7, (by omega), (by omega), (by omega), (by omega), (by omega), (by omega), (by omega), hT⟩)
abbrev Rm_cX11_clears_6e225 : Room := { frames := 0, cells := 0, slots := 0, locals := 0 }
abbrev B_cX11_clears_6e225 (D : va_G) (k : Nat → ClassId) (h0 h1 h2 h3 h4 h5 h6 h7 h8 h9 h10 h11 h12 h13 h14 h15 h16 h17 h18 h19 h20 h21 : Nat) (h0f0 : Int32) (h0f1 : Int32) (h0f2 : Int32) (h0f3 : Int32) (h0f4 : Int32) (h0f5 : Int32) (h0f8 : Int32) (h0f9 : Int32) (h0f17 : Int32) (h0f18 : Int32) (h0f19 : Int32) (h0f24 : Int32) (h0f25 : Int32) (h0f30 : Int32) (h0f31 : Int32) (A : Nat → Prop) (H : Heap) : Prop := TP D A [(h0, ob 8 [.int h0f0, .int h0f1, .int h0f2, .int h0f3, .int h0f4, .int h0f5, .ref h2, .ref h3, .int h0f8, .int h0f9, .ref h4, .ref h1, .ref h5, .ref h6, .ref h7, .ref h8, .ref h9, .int h0f17, .int h0f18, .int h0f19, .ref h10, .ref h11, .ref h12, .ref h13, .int h0f24, .int h0f25, .ref h14, .ref h15, .ref h16, .ref h17, .int h0f30, .int h0f31, .ref h18, .ref h19, .ref h20, .ref h21]), (h1, aJ (k 1) 9 (z9P ))] H
set_option maxHeartbeats 4000000 in
set_option maxRecDepth 100000 in
theorem cX11_clears_6e225 (l : Launch) (D : va_G) (k : Nat → ClassId) (sz : Nat) (h0 h1 h2 h3 h4 h5 h6 h7 h8 h9 h10 h11 h12 h13 h14 h15 h16 h17 h18 h19 h20 h21 : Nat) (h0f0 : Int32) (h0f1 : Int32) (h0f2 : Int32) (h0f3 : Int32) (h0f4 : Int32) (h0f5 : Int32) (h0f8 : Int32) (h0f9 : Int32) (h0f17 : Int32) (h0f18 : Int32) (h0f19 : Int32) (h0f24 : Int32) (h0f25 : Int32) (h0f30 : Int32) (h0f31 : Int32) (b_h0f0 : 1 ≤ h0f0.toInt ∧ h0f0.toInt ≤ 3) (b_h0f1 : 0 ≤ h0f1.toInt ∧ h0f1.toInt ≤ 4) (b_h0f3 : 0 ≤ h0f3.toInt ∧ h0f3.toInt ≤ 3) (b_h0f4 : 0 ≤ h0f4.toInt ∧ h0f4.toInt ≤ 4) (b_h0f8 : 0 ≤ h0f8.toInt ∧ h0f8.toInt ≤ 1) (b_h0f9 : 0 ≤ h0f9.toInt ∧ h0f9.toInt ≤ 0) (b_h0f17 : 0 ≤ h0f17.toInt ∧ h0f17.toInt ≤ 120) (b_h0f18 : 0 ≤ h0f18.toInt ∧ h0f18.toInt ≤ 120) (b_h0f19 : 0 ≤ h0f19.toInt ∧ h0f19.toInt ≤ 4) (b_h0f24 : 0 ≤ h0f24.toInt ∧ h0f24.toInt ≤ 0) (b_h0f25 : 0 ≤ h0f25.toInt ∧ h0f25.toInt ≤ 1) (b_h0f30 : 0 ≤ h0f30.toInt ∧ h0f30.toInt ≤ 60) (b_h0f31 : 0 ≤ h0f31.toInt ∧ h0f31.toInt ≤ 1) (i_0 : h0f8.toInt ≤ h0f3.toInt) (i_1 : h0f9.toInt ≤ h0f24.toInt) : Met l yX11_clears (Cond.code yX11_clears cX11_clears 3 none :: uw) Rm_cX11_clears_6e225 (pT D k sz [.ref h0, .ref h1] [(h0, ob 8 [.int h0f0, .int h0f1, .int h0f2, .int h0f3, .int h0f4, .int h0f5, .ref h2, .ref h3, .int h0f8, .int h0f9, .ref h4, .ref h1, .ref h5, .ref h6, .ref h7, .ref h8, .ref h9, .int h0f17, .int h0f18, .int h0f19, .ref h10, .ref h11, .ref h12, .ref h13, .int h0f24, .int h0f25, .ref h14, .ref h15, .ref h16, .ref h17, .int h0f30, .int h0f31, .ref h18, .ref h19, .ref h20, .ref h21]), (h1, aJ (k 1) 9 anJ)]) (qV (B_cX11_clears_6e225 D k h0 h1 h2 h3 h4 h5 h6 h7 h8 h9 h10 h11 h12 h13 h14 h15 h16 h17 h18 h19 h20 h21 h0f0 h0f1 h0f2 h0f3 h0f4 h0f5 h0f8 h0f9 h0f17 h0f18 h0f19 h0f24 h0f25 h0f30 h0f31 (zA [h0, h1] sz)) (zA [h0, h1] sz)) 0 0 (zA [h0, h1] sz) := by
  refine tz_begin (as := [h0, h1]) (Qc := fun A => qV (B_cX11_clears_6e225 D k h0 h1 h2 h3 h4 h5 h6 h7 h8 h9 h10 h11 h12 h13 h14 h15 h16 h17 h18 h19 h20 h21 h0f0 h0f1 h0f2 h0f3 h0f4 h0f5 h0f8 h0f9 h0f17 h0f18 h0f19 h0f24 h0f25 h0f30 h0f31 A) A) (by decide +kernel) rfl (Nat.le_of_ble_eq_true rfl) ?_
  intro p e s m args below meth c ls A Q hx hb hr hml hown hlocks hin hU hK hT hS hA hl hQ
  have hl : lv_has ls 3 [(0, .ref h0), (1, .ref h1)] := hl
  have hT : TP D A [(h0, ob 8 [.int h0f0, .int h0f1, .int h0f2, .int h0f3, .int h0f4, .int h0f5, .ref h2, .ref h3, .int h0f8, .int h0f9, .ref h4, .ref h1, .ref h5, .ref h6, .ref h7, .ref h8, .ref h9, .int h0f17, .int h0f18, .int h0f19, .ref h10, .ref h11, .ref h12, .ref h13, .int h0f24, .int h0f25, .ref h14, .ref h15, .ref h16, .ref h17, .int h0f30, .int h0f31, .ref h18, .ref h19, .ref h20, .ref h21]), (h1, aJ (k 1) 9 anJ)] s.heap := hT
  refine lv_iconst (v := 0) hx hb dX11_clears_0 (by decide) ?_
  refine lv_istore_n (lv' := [(2, .int 0), (0, .ref h0), (1, .ref h1)]) hx hb dX11_clears_1 rfl hl (by decide) rfl (fun ls hl => ?_)
  have hT := hT.wk (q := 1) (P' := aJ (k 1) 9 (zkP ((0 : Int32).toInt))) rfl (cv_zk_0 (by have := li_0; omega))
  have hT : TP D A [(h0, ob 8 [.int h0f0, .int h0f1, .int h0f2, .int h0f3, .int h0f4, .int h0f5, .ref h2, .ref h3, .int h0f8, .int h0f9, .ref h4, .ref h1, .ref h5, .ref h6, .ref h7, .ref h8, .ref h9, .int h0f17, .int h0f18, .int h0f19, .ref h10, .ref h11, .ref h12, .ref h13, .int h0f24, .int h0f25, .ref h14, .ref h15, .ref h16, .ref h17, .int h0f30, .int h0f31, .ref h18, .ref h19, .ref h20, .ref h21]), (h1, aJ (k 1) 9 (zkP ((0 : Int32).toInt)))] _ := hT
  have lp2_8 : ∀ (n : Nat) (y7 : Int32) (H : Heap) (locs : List Loc) (ls : Array Slot), (0 ≤ y7.toInt ∧ y7.toInt ≤ 9) → ((-1) * y7.toInt + 9 + 1).toNat < n → TP D A [(h0, ob 8 [.int h0f0, .int h0f1, .int h0f2, .int h0f3, .int h0f4, .int h0f5, .ref h2, .ref h3, .int h0f8, .int h0f9, .ref h4, .ref h1, .ref h5, .ref h6, .ref h7, .ref h8, .ref h9, .int h0f17, .int h0f18, .int h0f19, .ref h10, .ref h11, .ref h12, .ref h13, .int h0f24, .int h0f25, .ref h14, .ref h15, .ref h16, .ref h17, .int h0f30, .int h0f31, .ref h18, .ref h19, .ref h20, .ref h21]), (h1, aJ (k 1) 9 (zkP (y7.toInt)))] H → va_S A s.heap H locs → lv_has ls 3 [(1, .ref h1), (2, .int y7)] → W p l e Rm_cX11_clears_6e225 s m args below meth c H locs 0 0 Q (F0 m 2 ls []) := by
    intro n
    induction n with
    | zero => intro y7 H locs ls b_y7 hm hT hS hl; exact absurd hm (Nat.not_lt_zero _)
    | succ n ih =>
      intro y7 H locs ls b_y7 hm hT hS hl
      have ih2_8 := ih
      clear ih
      refine lv_iload_n hx hb dX11_clears_2 rfl (lv_at hl 1 rfl) ?_
      refine lv_bipush (v := 9) hx hb dX11_clears_3 (by decide) ?_
      refine lv_icmp_ge (tgt := 18) hx hb dX11_clears_5 (by decide) (fun c_9 => ?_) (fun c_9 => ?_)
      · skip
        have c_9 := ni_le c_9 li_9 rfl
        have hT := hT.wk (q := 1) (P' := aJ (k 1) 9 (z9P )) rfl (cv_zk_z9 (by omega))
        have hT : TP D A [(h0, ob 8 [.int h0f0, .int h0f1, .int h0f2, .int h0f3, .int h0f4, .int h0f5, .ref h2, .ref h3, .int h0f8, .int h0f9, .ref h4, .ref h1, .ref h5, .ref h6, .ref h7, .ref h8, .ref h9, .int h0f17, .int h0f18, .int h0f19, .ref h10, .ref h11, .ref h12, .ref h13, .int h0f24, .int h0f25, .ref h14, .ref h15, .ref h16, .ref h17, .int h0f30, .int h0f31, .ref h18, .ref h19, .ref h20, .ref h21]), (h1, aJ (k 1) 9 (z9P ))] _ := hT
        exact tz_retV (B := B_cX11_clears_6e225 D k h0 h1 h2 h3 h4 h5 h6 h7 h8 h9 h10 h11 h12 h13 h14 h15 h16 h17 h18 h19 h20 h21 h0f0 h0f1 h0f2 h0f3 h0f4 h0f5 h0f8 h0f9 h0f17 h0f18 h0f19 h0f24 h0f25 h0f30 h0f31) hQ hx hb hr hlocks hS (Nat.le_of_ble_eq_true rfl) (Nat.le_of_ble_eq_true rfl) dX11_clears_18 (hT)
      · skip
        have c_9 := ni_nle c_9 li_9 rfl
        refine lv_aload_n hx hb dX11_clears_8 rfl (lv_at hl 0 rfl) ?_
        refine lv_iload_n hx hb dX11_clears_9 rfl (lv_at hl 1 rfl) ?_
        refine lv_lconst (v := 0) hx hb dX11_clears_10 (by decide) ?_
        refine tz_lastP hx hb hK hT hS 1 (zkP (y7.toInt + 1)) rfl (by omega) (zk_put (by omega)) dX11_clears_11 (fun H locs hT hS => ?_)
        have hT : TP D A [(h0, ob 8 [.int h0f0, .int h0f1, .int h0f2, .int h0f3, .int h0f4, .int h0f5, .ref h2, .ref h3, .int h0f8, .int h0f9, .ref h4, .ref h1, .ref h5, .ref h6, .ref h7, .ref h8, .ref h9, .int h0f17, .int h0f18, .int h0f19, .ref h10, .ref h11, .ref h12, .ref h13, .int h0f24, .int h0f25, .ref h14, .ref h15, .ref h16, .ref h17, .int h0f30, .int h0f31, .ref h18, .ref h19, .ref h20, .ref h21]), (h1, aJ (k 1) 9 (zkP (y7.toInt + 1)))] _ := hT
        obtain ⟨v10, e_v10⟩ : ∃ x : Int32, x = y7 + Int32.ofInt 1 := ⟨_, rfl⟩
        have f_v10 := e_v10.symm
        have e_v10 : v10.toInt = y7.toInt + 1 := ai_add e_v10 rfl (show (Int32.ofInt 1).toInt = 1 from (by decide +kernel)) (by omega)
        refine lv_iinc (v := v10) (lv' := [(2, .int v10), (1, .ref h1)]) hx hb dX11_clears_12 hl (k := 1) rfl f_v10 (by decide) rfl (fun ls hl => ?_)
        refine lv_goto (tgt := 2) hx hb dX11_clears_15 (by decide) ?_
        have hT := hT.wk (q := 1) (P' := aJ (k 1) 9 (zkP (v10.toInt))) rfl (cv_zk_zk (by omega))
        have hT : TP D A [(h0, ob 8 [.int h0f0, .int h0f1, .int h0f2, .int h0f3, .int h0f4, .int h0f5, .ref h2, .ref h3, .int h0f8, .int h0f9, .ref h4, .ref h1, .ref h5, .ref h6, .ref h7, .ref h8, .ref h9, .int h0f17, .int h0f18, .int h0f19, .ref h10, .ref h11, .ref h12, .ref h13, .int h0f24, .int h0f25, .ref h14, .ref h15, .ref h16, .ref h17, .int h0f30, .int h0f31, .ref h18, .ref h19, .ref h20, .ref h21]), (h1, aJ (k 1) 9 (zkP (v10.toInt)))] _ := hT
        exact ih2_8 v10 _ _ _ (by omega)  (by omega) hT hS (lv_sub hl [1, 0] rfl)
  exact lp2_8 (((-1) * (0 : Int32).toInt + 9 + 1).toNat + 1) (0) _ _ _ (by have := li_0; omega)  (Nat.lt_succ_self _) hT hS (lv_sub hl [2, 0] rfl)
abbrev Rm_cX11_first_2a7db : Room := { frames := 1, cells := 0, slots := 0, locals := 22 }
abbrev B_cX11_first_2a7db (D : va_G) (k : Nat → ClassId) (h0 h1 h2 h3 h4 h5 h6 h7 h8 h9 h10 h11 h12 h13 h14 h15 h16 h17 h18 h19 h20 h21 : Nat) (h0f0 : Int32) (h0f1 : Int32) (h0f2 : Int32) (h0f3 : Int32) (h0f4 : Int32) (h0f5 : Int32) (h0f8 : Int32) (h0f9 : Int32) (h0f17 : Int32) (h0f18 : Int32) (h0f19 : Int32) (h0f24 : Int32) (h0f25 : Int32) (h0f30 : Int32) (h0f31 : Int32) (A : Nat → Prop) (H : Heap) : Prop := TP D A [(h0, ob 8 [.int h0f0, .int h0f1, .int h0f2, .int h0f3, .int h0f4, .int h0f5, .ref h2, .ref h3, .int h0f8, .int h0f9, .ref h4, .ref h1, .ref h5, .ref h6, .ref h7, .ref h8, .ref h9, .int h0f17, .int h0f18, .int h0f19, .ref h10, .ref h11, .ref h12, .ref h13, .int h0f24, .int h0f25, .ref h14, .ref h15, .ref h16, .ref h17, .int h0f30, .int h0f31, .ref h18, .ref h19, .ref h20, .ref h21]), (h1, aJ (k 1) 9 (idP ))] H
set_option maxHeartbeats 4000000 in
set_option maxRecDepth 100000 in
theorem cX11_first_2a7db (l : Launch) (D : va_G) (k : Nat → ClassId) (sz : Nat) (h0 h1 h2 h3 h4 h5 h6 h7 h8 h9 h10 h11 h12 h13 h14 h15 h16 h17 h18 h19 h20 h21 : Nat) (h0f0 : Int32) (h0f1 : Int32) (h0f2 : Int32) (h0f3 : Int32) (h0f4 : Int32) (h0f5 : Int32) (h0f8 : Int32) (h0f9 : Int32) (h0f17 : Int32) (h0f18 : Int32) (h0f19 : Int32) (h0f24 : Int32) (h0f25 : Int32) (h0f30 : Int32) (h0f31 : Int32) (b_h0f0 : 1 ≤ h0f0.toInt ∧ h0f0.toInt ≤ 3) (b_h0f1 : 0 ≤ h0f1.toInt ∧ h0f1.toInt ≤ 4) (b_h0f3 : 0 ≤ h0f3.toInt ∧ h0f3.toInt ≤ 3) (b_h0f4 : 0 ≤ h0f4.toInt ∧ h0f4.toInt ≤ 4) (b_h0f8 : 0 ≤ h0f8.toInt ∧ h0f8.toInt ≤ 1) (b_h0f9 : 0 ≤ h0f9.toInt ∧ h0f9.toInt ≤ 0) (b_h0f17 : 0 ≤ h0f17.toInt ∧ h0f17.toInt ≤ 120) (b_h0f18 : 0 ≤ h0f18.toInt ∧ h0f18.toInt ≤ 120) (b_h0f19 : 0 ≤ h0f19.toInt ∧ h0f19.toInt ≤ 4) (b_h0f24 : 0 ≤ h0f24.toInt ∧ h0f24.toInt ≤ 0) (b_h0f25 : 0 ≤ h0f25.toInt ∧ h0f25.toInt ≤ 1) (b_h0f30 : 0 ≤ h0f30.toInt ∧ h0f30.toInt ≤ 60) (b_h0f31 : 0 ≤ h0f31.toInt ∧ h0f31.toInt ≤ 1) (i_0 : h0f8.toInt ≤ h0f3.toInt) (i_1 : h0f9.toInt ≤ h0f24.toInt) : Met l yX11_first (Cond.code yX11_first cX11_first 3 none :: uw) Rm_cX11_first_2a7db (pT D k sz [.ref h0, .ref h1] [(h0, ob 8 [.int h0f0, .int h0f1, .int h0f2, .int h0f3, .int h0f4, .int h0f5, .ref h2, .ref h3, .int h0f8, .int h0f9, .ref h4, .ref h1, .ref h5, .ref h6, .ref h7, .ref h8, .ref h9, .int h0f17, .int h0f18, .int h0f19, .ref h10, .ref h11, .ref h12, .ref h13, .int h0f24, .int h0f25, .ref h14, .ref h15, .ref h16, .ref h17, .int h0f30, .int h0f31, .ref h18, .ref h19, .ref h20, .ref h21]), (h1, aJ (k 1) 9 anJ)]) (qV (B_cX11_first_2a7db D k h0 h1 h2 h3 h4 h5 h6 h7 h8 h9 h10 h11 h12 h13 h14 h15 h16 h17 h18 h19 h20 h21 h0f0 h0f1 h0f2 h0f3 h0f4 h0f5 h0f8 h0f9 h0f17 h0f18 h0f19 h0f24 h0f25 h0f30 h0f31 (zA [h0, h1] sz)) (zA [h0, h1] sz)) 0 0 (zA [h0, h1] sz) := by
  refine tz_begin (as := [h0, h1]) (Qc := fun A => qV (B_cX11_first_2a7db D k h0 h1 h2 h3 h4 h5 h6 h7 h8 h9 h10 h11 h12 h13 h14 h15 h16 h17 h18 h19 h20 h21 h0f0 h0f1 h0f2 h0f3 h0f4 h0f5 h0f8 h0f9 h0f17 h0f18 h0f19 h0f24 h0f25 h0f30 h0f31 A) A) (by decide +kernel) rfl (Nat.le_of_ble_eq_true rfl) ?_
  intro p e s m args below meth c ls A Q hx hb hr hml hown hlocks hin hU hK hT hS hA hl hQ
  have hl : lv_has ls 3 [(0, .ref h0), (1, .ref h1)] := hl
  have hT : TP D A [(h0, ob 8 [.int h0f0, .int h0f1, .int h0f2, .int h0f3, .int h0f4, .int h0f5, .ref h2, .ref h3, .int h0f8, .int h0f9, .ref h4, .ref h1, .ref h5, .ref h6, .ref h7, .ref h8, .ref h9, .int h0f17, .int h0f18, .int h0f19, .ref h10, .ref h11, .ref h12, .ref h13, .int h0f24, .int h0f25, .ref h14, .ref h15, .ref h16, .ref h17, .int h0f30, .int h0f31, .ref h18, .ref h19, .ref h20, .ref h21]), (h1, aJ (k 1) 9 anJ)] s.heap := hT
  refine lv_aload_n hx hb dX11_first_0 rfl (lv_at hl 0 rfl) ?_
  refine lv_aload_n hx hb dX11_first_1 rfl (lv_at hl 1 rfl) ?_
  refine tcV (Tc := [(h0, ob 8 [.int h0f0, .int h0f1, .int h0f2, .int h0f3, .int h0f4, .int h0f5, .ref h2, .ref h3, .int h0f8, .int h0f9, .ref h4, .ref h1, .ref h5, .ref h6, .ref h7, .ref h8, .ref h9, .int h0f17, .int h0f18, .int h0f19, .ref h10, .ref h11, .ref h12, .ref h13, .int h0f24, .int h0f25, .ref h14, .ref h15, .ref h16, .ref h17, .int h0f30, .int h0f31, .ref h18, .ref h19, .ref h20, .ref h21]), (h1, aJ (k 1) 9 anJ)]) (Tr := []) (as := [h0, h1]) (zcV (q0 := 0) (ci := 8) (As := [.ref h1]) (rest := []) (Tc := [(h0, ob 8 [.int h0f0, .int h0f1, .int h0f2, .int h0f3, .int h0f4, .int h0f5, .ref h2, .ref h3, .int h0f8, .int h0f9, .ref h4, .ref h1, .ref h5, .ref h6, .ref h7, .ref h8, .ref h9, .int h0f17, .int h0f18, .int h0f19, .ref h10, .ref h11, .ref h12, .ref h13, .int h0f24, .int h0f25, .ref h14, .ref h15, .ref h16, .ref h17, .int h0f30, .int h0f31, .ref h18, .ref h19, .ref h20, .ref h21]), (h1, aJ (k 1) 9 anJ)]) hx hb hml hown hU hK hT rfl rfl [0, 1] rfl (by decide) (cX11_clears_6e225 l D k _ h0 h1 h2 h3 h4 h5 h6 h7 h8 h9 h10 h11 h12 h13 h14 h15 h16 h17 h18 h19 h20 h21 h0f0 h0f1 h0f2 h0f3 h0f4 h0f5 h0f8 h0f9 h0f17 h0f18 h0f19 h0f24 h0f25 h0f30 h0f31 (by omega) (by omega) (by omega) (by omega) (by omega) (by omega) (by omega) (by omega) (by omega) (by omega) (by omega) (by omega) (by omega) (by omega) (by omega)) w923 w920 w922 w29 w72 hdX11_clears ⟨rfl, rfl⟩ ⟨Nat.le_of_ble_eq_true rfl, Nat.le_of_ble_eq_true rfl⟩ rfl hl.1 (Nat.le_of_ble_eq_true rfl) dX11_first_2 ⟨Nat.le_of_ble_eq_true rfl, Nat.le_of_ble_eq_true rfl⟩) hT hS hA [0, 1] [] rfl rfl rfl (by decide) (by decide) (fun H locs hB J hS => ?_)
  have hT1 := hB
  have hT := J _ hT1
  have hT : TP D A [(h0, ob 8 [.int h0f0, .int h0f1, .int h0f2, .int h0f3, .int h0f4, .int h0f5, .ref h2, .ref h3, .int h0f8, .int h0f9, .ref h4, .ref h1, .ref h5, .ref h6, .ref h7, .ref h8, .ref h9, .int h0f17, .int h0f18, .int h0f19, .ref h10, .ref h11, .ref h12, .ref h13, .int h0f24, .int h0f25, .ref h14, .ref h15, .ref h16, .ref h17, .int h0f30, .int h0f31, .ref h18, .ref h19, .ref h20, .ref h21]), (h1, aJ (k 1) 9 (z9P ))] _ := hT
  refine lv_iconst (v := 0) hx hb dX11_first_5 (by decide) ?_
  refine lv_istore_n (lv' := [(2, .int 0), (0, .ref h0), (1, .ref h1)]) hx hb dX11_first_6 rfl hl (by decide) rfl (fun ls hl => ?_)
  have hT := hT.wk (q := 1) (P' := aJ (k 1) 9 (fiP ((0 : Int32).toInt))) rfl (cv_z9_fi (by have := li_0; omega))
  have hT : TP D A [(h0, ob 8 [.int h0f0, .int h0f1, .int h0f2, .int h0f3, .int h0f4, .int h0f5, .ref h2, .ref h3, .int h0f8, .int h0f9, .ref h4, .ref h1, .ref h5, .ref h6, .ref h7, .ref h8, .ref h9, .int h0f17, .int h0f18, .int h0f19, .ref h10, .ref h11, .ref h12, .ref h13, .int h0f24, .int h0f25, .ref h14, .ref h15, .ref h16, .ref h17, .int h0f30, .int h0f31, .ref h18, .ref h19, .ref h20, .ref h21]), (h1, aJ (k 1) 9 (fiP ((0 : Int32).toInt)))] _ := hT
  have lp7_5 : ∀ (n : Nat) (y4 : Int32) (H : Heap) (locs : List Loc) (ls : Array Slot), (0 ≤ y4.toInt ∧ y4.toInt ≤ 3) → (h0f0.toInt + (-1) * y4.toInt + 1).toNat < n → TP D A [(h0, ob 8 [.int h0f0, .int h0f1, .int h0f2, .int h0f3, .int h0f4, .int h0f5, .ref h2, .ref h3, .int h0f8, .int h0f9, .ref h4, .ref h1, .ref h5, .ref h6, .ref h7, .ref h8, .ref h9, .int h0f17, .int h0f18, .int h0f19, .ref h10, .ref h11, .ref h12, .ref h13, .int h0f24, .int h0f25, .ref h14, .ref h15, .ref h16, .ref h17, .int h0f30, .int h0f31, .ref h18, .ref h19, .ref h20, .ref h21]), (h1, aJ (k 1) 9 (fiP (y4.toInt)))] H → va_S A s.heap H locs → lv_has ls 3 [(0, .ref h0), (1, .ref h1), (2, .int y4)] → W p l e Rm_cX11_first_2a7db s m args below meth c H locs 0 0 Q (F0 m 7 ls []) := by
    intro n
    induction n with
    | zero => intro y4 H locs ls b_y4 hm hT hS hl; exact absurd hm (Nat.not_lt_zero _)
    | succ n ih =>
      intro y4 H locs ls b_y4 hm hT hS hl
      have ih7_5 := ih
      clear ih
      refine lv_iload_n hx hb dX11_first_7 rfl (lv_at hl 2 rfl) ?_
      refine lv_aload_n hx hb dX11_first_8 rfl (lv_at hl 0 rfl) ?_
      refine tz_get (ci := 8) (v := .int h0f0) (C := RX11) (F := TX11) (N := 36) hx hb hU iX11 hown hK hT 0 rfl rfl 0 (by decide) w785 (fun _ h9 => h9) rfl dX11_first_9 ?_
      refine lv_icmp_ge (tgt := 27) hx hb dX11_first_12 (by decide) (fun c_6 => ?_) (fun c_6 => ?_)
      · skip
        have c_6 := ni_le c_6 rfl rfl
        have hT := hT.wk (q := 1) (P' := aJ (k 1) 9 (idP )) rfl (cv_fi_id (by omega))
        have hT : TP D A [(h0, ob 8 [.int h0f0, .int h0f1, .int h0f2, .int h0f3, .int h0f4, .int h0f5, .ref h2, .ref h3, .int h0f8, .int h0f9, .ref h4, .ref h1, .ref h5, .ref h6, .ref h7, .ref h8, .ref h9, .int h0f17, .int h0f18, .int h0f19, .ref h10, .ref h11, .ref h12, .ref h13, .int h0f24, .int h0f25, .ref h14, .ref h15, .ref h16, .ref h17, .int h0f30, .int h0f31, .ref h18, .ref h19, .ref h20, .ref h21]), (h1, aJ (k 1) 9 (idP ))] _ := hT
        exact tz_retV (B := B_cX11_first_2a7db D k h0 h1 h2 h3 h4 h5 h6 h7 h8 h9 h10 h11 h12 h13 h14 h15 h16 h17 h18 h19 h20 h21 h0f0 h0f1 h0f2 h0f3 h0f4 h0f5 h0f8 h0f9 h0f17 h0f18 h0f19 h0f24 h0f25 h0f30 h0f31) hQ hx hb hr hlocks hS (Nat.le_of_ble_eq_true rfl) (Nat.le_of_ble_eq_true rfl) dX11_first_27 (hT)
      · skip
        have c_6 := ni_nle c_6 rfl rfl
        refine lv_aload_n hx hb dX11_first_15 rfl (lv_at hl 1 rfl) ?_
        refine lv_iconst (v := 4) hx hb dX11_first_16 (by decide) ?_
        refine lv_iload_n hx hb dX11_first_17 rfl (lv_at hl 2 rfl) ?_
        refine lv_imul hx hb dX11_first_18 (lv_topi (fun v7 e_v7 => ?_))
        have e_v7 := ai_mul e_v7 li_4 rfl (by omega)
        refine lv_lconst (v := 1) hx hb dX11_first_19 (by decide) ?_
        refine tz_lastP hx hb hK hT hS 1 (fiP (y4.toInt + 1)) rfl (by omega) (fi_put (by omega)) dX11_first_20 (fun H locs hT hS => ?_)
        have hT : TP D A [(h0, ob 8 [.int h0f0, .int h0f1, .int h0f2, .int h0f3, .int h0f4, .int h0f5, .ref h2, .ref h3, .int h0f8, .int h0f9, .ref h4, .ref h1, .ref h5, .ref h6, .ref h7, .ref h8, .ref h9, .int h0f17, .int h0f18, .int h0f19, .ref h10, .ref h11, .ref h12, .ref h13, .int h0f24, .int h0f25, .ref h14, .ref h15, .ref h16, .ref h17, .int h0f30, .int h0f31, .ref h18, .ref h19, .ref h20, .ref h21]), (h1, aJ (k 1) 9 (fiP (y4.toInt + 1)))] _ := hT
        obtain ⟨v8, e_v8⟩ : ∃ x : Int32, x = y4 + Int32.ofInt 1 := ⟨_, rfl⟩
        have f_v8 := e_v8.symm
        have e_v8 : v8.toInt = y4.toInt + 1 := ai_add e_v8 rfl (show (Int32.ofInt 1).toInt = 1 from (by decide +kernel)) (by omega)
        refine lv_iinc (v := v8) (lv' := [(2, .int v8), (0, .ref h0), (1, .ref h1)]) hx hb dX11_first_21 hl (k := 2) rfl f_v8 (by decide) rfl (fun ls hl => ?_)
        refine lv_goto (tgt := 7) hx hb dX11_first_24 (by decide) ?_
        have hT := hT.wk (q := 1) (P' := aJ (k 1) 9 (fiP (v8.toInt))) rfl (cv_fi_fi (by omega))
        have hT : TP D A [(h0, ob 8 [.int h0f0, .int h0f1, .int h0f2, .int h0f3, .int h0f4, .int h0f5, .ref h2, .ref h3, .int h0f8, .int h0f9, .ref h4, .ref h1, .ref h5, .ref h6, .ref h7, .ref h8, .ref h9, .int h0f17, .int h0f18, .int h0f19, .ref h10, .ref h11, .ref h12, .ref h13, .int h0f24, .int h0f25, .ref h14, .ref h15, .ref h16, .ref h17, .int h0f30, .int h0f31, .ref h18, .ref h19, .ref h20, .ref h21]), (h1, aJ (k 1) 9 (fiP (v8.toInt)))] _ := hT
        exact ih7_5 v8 _ _ _ (by omega)  (by omega) hT hS (lv_sub hl [1, 2, 0] rfl)
  exact lp7_5 ((h0f0.toInt + (-1) * (0 : Int32).toInt + 1).toNat + 1) (0) _ _ _ (by have := li_0; omega)  (Nat.lt_succ_self _) hT hS (lv_sub hl [1, 2, 0] rfl)
abbrev Rm_cX11_lists_fbb0a : Room := { frames := 0, cells := 0, slots := 0, locals := 0 }
abbrev B_cX11_lists_fbb0a (D : va_G) (k : Nat → ClassId) (h0 h1 h10 h11 h12 h13 h2 h3 h4 h5 h6 h7 h8 h9 h14 h15 h16 h17 h18 h19 h20 h21 : Nat) (x2 : Int32) (x3 : Int32) (h0f0 : Int32) (h0f1 : Int32) (h0f2 : Int32) (h0f3 : Int32) (h0f4 : Int32) (h0f5 : Int32) (h0f8 : Int32) (h0f9 : Int32) (h0f17 : Int32) (h0f18 : Int32) (h0f19 : Int32) (h0f24 : Int32) (h0f25 : Int32) (h0f30 : Int32) (h0f31 : Int32) (A : Nat → Prop) (H : Heap) : Prop := ∃ o0 : Int32, (1 ≤ o0.toInt ∧ o0.toInt ≤ 1) ∧ TP D A [(h0, ob 8 [.int h0f0, .int h0f1, .int h0f2, .int h0f3, .int h0f4, .int h0f5, .ref h2, .ref h3, .int h0f8, .int h0f9, .ref h4, .ref h1, .ref h5, .ref h6, .ref h7, .ref h8, .ref h9, .int h0f17, .int h0f18, .int h0f19, .ref h10, .ref h11, .ref h12, .ref h13, .int o0, .int h0f25, .ref h14, .ref h15, .ref h16, .ref h17, .int h0f30, .int h0f31, .ref h18, .ref h19, .ref h20, .ref h21]), (h1, aJ (k 1) 9 (idP )), (h10, aJ (k 1) 900 (l1P )), (h11, aI (k 0) 100 anI), (h12, aI (k 0) 100 anI), (h13, aI (k 0) 100 anI)] H
set_option maxHeartbeats 4000000 in
set_option maxRecDepth 100000 in
theorem cX11_lists_fbb0a (l : Launch) (D : va_G) (k : Nat → ClassId) (sz : Nat) (h0 h1 h10 h11 h12 h13 h2 h3 h4 h5 h6 h7 h8 h9 h14 h15 h16 h17 h18 h19 h20 h21 : Nat) (x2 : Int32) (x3 : Int32) (h0f0 : Int32) (h0f1 : Int32) (h0f2 : Int32) (h0f3 : Int32) (h0f4 : Int32) (h0f5 : Int32) (h0f8 : Int32) (h0f9 : Int32) (h0f17 : Int32) (h0f18 : Int32) (h0f19 : Int32) (h0f24 : Int32) (h0f25 : Int32) (h0f30 : Int32) (h0f31 : Int32) (b_x2 : (-3) ≤ x2.toInt ∧ x2.toInt ≤ (-3)) (b_x3 : (-3) ≤ x3.toInt ∧ x3.toInt ≤ (-3)) (b_h0f0 : 1 ≤ h0f0.toInt ∧ h0f0.toInt ≤ 3) (b_h0f1 : 0 ≤ h0f1.toInt ∧ h0f1.toInt ≤ 4) (b_h0f3 : 0 ≤ h0f3.toInt ∧ h0f3.toInt ≤ 3) (b_h0f4 : 0 ≤ h0f4.toInt ∧ h0f4.toInt ≤ 4) (b_h0f8 : 0 ≤ h0f8.toInt ∧ h0f8.toInt ≤ 1) (b_h0f9 : 0 ≤ h0f9.toInt ∧ h0f9.toInt ≤ 0) (b_h0f17 : 0 ≤ h0f17.toInt ∧ h0f17.toInt ≤ 120) (b_h0f18 : 0 ≤ h0f18.toInt ∧ h0f18.toInt ≤ 120) (b_h0f19 : 0 ≤ h0f19.toInt ∧ h0f19.toInt ≤ 4) (b_h0f24 : 0 ≤ h0f24.toInt ∧ h0f24.toInt ≤ 0) (b_h0f25 : 0 ≤ h0f25.toInt ∧ h0f25.toInt ≤ 1) (b_h0f30 : 0 ≤ h0f30.toInt ∧ h0f30.toInt ≤ 60) (b_h0f31 : 0 ≤ h0f31.toInt ∧ h0f31.toInt ≤ 1) (i_0 : h0f8.toInt ≤ h0f3.toInt) (i_1 : h0f9.toInt ≤ h0f24.toInt) : Met l yX11_lists (Cond.code yX11_lists cX11_lists 5 none :: uw) Rm_cX11_lists_fbb0a (pT D k sz [.ref h0, .ref h1, .int x2, .int x3] [(h0, ob 8 [.int h0f0, .int h0f1, .int h0f2, .int h0f3, .int h0f4, .int h0f5, .ref h2, .ref h3, .int h0f8, .int h0f9, .ref h4, .ref h1, .ref h5, .ref h6, .ref h7, .ref h8, .ref h9, .int h0f17, .int h0f18, .int h0f19, .ref h10, .ref h11, .ref h12, .ref h13, .int h0f24, .int h0f25, .ref h14, .ref h15, .ref h16, .ref h17, .int h0f30, .int h0f31, .ref h18, .ref h19, .ref h20, .ref h21]), (h1, aJ (k 1) 9 (idP )), (h10, aJ (k 1) 900 (l0P )), (h11, aI (k 0) 100 anI), (h12, aI (k 0) 100 anI), (h13, aI (k 0) 100 anI)]) (qV (B_cX11_lists_fbb0a D k h0 h1 h10 h11 h12 h13 h2 h3 h4 h5 h6 h7 h8 h9 h14 h15 h16 h17 h18 h19 h20 h21 x2 x3 h0f0 h0f1 h0f2 h0f3 h0f4 h0f5 h0f8 h0f9 h0f17 h0f18 h0f19 h0f24 h0f25 h0f30 h0f31 (zA [h0, h1, h10, h11, h12, h13] sz)) (zA [h0, h1, h10, h11, h12, h13] sz)) 0 0 (zA [h0, h1, h10, h11, h12, h13] sz) := by
  refine tz_begin (as := [h0, h1, h10, h11, h12, h13]) (Qc := fun A => qV (B_cX11_lists_fbb0a D k h0 h1 h10 h11 h12 h13 h2 h3 h4 h5 h6 h7 h8 h9 h14 h15 h16 h17 h18 h19 h20 h21 x2 x3 h0f0 h0f1 h0f2 h0f3 h0f4 h0f5 h0f8 h0f9 h0f17 h0f18 h0f19 h0f24 h0f25 h0f30 h0f31 A) A) (by decide +kernel) rfl (Nat.le_of_ble_eq_true rfl) ?_
  intro p e s m args below meth c ls A Q hx hb hr hml hown hlocks hin hU hK hT hS hA hl hQ
  have hl : lv_has ls 5 [(0, .ref h0), (1, .ref h1), (2, .int x2), (3, .int x3)] := hl
  have hT : TP D A [(h0, ob 8 [.int h0f0, .int h0f1, .int h0f2, .int h0f3, .int h0f4, .int h0f5, .ref h2, .ref h3, .int h0f8, .int h0f9, .ref h4, .ref h1, .ref h5, .ref h6, .ref h7, .ref h8, .ref h9, .int h0f17, .int h0f18, .int h0f19, .ref h10, .ref h11, .ref h12, .ref h13, .int h0f24, .int h0f25, .ref h14, .ref h15, .ref h16, .ref h17, .int h0f30, .int h0f31, .ref h18, .ref h19, .ref h20, .ref h21]), (h1, aJ (k 1) 9 (idP )), (h10, aJ (k 1) 900 (l0P )), (h11, aI (k 0) 100 anI), (h12, aI (k 0) 100 anI), (h13, aI (k 0) 100 anI)] s.heap := hT
  refine lv_iconst (v := 0) hx hb dX11_lists_0 (by decide) ?_
  refine lv_istore (lv' := [(4, .int 0), (0, .ref h0), (1, .ref h1), (2, .int x2), (3, .int x3)]) hx hb dX11_lists_1 hl (by decide) rfl (fun ls hl => ?_)
  have hT := hT.wk (q := 2) (P' := aJ (k 1) 900 (lkP ((0 : Int32).toInt))) rfl (cv_l0_lk (by have := li_0; omega))
  have hT : TP D A [(h0, ob 8 [.int h0f0, .int h0f1, .int h0f2, .int h0f3, .int h0f4, .int h0f5, .ref h2, .ref h3, .int h0f8, .int h0f9, .ref h4, .ref h1, .ref h5, .ref h6, .ref h7, .ref h8, .ref h9, .int h0f17, .int h0f18, .int h0f19, .ref h10, .ref h11, .ref h12, .ref h13, .int h0f24, .int h0f25, .ref h14, .ref h15, .ref h16, .ref h17, .int h0f30, .int h0f31, .ref h18, .ref h19, .ref h20, .ref h21]), (h1, aJ (k 1) 9 (idP )), (h10, aJ (k 1) 900 (lkP ((0 : Int32).toInt))), (h11, aI (k 0) 100 anI), (h12, aI (k 0) 100 anI), (h13, aI (k 0) 100 anI)] _ := hT
  have lp3_8 : ∀ (n : Nat) (y7 : Int32) (H : Heap) (locs : List Loc) (ls : Array Slot), (0 ≤ y7.toInt ∧ y7.toInt ≤ 9) → ((-1) * y7.toInt + 9 + 1).toNat < n → TP D A [(h0, ob 8 [.int h0f0, .int h0f1, .int h0f2, .int h0f3, .int h0f4, .int h0f5, .ref h2, .ref h3, .int h0f8, .int h0f9, .ref h4, .ref h1, .ref h5, .ref h6, .ref h7, .ref h8, .ref h9, .int h0f17, .int h0f18, .int h0f19, .ref h10, .ref h11, .ref h12, .ref h13, .int h0f24, .int h0f25, .ref h14, .ref h15, .ref h16, .ref h17, .int h0f30, .int h0f31, .ref h18, .ref h19, .ref h20, .ref h21]), (h1, aJ (k 1) 9 (idP )), (h10, aJ (k 1) 900 (lkP (y7.toInt))), (h11, aI (k 0) 100 anI), (h12, aI (k 0) 100 anI), (h13, aI (k 0) 100 anI)] H → va_S A s.heap H locs → lv_has ls 5 [(0, .ref h0), (1, .ref h1), (2, .int x2), (3, .int x3), (4, .int y7)] → W p l e Rm_cX11_lists_fbb0a s m args below meth c H locs 0 0 Q (F0 m 3 ls []) := by
    intro n
    induction n with
    | zero => intro y7 H locs ls b_y7 hm hT hS hl; exact absurd hm (Nat.not_lt_zero _)
    | succ n ih =>
      intro y7 H locs ls b_y7 hm hT hS hl
      have ih3_8 := ih
      clear ih
      refine lv_iload hx hb dX11_lists_3 (lv_at hl 4 rfl) ?_
      refine lv_bipush (v := 9) hx hb dX11_lists_5 (by decide) ?_
      refine lv_icmp_ge (tgt := 35) hx hb dX11_lists_7 (by decide) (fun c_9 => ?_) (fun c_9 => ?_)
      · skip
        have c_9 := ni_le c_9 li_9 rfl
        refine lv_aload_n hx hb dX11_lists_35 rfl (lv_at hl 0 rfl) ?_
        refine tz_get (ci := 8) (v := .ref h11) (C := RX11) (F := TX11) (N := 36) hx hb hU iX11 hown hK hT 0 rfl rfl 21 (by decide) w806 (fun _ h9 => h9) rfl dX11_lists_36 ?_
        refine lv_aload_n hx hb dX11_lists_39 rfl (lv_at hl 0 rfl) ?_
        refine tz_get (ci := 8) (v := .int h0f24) (C := RX11) (F := TX11) (N := 36) hx hb hU iX11 hown hK hT 0 rfl rfl 24 (by decide) w809 (fun _ h9 => h9) rfl dX11_lists_40 ?_
        refine lv_iload_n hx hb dX11_lists_43 rfl (lv_at hl 2 rfl) ?_
        refine tz_iast hx hb hK hT hS 3 rfl (by omega) (fun _ _ => trivial) dX11_lists_44 (fun H locs hT hS => ?_)
        refine lv_aload_n hx hb dX11_lists_45 rfl (lv_at hl 0 rfl) ?_
        refine tz_get (ci := 8) (v := .ref h12) (C := RX11) (F := TX11) (N := 36) hx hb hU iX11 hown hK hT 0 rfl rfl 22 (by decide) w807 (fun _ h9 => h9) rfl dX11_lists_46 ?_
        refine lv_aload_n hx hb dX11_lists_49 rfl (lv_at hl 0 rfl) ?_
        refine tz_get (ci := 8) (v := .int h0f24) (C := RX11) (F := TX11) (N := 36) hx hb hU iX11 hown hK hT 0 rfl rfl 24 (by decide) w809 (fun _ h9 => h9) rfl dX11_lists_50 ?_
        refine lv_iload_n hx hb dX11_lists_53 rfl (lv_at hl 3 rfl) ?_
        refine tz_iast hx hb hK hT hS 4 rfl (by omega) (fun _ _ => trivial) dX11_lists_54 (fun H locs hT hS => ?_)
        refine lv_aload_n hx hb dX11_lists_55 rfl (lv_at hl 0 rfl) ?_
        refine tz_get (ci := 8) (v := .ref h13) (C := RX11) (F := TX11) (N := 36) hx hb hU iX11 hown hK hT 0 rfl rfl 23 (by decide) w808 (fun _ h9 => h9) rfl dX11_lists_56 ?_
        refine lv_aload_n hx hb dX11_lists_59 rfl (lv_at hl 0 rfl) ?_
        refine tz_get (ci := 8) (v := .int h0f24) (C := RX11) (F := TX11) (N := 36) hx hb hU iX11 hown hK hT 0 rfl rfl 24 (by decide) w809 (fun _ h9 => h9) rfl dX11_lists_60 ?_
        refine lv_iload_n hx hb dX11_lists_63 rfl (lv_at hl 2 rfl) ?_
        refine lv_if_ge (tgt := 71) hx hb dX11_lists_64 (by decide) (fun c_10 => ?_) (fun c_10 => ?_)
        · skip
          have c_10 := ni_le c_10 li_0 rfl
          exfalso; omega
        · skip
          have c_10 := ni_nle c_10 li_0 rfl
          refine lv_iconst (v := 0) hx hb dX11_lists_67 (by decide) ?_
          refine lv_goto (tgt := 79) hx hb dX11_lists_68 (by decide) ?_
          refine tz_iast hx hb hK hT hS 5 rfl (by omega) (fun _ _ => trivial) dX11_lists_79 (fun H locs hT hS => ?_)
          refine lv_aload_n hx hb dX11_lists_80 rfl (lv_at hl 0 rfl) ?_
          refine lv_dup hx hb dX11_lists_81 rfl ?_
          refine tz_get (ci := 8) (v := .int h0f24) (C := RX11) (F := TX11) (N := 36) hx hb hU iX11 hown hK hT 0 rfl rfl 24 (by decide) w809 (fun _ h9 => h9) rfl dX11_lists_82 ?_
          refine lv_iconst (v := 1) hx hb dX11_lists_85 (by decide) ?_
          have hq11 : h0f24.toInt = 0 := by omega
          refine lv_iadd hx hb dX11_lists_86 (lv_topi (fun v12 e_v12 => ?_))
          have e_v12 := ai_add e_v12 hq11 li_1 (by omega)
          refine tz_put (ci := 8) (v := .int v12) (ty := .int) (C := RX11) (F := TX11) (N := 36) hx hb hU iX11 tyX11 tyX11_ok nmX11 hown hK hT hS 0 rfl rfl 24 (by decide) w809 (fun _ h9 => h9) rfl (by decide +kernel) rfl rfl (Nat.le_of_ble_eq_true rfl) dX11_lists_87 (fun H locs hT hS => ?_)
          have hT : TP D A [(h0, ob 8 [.int h0f0, .int h0f1, .int h0f2, .int h0f3, .int h0f4, .int h0f5, .ref h2, .ref h3, .int h0f8, .int h0f9, .ref h4, .ref h1, .ref h5, .ref h6, .ref h7, .ref h8, .ref h9, .int h0f17, .int h0f18, .int h0f19, .ref h10, .ref h11, .ref h12, .ref h13, .int v12, .int h0f25, .ref h14, .ref h15, .ref h16, .ref h17, .int h0f30, .int h0f31, .ref h18, .ref h19, .ref h20, .ref h21]), (h1, aJ (k 1) 9 (idP )), (h10, aJ (k 1) 900 (lkP (y7.toInt))), (h11, aI (k 0) 100 anI), (h12, aI (k 0) 100 anI), (h13, aI (k 0) 100 anI)] _ := hT
          have hT := hT.wk (q := 2) (P' := aJ (k 1) 900 (l1P )) rfl (cv_lk_l1 (by omega))
          have hT : TP D A [(h0, ob 8 [.int h0f0, .int h0f1, .int h0f2, .int h0f3, .int h0f4, .int h0f5, .ref h2, .ref h3, .int h0f8, .int h0f9, .ref h4, .ref h1, .ref h5, .ref h6, .ref h7, .ref h8, .ref h9, .int h0f17, .int h0f18, .int h0f19, .ref h10, .ref h11, .ref h12, .ref h13, .int v12, .int h0f25, .ref h14, .ref h15, .ref h16, .ref h17, .int h0f30, .int h0f31, .ref h18, .ref h19, .ref h20, .ref h21]), (h1, aJ (k 1) 9 (idP )), (h10, aJ (k 1) 900 (l1P )), (h11, aI (k 0) 100 anI), (h12, aI (k 0) 100 anI), (h13, aI (k 0) 100 anI)] _ := hT
          exact tz_retV (B := B_cX11_lists_fbb0a D k h0 h1 h10 h11 h12 h13 h2 h3 h4 h5 h6 h7 h8 h9 h14 h15 h16 h17 h18 h19 h20 h21 x2 x3 h0f0 h0f1 h0f2 h0f3 h0f4 h0f5 h0f8 h0f9 h0f17 h0f18 h0f19 h0f24 h0f25 h0f30 h0f31) hQ hx hb hr hlocks hS (Nat.le_of_ble_eq_true rfl) (Nat.le_of_ble_eq_true rfl) dX11_lists_90 (⟨v12, (by omega), hT⟩)
      · skip
        have c_9 := ni_nle c_9 li_9 rfl
        refine lv_aload_n hx hb dX11_lists_10 rfl (lv_at hl 0 rfl) ?_
        refine tz_get (ci := 8) (v := .ref h10) (C := RX11) (F := TX11) (N := 36) hx hb hU iX11 hown hK hT 0 rfl rfl 20 (by decide) w805 (fun _ h9 => h9) rfl dX11_lists_11 ?_
        refine lv_bipush (v := 9) hx hb dX11_lists_14 (by decide) ?_
        refine lv_aload_n hx hb dX11_lists_16 rfl (lv_at hl 0 rfl) ?_
        refine tz_get (ci := 8) (v := .int h0f24) (C := RX11) (F := TX11) (N := 36) hx hb hU iX11 hown hK hT 0 rfl rfl 24 (by decide) w809 (fun _ h9 => h9) rfl dX11_lists_17 ?_
        have hq13 : h0f24.toInt = 0 := by omega
        refine lv_imul hx hb dX11_lists_20 (lv_topi (fun v14 e_v14 => ?_))
        have e_v14 := ai_mul e_v14 li_9 hq13 (by omega)
        refine lv_iload hx hb dX11_lists_21 (lv_at hl 4 rfl) ?_
        have hq15 : v14.toInt = 0 := by omega
        refine lv_iadd hx hb dX11_lists_23 (lv_topi (fun v16 e_v16 => ?_))
        have e_v16 := ai_add e_v16 hq15 rfl (by omega)
        refine lv_aload_n hx hb dX11_lists_24 rfl (lv_at hl 1 rfl) ?_
        refine lv_iload hx hb dX11_lists_25 (lv_at hl 4 rfl) ?_
        refine tz_lald hx hb hK hT 1 rfl (by omega) dX11_lists_27 (fun v17 e_v17 => ?_)
        have e_v17 := id_get e_v17 (by omega)
        refine tz_lastP hx hb hK hT hS 2 (lkP (y7.toInt + 1)) rfl (by omega) (lk_put (by omega)) dX11_lists_28 (fun H locs hT hS => ?_)
        have hT : TP D A [(h0, ob 8 [.int h0f0, .int h0f1, .int h0f2, .int h0f3, .int h0f4, .int h0f5, .ref h2, .ref h3, .int h0f8, .int h0f9, .ref h4, .ref h1, .ref h5, .ref h6, .ref h7, .ref h8, .ref h9, .int h0f17, .int h0f18, .int h0f19, .ref h10, .ref h11, .ref h12, .ref h13, .int h0f24, .int h0f25, .ref h14, .ref h15, .ref h16, .ref h17, .int h0f30, .int h0f31, .ref h18, .ref h19, .ref h20, .ref h21]), (h1, aJ (k 1) 9 (idP )), (h10, aJ (k 1) 900 (lkP (y7.toInt + 1))), (h11, aI (k 0) 100 anI), (h12, aI (k 0) 100 anI), (h13, aI (k 0) 100 anI)] _ := hT
        obtain ⟨v18, e_v18⟩ : ∃ x : Int32, x = y7 + Int32.ofInt 1 := ⟨_, rfl⟩
        have f_v18 := e_v18.symm
        have e_v18 : v18.toInt = y7.toInt + 1 := ai_add e_v18 rfl (show (Int32.ofInt 1).toInt = 1 from (by decide +kernel)) (by omega)
        refine lv_iinc (v := v18) (lv' := [(4, .int v18), (0, .ref h0), (1, .ref h1), (2, .int x2), (3, .int x3)]) hx hb dX11_lists_29 hl (k := 4) rfl f_v18 (by decide) rfl (fun ls hl => ?_)
        refine lv_goto (tgt := 3) hx hb dX11_lists_32 (by decide) ?_
        have hT := hT.wk (q := 2) (P' := aJ (k 1) 900 (lkP (v18.toInt))) rfl (cv_lk_lk (by omega))
        have hT : TP D A [(h0, ob 8 [.int h0f0, .int h0f1, .int h0f2, .int h0f3, .int h0f4, .int h0f5, .ref h2, .ref h3, .int h0f8, .int h0f9, .ref h4, .ref h1, .ref h5, .ref h6, .ref h7, .ref h8, .ref h9, .int h0f17, .int h0f18, .int h0f19, .ref h10, .ref h11, .ref h12, .ref h13, .int h0f24, .int h0f25, .ref h14, .ref h15, .ref h16, .ref h17, .int h0f30, .int h0f31, .ref h18, .ref h19, .ref h20, .ref h21]), (h1, aJ (k 1) 9 (idP )), (h10, aJ (k 1) 900 (lkP (v18.toInt))), (h11, aI (k 0) 100 anI), (h12, aI (k 0) 100 anI), (h13, aI (k 0) 100 anI)] _ := hT
        exact ih3_8 v18 _ _ _ (by omega)  (by omega) hT hS (lv_sub hl [1, 2, 3, 4, 0] rfl)
  exact lp3_8 (((-1) * (0 : Int32).toInt + 9 + 1).toNat + 1) (0) _ _ _ (by have := li_0; omega)  (Nat.lt_succ_self _) hT hS (lv_sub hl [1, 2, 3, 4, 0] rfl)
abbrev Rm_cX11_takesElement_cde2b : Room := { frames := 0, cells := 0, slots := 0, locals := 0 }
abbrev B_cX11_takesElement_cde2b (D : va_G) (k : Nat → ClassId) (h0 h1 h10 h2 h3 h4 h5 h6 h7 h8 h9 h11 h12 h13 h14 h15 h16 h17 h18 h19 h20 h21 : Nat) (x1 : Int32) (h0f0 : Int32) (h0f1 : Int32) (h0f2 : Int32) (h0f3 : Int32) (h0f4 : Int32) (h0f5 : Int32) (h0f8 : Int32) (h0f9 : Int32) (h0f17 : Int32) (h0f18 : Int32) (h0f19 : Int32) (h0f24 : Int32) (h0f25 : Int32) (h0f30 : Int32) (h0f31 : Int32) (A : Nat → Prop) (H : Heap) : Prop := TP D A [(h0, ob 8 [.int h0f0, .int h0f1, .int h0f2, .int h0f3, .int h0f4, .int h0f5, .ref h2, .ref h3, .int h0f8, .int h0f9, .ref h4, .ref h1, .ref h5, .ref h6, .ref h7, .ref h8, .ref h9, .int h0f17, .int h0f18, .int h0f19, .ref h10, .ref h11, .ref h12, .ref h13, .int h0f24, .int h0f25, .ref h14, .ref h15, .ref h16, .ref h17, .int h0f30, .int h0f31, .ref h18, .ref h19, .ref h20, .ref h21]), (h1, aJ (k 1) 9 anJ), (h10, aJ (k 1) 900 (l1P ))] H
set_option maxHeartbeats 4000000 in
set_option maxRecDepth 100000 in
theorem cX11_takesElement_cde2b (l : Launch) (D : va_G) (k : Nat → ClassId) (sz : Nat) (h0 h1 h10 h2 h3 h4 h5 h6 h7 h8 h9 h11 h12 h13 h14 h15 h16 h17 h18 h19 h20 h21 : Nat) (x1 : Int32) (h0f0 : Int32) (h0f1 : Int32) (h0f2 : Int32) (h0f3 : Int32) (h0f4 : Int32) (h0f5 : Int32) (h0f8 : Int32) (h0f9 : Int32) (h0f17 : Int32) (h0f18 : Int32) (h0f19 : Int32) (h0f24 : Int32) (h0f25 : Int32) (h0f30 : Int32) (h0f31 : Int32) (b_x1 : 0 ≤ x1.toInt ∧ x1.toInt ≤ 99) (b_h0f0 : 1 ≤ h0f0.toInt ∧ h0f0.toInt ≤ 3) (b_h0f1 : 1 ≤ h0f1.toInt ∧ h0f1.toInt ≤ 4) (b_h0f3 : 0 ≤ h0f3.toInt ∧ h0f3.toInt ≤ 3) (b_h0f4 : 0 ≤ h0f4.toInt ∧ h0f4.toInt ≤ 4) (b_h0f8 : 0 ≤ h0f8.toInt ∧ h0f8.toInt ≤ 1) (b_h0f9 : 0 ≤ h0f9.toInt ∧ h0f9.toInt ≤ 0) (b_h0f17 : 0 ≤ h0f17.toInt ∧ h0f17.toInt ≤ 120) (b_h0f18 : 0 ≤ h0f18.toInt ∧ h0f18.toInt ≤ 120) (b_h0f19 : 0 ≤ h0f19.toInt ∧ h0f19.toInt ≤ 4) (b_h0f24 : 1 ≤ h0f24.toInt ∧ h0f24.toInt ≤ 100) (b_h0f25 : 0 ≤ h0f25.toInt ∧ h0f25.toInt ≤ 1) (b_h0f30 : 0 ≤ h0f30.toInt ∧ h0f30.toInt ≤ 60) (b_h0f31 : 0 ≤ h0f31.toInt ∧ h0f31.toInt ≤ 1) (i_0 : h0f8.toInt ≤ h0f3.toInt) (i_1 : h0f9.toInt ≤ h0f24.toInt) : Met l yX11_takesElement (Cond.code yX11_takesElement cX11_takesElement 4 none :: uw) Rm_cX11_takesElement_cde2b (pT D k sz [.ref h0, .int x1, .ref h1] [(h0, ob 8 [.int h0f0, .int h0f1, .int h0f2, .int h0f3, .int h0f4, .int h0f5, .ref h2, .ref h3, .int h0f8, .int h0f9, .ref h4, .ref h1, .ref h5, .ref h6, .ref h7, .ref h8, .ref h9, .int h0f17, .int h0f18, .int h0f19, .ref h10, .ref h11, .ref h12, .ref h13, .int h0f24, .int h0f25, .ref h14, .ref h15, .ref h16, .ref h17, .int h0f30, .int h0f31, .ref h18, .ref h19, .ref h20, .ref h21]), (h1, aJ (k 1) 9 anJ), (h10, aJ (k 1) 900 (l1P ))]) (qV (B_cX11_takesElement_cde2b D k h0 h1 h10 h2 h3 h4 h5 h6 h7 h8 h9 h11 h12 h13 h14 h15 h16 h17 h18 h19 h20 h21 x1 h0f0 h0f1 h0f2 h0f3 h0f4 h0f5 h0f8 h0f9 h0f17 h0f18 h0f19 h0f24 h0f25 h0f30 h0f31 (zA [h0, h1, h10] sz)) (zA [h0, h1, h10] sz)) 0 0 (zA [h0, h1, h10] sz) := by
  refine tz_begin (as := [h0, h1, h10]) (Qc := fun A => qV (B_cX11_takesElement_cde2b D k h0 h1 h10 h2 h3 h4 h5 h6 h7 h8 h9 h11 h12 h13 h14 h15 h16 h17 h18 h19 h20 h21 x1 h0f0 h0f1 h0f2 h0f3 h0f4 h0f5 h0f8 h0f9 h0f17 h0f18 h0f19 h0f24 h0f25 h0f30 h0f31 A) A) (by decide +kernel) rfl (Nat.le_of_ble_eq_true rfl) ?_
  intro p e s m args below meth c ls A Q hx hb hr hml hown hlocks hin hU hK hT hS hA hl hQ
  have hl : lv_has ls 4 [(0, .ref h0), (1, .int x1), (2, .ref h1)] := hl
  have hT : TP D A [(h0, ob 8 [.int h0f0, .int h0f1, .int h0f2, .int h0f3, .int h0f4, .int h0f5, .ref h2, .ref h3, .int h0f8, .int h0f9, .ref h4, .ref h1, .ref h5, .ref h6, .ref h7, .ref h8, .ref h9, .int h0f17, .int h0f18, .int h0f19, .ref h10, .ref h11, .ref h12, .ref h13, .int h0f24, .int h0f25, .ref h14, .ref h15, .ref h16, .ref h17, .int h0f30, .int h0f31, .ref h18, .ref h19, .ref h20, .ref h21]), (h1, aJ (k 1) 9 anJ), (h10, aJ (k 1) 900 (l1P ))] s.heap := hT
  refine lv_iconst (v := 0) hx hb dX11_takesElement_0 (by decide) ?_
  refine lv_istore_n (lv' := [(3, .int 0), (0, .ref h0), (1, .int x1), (2, .ref h1)]) hx hb dX11_takesElement_1 rfl hl (by decide) rfl (fun ls hl => ?_)
  have lp2_8 : ∀ (n : Nat) (y7 : Int32) (H : Heap) (locs : List Loc) (ls : Array Slot), (0 ≤ y7.toInt ∧ y7.toInt ≤ 9) → ((-1) * y7.toInt + 9 + 1).toNat < n → TP D A [(h0, ob 8 [.int h0f0, .int h0f1, .int h0f2, .int h0f3, .int h0f4, .int h0f5, .ref h2, .ref h3, .int h0f8, .int h0f9, .ref h4, .ref h1, .ref h5, .ref h6, .ref h7, .ref h8, .ref h9, .int h0f17, .int h0f18, .int h0f19, .ref h10, .ref h11, .ref h12, .ref h13, .int h0f24, .int h0f25, .ref h14, .ref h15, .ref h16, .ref h17, .int h0f30, .int h0f31, .ref h18, .ref h19, .ref h20, .ref h21]), (h1, aJ (k 1) 9 anJ), (h10, aJ (k 1) 900 (l1P ))] H → va_S A s.heap H locs → lv_has ls 4 [(0, .ref h0), (1, .int x1), (2, .ref h1), (3, .int y7)] → W p l e Rm_cX11_takesElement_cde2b s m args below meth c H locs 0 0 Q (F0 m 2 ls []) := by
    intro n
    induction n with
    | zero => intro y7 H locs ls b_y7 hm hT hS hl; exact absurd hm (Nat.not_lt_zero _)
    | succ n ih =>
      intro y7 H locs ls b_y7 hm hT hS hl
      have ih2_8 := ih
      clear ih
      refine lv_iload_n hx hb dX11_takesElement_2 rfl (lv_at hl 3 rfl) ?_
      refine lv_bipush (v := 9) hx hb dX11_takesElement_3 (by decide) ?_
      refine lv_icmp_ge (tgt := 28) hx hb dX11_takesElement_5 (by decide) (fun c_9 => ?_) (fun c_9 => ?_)
      · skip
        have c_9 := ni_le c_9 li_9 rfl
        exact tz_retV (B := B_cX11_takesElement_cde2b D k h0 h1 h10 h2 h3 h4 h5 h6 h7 h8 h9 h11 h12 h13 h14 h15 h16 h17 h18 h19 h20 h21 x1 h0f0 h0f1 h0f2 h0f3 h0f4 h0f5 h0f8 h0f9 h0f17 h0f18 h0f19 h0f24 h0f25 h0f30 h0f31) hQ hx hb hr hlocks hS (Nat.le_of_ble_eq_true rfl) (Nat.le_of_ble_eq_true rfl) dX11_takesElement_28 (hT)
      · skip
        have c_9 := ni_nle c_9 li_9 rfl
        refine lv_aload_n hx hb dX11_takesElement_8 rfl (lv_at hl 2 rfl) ?_
        refine lv_iload_n hx hb dX11_takesElement_9 rfl (lv_at hl 3 rfl) ?_
        refine lv_aload_n hx hb dX11_takesElement_10 rfl (lv_at hl 0 rfl) ?_
        refine tz_get (ci := 8) (v := .ref h10) (C := RX11) (F := TX11) (N := 36) hx hb hU iX11 hown hK hT 0 rfl rfl 20 (by decide) w805 (fun _ h9 => h9) rfl dX11_takesElement_11 ?_
        refine lv_bipush (v := 9) hx hb dX11_takesElement_14 (by decide) ?_
        refine lv_iload_n hx hb dX11_takesElement_16 rfl (lv_at hl 1 rfl) ?_
        refine lv_imul hx hb dX11_takesElement_17 (lv_topi (fun v10 e_v10 => ?_))
        have e_v10 := ai_mul e_v10 li_9 rfl (by omega)
        refine lv_iload_n hx hb dX11_takesElement_18 rfl (lv_at hl 3 rfl) ?_
        refine lv_iadd hx hb dX11_takesElement_19 (lv_topi (fun v11 e_v11 => ?_))
        have e_v11 := ai_add e_v11 rfl rfl (by omega)
        refine tz_lald hx hb hK hT 2 rfl (by omega) dX11_takesElement_20 (fun v12 e_v12 => ?_)
        clear e_v12
        refine tz_last hx hb hK hT hS 1 rfl (by omega) (fun _ _ => trivial) dX11_takesElement_21 (fun H locs hT hS => ?_)
        obtain ⟨v13, e_v13⟩ : ∃ x : Int32, x = y7 + Int32.ofInt 1 := ⟨_, rfl⟩
        have f_v13 := e_v13.symm
        have e_v13 : v13.toInt = y7.toInt + 1 := ai_add e_v13 rfl (show (Int32.ofInt 1).toInt = 1 from (by decide +kernel)) (by omega)
        refine lv_iinc (v := v13) (lv' := [(3, .int v13), (0, .ref h0), (1, .int x1), (2, .ref h1)]) hx hb dX11_takesElement_22 hl (k := 3) rfl f_v13 (by decide) rfl (fun ls hl => ?_)
        refine lv_goto (tgt := 2) hx hb dX11_takesElement_25 (by decide) ?_
        exact ih2_8 v13 _ _ _ (by omega)  (by omega) hT hS (lv_sub hl [1, 2, 3, 0] rfl)
  exact lp2_8 (((-1) * (0 : Int32).toInt + 9 + 1).toNat + 1) (0) _ _ _ (by have := li_0; omega)  (Nat.lt_succ_self _) hT hS (lv_sub hl [1, 2, 3, 0] rfl)
abbrev Rm_cX11_takes_73548 : Room := { frames := 0, cells := 0, slots := 0, locals := 0 }
abbrev B_cX11_takes_73548 (D : va_G) (k : Nat → ClassId) (h0 h1 h2 h3 h4 h5 h6 h7 h8 h9 h10 h11 h12 h13 h14 h15 h16 h17 h18 h19 h20 h21 : Nat) (x1 : Int32) (h0f0 : Int32) (h0f1 : Int32) (h0f2 : Int32) (h0f3 : Int32) (h0f4 : Int32) (h0f5 : Int32) (h0f8 : Int32) (h0f9 : Int32) (h0f17 : Int32) (h0f18 : Int32) (h0f19 : Int32) (h0f24 : Int32) (h0f25 : Int32) (h0f30 : Int32) (h0f31 : Int32) (A : Nat → Prop) (H : Heap) : Prop := TP D A [(h0, ob 8 [.int h0f0, .int h0f1, .int h0f2, .int h0f3, .int h0f4, .int h0f5, .ref h2, .ref h3, .int h0f8, .int h0f9, .ref h4, .ref h5, .ref h1, .ref h6, .ref h7, .ref h8, .ref h9, .int h0f17, .int h0f18, .int h0f19, .ref h10, .ref h11, .ref h12, .ref h13, .int h0f24, .int h0f25, .ref h14, .ref h15, .ref h16, .ref h17, .int h0f30, .int h0f31, .ref h18, .ref h19, .ref h20, .ref h21]), (h1, aJ (k 1) 9 anJ), (h2, aI (k 0) 36 anI)] H
set_option maxHeartbeats 4000000 in
set_option maxRecDepth 100000 in
theorem cX11_takes_73548 (l : Launch) (D : va_G) (k : Nat → ClassId) (sz : Nat) (h0 h1 h2 h3 h4 h5 h6 h7 h8 h9 h10 h11 h12 h13 h14 h15 h16 h17 h18 h19 h20 h21 : Nat) (x1 : Int32) (h0f0 : Int32) (h0f1 : Int32) (h0f2 : Int32) (h0f3 : Int32) (h0f4 : Int32) (h0f5 : Int32) (h0f8 : Int32) (h0f9 : Int32) (h0f17 : Int32) (h0f18 : Int32) (h0f19 : Int32) (h0f24 : Int32) (h0f25 : Int32) (h0f30 : Int32) (h0f31 : Int32) (b_x1 : 0 ≤ x1.toInt ∧ x1.toInt ≤ 3) (b_h0f0 : 1 ≤ h0f0.toInt ∧ h0f0.toInt ≤ 3) (b_h0f1 : 1 ≤ h0f1.toInt ∧ h0f1.toInt ≤ 4) (b_h0f3 : 0 ≤ h0f3.toInt ∧ h0f3.toInt ≤ 3) (b_h0f4 : 0 ≤ h0f4.toInt ∧ h0f4.toInt ≤ 4) (b_h0f8 : 0 ≤ h0f8.toInt ∧ h0f8.toInt ≤ 1) (b_h0f9 : 0 ≤ h0f9.toInt ∧ h0f9.toInt ≤ 0) (b_h0f17 : 0 ≤ h0f17.toInt ∧ h0f17.toInt ≤ 120) (b_h0f18 : 0 ≤ h0f18.toInt ∧ h0f18.toInt ≤ 120) (b_h0f19 : 0 ≤ h0f19.toInt ∧ h0f19.toInt ≤ 4) (b_h0f24 : 1 ≤ h0f24.toInt ∧ h0f24.toInt ≤ 100) (b_h0f25 : 0 ≤ h0f25.toInt ∧ h0f25.toInt ≤ 1) (b_h0f30 : 0 ≤ h0f30.toInt ∧ h0f30.toInt ≤ 60) (b_h0f31 : 0 ≤ h0f31.toInt ∧ h0f31.toInt ≤ 1) (i_0 : h0f8.toInt ≤ h0f3.toInt) (i_1 : h0f9.toInt ≤ h0f24.toInt) : Met l yX11_takes (Cond.code yX11_takes cX11_takes 4 none :: uw) Rm_cX11_takes_73548 (pT D k sz [.ref h0, .int x1, .ref h1] [(h0, ob 8 [.int h0f0, .int h0f1, .int h0f2, .int h0f3, .int h0f4, .int h0f5, .ref h2, .ref h3, .int h0f8, .int h0f9, .ref h4, .ref h5, .ref h1, .ref h6, .ref h7, .ref h8, .ref h9, .int h0f17, .int h0f18, .int h0f19, .ref h10, .ref h11, .ref h12, .ref h13, .int h0f24, .int h0f25, .ref h14, .ref h15, .ref h16, .ref h17, .int h0f30, .int h0f31, .ref h18, .ref h19, .ref h20, .ref h21]), (h1, aJ (k 1) 9 anJ), (h2, aI (k 0) 36 anI)]) (qV (B_cX11_takes_73548 D k h0 h1 h2 h3 h4 h5 h6 h7 h8 h9 h10 h11 h12 h13 h14 h15 h16 h17 h18 h19 h20 h21 x1 h0f0 h0f1 h0f2 h0f3 h0f4 h0f5 h0f8 h0f9 h0f17 h0f18 h0f19 h0f24 h0f25 h0f30 h0f31 (zA [h0, h1, h2] sz)) (zA [h0, h1, h2] sz)) 0 0 (zA [h0, h1, h2] sz) := by
  refine tz_begin (as := [h0, h1, h2]) (Qc := fun A => qV (B_cX11_takes_73548 D k h0 h1 h2 h3 h4 h5 h6 h7 h8 h9 h10 h11 h12 h13 h14 h15 h16 h17 h18 h19 h20 h21 x1 h0f0 h0f1 h0f2 h0f3 h0f4 h0f5 h0f8 h0f9 h0f17 h0f18 h0f19 h0f24 h0f25 h0f30 h0f31 A) A) (by decide +kernel) rfl (Nat.le_of_ble_eq_true rfl) ?_
  intro p e s m args below meth c ls A Q hx hb hr hml hown hlocks hin hU hK hT hS hA hl hQ
  have hl : lv_has ls 4 [(0, .ref h0), (1, .int x1), (2, .ref h1)] := hl
  have hT : TP D A [(h0, ob 8 [.int h0f0, .int h0f1, .int h0f2, .int h0f3, .int h0f4, .int h0f5, .ref h2, .ref h3, .int h0f8, .int h0f9, .ref h4, .ref h5, .ref h1, .ref h6, .ref h7, .ref h8, .ref h9, .int h0f17, .int h0f18, .int h0f19, .ref h10, .ref h11, .ref h12, .ref h13, .int h0f24, .int h0f25, .ref h14, .ref h15, .ref h16, .ref h17, .int h0f30, .int h0f31, .ref h18, .ref h19, .ref h20, .ref h21]), (h1, aJ (k 1) 9 anJ), (h2, aI (k 0) 36 anI)] s.heap := hT
  refine lv_iconst (v := 0) hx hb dX11_takes_0 (by decide) ?_
  refine lv_istore_n (lv' := [(3, .int 0), (0, .ref h0), (1, .int x1), (2, .ref h1)]) hx hb dX11_takes_1 rfl hl (by decide) rfl (fun ls hl => ?_)
  have lp2_8 : ∀ (n : Nat) (y7 : Int32) (H : Heap) (locs : List Loc) (ls : Array Slot), (0 ≤ y7.toInt ∧ y7.toInt ≤ 9) → ((-1) * y7.toInt + 9 + 1).toNat < n → TP D A [(h0, ob 8 [.int h0f0, .int h0f1, .int h0f2, .int h0f3, .int h0f4, .int h0f5, .ref h2, .ref h3, .int h0f8, .int h0f9, .ref h4, .ref h5, .ref h1, .ref h6, .ref h7, .ref h8, .ref h9, .int h0f17, .int h0f18, .int h0f19, .ref h10, .ref h11, .ref h12, .ref h13, .int h0f24, .int h0f25, .ref h14, .ref h15, .ref h16, .ref h17, .int h0f30, .int h0f31, .ref h18, .ref h19, .ref h20, .ref h21]), (h1, aJ (k 1) 9 anJ), (h2, aI (k 0) 36 anI)] H → va_S A s.heap H locs → lv_has ls 4 [(0, .ref h0), (1, .int x1), (2, .ref h1), (3, .int y7)] → W p l e Rm_cX11_takes_73548 s m args below meth c H locs 0 0 Q (F0 m 2 ls []) := by
    intro n
    induction n with
    | zero => intro y7 H locs ls b_y7 hm hT hS hl; exact absurd hm (Nat.not_lt_zero _)
    | succ n ih =>
      intro y7 H locs ls b_y7 hm hT hS hl
      have ih2_8 := ih
      clear ih
      refine lv_iload_n hx hb dX11_takes_2 rfl (lv_at hl 3 rfl) ?_
      refine lv_bipush (v := 9) hx hb dX11_takes_3 (by decide) ?_
      refine lv_icmp_ge (tgt := 29) hx hb dX11_takes_5 (by decide) (fun c_9 => ?_) (fun c_9 => ?_)
      · skip
        have c_9 := ni_le c_9 li_9 rfl
        exact tz_retV (B := B_cX11_takes_73548 D k h0 h1 h2 h3 h4 h5 h6 h7 h8 h9 h10 h11 h12 h13 h14 h15 h16 h17 h18 h19 h20 h21 x1 h0f0 h0f1 h0f2 h0f3 h0f4 h0f5 h0f8 h0f9 h0f17 h0f18 h0f19 h0f24 h0f25 h0f30 h0f31) hQ hx hb hr hlocks hS (Nat.le_of_ble_eq_true rfl) (Nat.le_of_ble_eq_true rfl) dX11_takes_29 (hT)
      · skip
        have c_9 := ni_nle c_9 li_9 rfl
        refine lv_aload_n hx hb dX11_takes_8 rfl (lv_at hl 2 rfl) ?_
        refine lv_iload_n hx hb dX11_takes_9 rfl (lv_at hl 3 rfl) ?_
        refine lv_aload_n hx hb dX11_takes_10 rfl (lv_at hl 0 rfl) ?_
        refine tz_get (ci := 8) (v := .ref h2) (C := RX11) (F := TX11) (N := 36) hx hb hU iX11 hown hK hT 0 rfl rfl 6 (by decide) w791 (fun _ h9 => h9) rfl dX11_takes_11 ?_
        refine lv_bipush (v := 9) hx hb dX11_takes_14 (by decide) ?_
        refine lv_iload_n hx hb dX11_takes_16 rfl (lv_at hl 1 rfl) ?_
        refine lv_imul hx hb dX11_takes_17 (lv_topi (fun v10 e_v10 => ?_))
        have e_v10 := ai_mul e_v10 li_9 rfl (by omega)
        refine lv_iload_n hx hb dX11_takes_18 rfl (lv_at hl 3 rfl) ?_
        refine lv_iadd hx hb dX11_takes_19 (lv_topi (fun v11 e_v11 => ?_))
        have e_v11 := ai_add e_v11 rfl rfl (by omega)
        refine tz_iald hx hb hK hT 2 rfl (by omega) dX11_takes_20 (fun v12 e_v12 => ?_)
        clear e_v12
        have tb_v12 := i32b v12
        obtain ⟨v13, e_v13⟩ : ∃ x : Int64, v12.toInt64 = x := ⟨_, rfl⟩
        refine lv_i2l (v := v13) hx hb dX11_takes_21 e_v13 ?_
        have e_v13 := ai_i2l e_v13 rfl
        refine tz_last hx hb hK hT hS 1 rfl (by omega) (fun _ _ => trivial) dX11_takes_22 (fun H locs hT hS => ?_)
        obtain ⟨v14, e_v14⟩ : ∃ x : Int32, x = y7 + Int32.ofInt 1 := ⟨_, rfl⟩
        have f_v14 := e_v14.symm
        have e_v14 : v14.toInt = y7.toInt + 1 := ai_add e_v14 rfl (show (Int32.ofInt 1).toInt = 1 from (by decide +kernel)) (by omega)
        refine lv_iinc (v := v14) (lv' := [(3, .int v14), (0, .ref h0), (1, .int x1), (2, .ref h1)]) hx hb dX11_takes_23 hl (k := 3) rfl f_v14 (by decide) rfl (fun ls hl => ?_)
        refine lv_goto (tgt := 2) hx hb dX11_takes_26 (by decide) ?_
        exact ih2_8 v14 _ _ _ (by omega)  (by omega) hT hS (lv_sub hl [1, 2, 3, 0] rfl)
  exact lp2_8 (((-1) * (0 : Int32).toInt + 9 + 1).toNat + 1) (0) _ _ _ (by have := li_0; omega)  (Nat.lt_succ_self _) hT hS (lv_sub hl [1, 2, 3, 0] rfl)
abbrev Rm_cX11_clears_659db : Room := { frames := 0, cells := 0, slots := 0, locals := 0 }
abbrev B_cX11_clears_659db (D : va_G) (k : Nat → ClassId) (h0 h1 h2 h3 h4 h5 h6 h7 h8 h9 h10 h11 h12 h13 h14 h15 h16 h17 h18 h19 h20 h21 : Nat) (h0f0 : Int32) (h0f1 : Int32) (h0f2 : Int32) (h0f3 : Int32) (h0f4 : Int32) (h0f5 : Int32) (h0f8 : Int32) (h0f9 : Int32) (h0f17 : Int32) (h0f18 : Int32) (h0f19 : Int32) (h0f24 : Int32) (h0f25 : Int32) (h0f30 : Int32) (h0f31 : Int32) (A : Nat → Prop) (H : Heap) : Prop := TP D A [(h0, ob 8 [.int h0f0, .int h0f1, .int h0f2, .int h0f3, .int h0f4, .int h0f5, .ref h2, .ref h3, .int h0f8, .int h0f9, .ref h4, .ref h5, .ref h6, .ref h1, .ref h7, .ref h8, .ref h9, .int h0f17, .int h0f18, .int h0f19, .ref h10, .ref h11, .ref h12, .ref h13, .int h0f24, .int h0f25, .ref h14, .ref h15, .ref h16, .ref h17, .int h0f30, .int h0f31, .ref h18, .ref h19, .ref h20, .ref h21]), (h1, aJ (k 1) 9 anJ)] H
set_option maxHeartbeats 4000000 in
set_option maxRecDepth 100000 in
theorem cX11_clears_659db (l : Launch) (D : va_G) (k : Nat → ClassId) (sz : Nat) (h0 h1 h2 h3 h4 h5 h6 h7 h8 h9 h10 h11 h12 h13 h14 h15 h16 h17 h18 h19 h20 h21 : Nat) (h0f0 : Int32) (h0f1 : Int32) (h0f2 : Int32) (h0f3 : Int32) (h0f4 : Int32) (h0f5 : Int32) (h0f8 : Int32) (h0f9 : Int32) (h0f17 : Int32) (h0f18 : Int32) (h0f19 : Int32) (h0f24 : Int32) (h0f25 : Int32) (h0f30 : Int32) (h0f31 : Int32) (b_h0f0 : 1 ≤ h0f0.toInt ∧ h0f0.toInt ≤ 3) (b_h0f1 : 1 ≤ h0f1.toInt ∧ h0f1.toInt ≤ 4) (b_h0f3 : 0 ≤ h0f3.toInt ∧ h0f3.toInt ≤ 3) (b_h0f4 : 0 ≤ h0f4.toInt ∧ h0f4.toInt ≤ 4) (b_h0f8 : 0 ≤ h0f8.toInt ∧ h0f8.toInt ≤ 1) (b_h0f9 : 0 ≤ h0f9.toInt ∧ h0f9.toInt ≤ 0) (b_h0f17 : 0 ≤ h0f17.toInt ∧ h0f17.toInt ≤ 120) (b_h0f18 : 0 ≤ h0f18.toInt ∧ h0f18.toInt ≤ 120) (b_h0f19 : 0 ≤ h0f19.toInt ∧ h0f19.toInt ≤ 4) (b_h0f24 : 1 ≤ h0f24.toInt ∧ h0f24.toInt ≤ 100) (b_h0f25 : 0 ≤ h0f25.toInt ∧ h0f25.toInt ≤ 1) (b_h0f30 : 0 ≤ h0f30.toInt ∧ h0f30.toInt ≤ 60) (b_h0f31 : 0 ≤ h0f31.toInt ∧ h0f31.toInt ≤ 1) (i_0 : h0f8.toInt ≤ h0f3.toInt) (i_1 : h0f9.toInt ≤ h0f24.toInt) : Met l yX11_clears (Cond.code yX11_clears cX11_clears 3 none :: uw) Rm_cX11_clears_659db (pT D k sz [.ref h0, .ref h1] [(h0, ob 8 [.int h0f0, .int h0f1, .int h0f2, .int h0f3, .int h0f4, .int h0f5, .ref h2, .ref h3, .int h0f8, .int h0f9, .ref h4, .ref h5, .ref h6, .ref h1, .ref h7, .ref h8, .ref h9, .int h0f17, .int h0f18, .int h0f19, .ref h10, .ref h11, .ref h12, .ref h13, .int h0f24, .int h0f25, .ref h14, .ref h15, .ref h16, .ref h17, .int h0f30, .int h0f31, .ref h18, .ref h19, .ref h20, .ref h21]), (h1, aJ (k 1) 9 anJ)]) (qV (B_cX11_clears_659db D k h0 h1 h2 h3 h4 h5 h6 h7 h8 h9 h10 h11 h12 h13 h14 h15 h16 h17 h18 h19 h20 h21 h0f0 h0f1 h0f2 h0f3 h0f4 h0f5 h0f8 h0f9 h0f17 h0f18 h0f19 h0f24 h0f25 h0f30 h0f31 (zA [h0, h1] sz)) (zA [h0, h1] sz)) 0 0 (zA [h0, h1] sz) := by
  refine tz_begin (as := [h0, h1]) (Qc := fun A => qV (B_cX11_clears_659db D k h0 h1 h2 h3 h4 h5 h6 h7 h8 h9 h10 h11 h12 h13 h14 h15 h16 h17 h18 h19 h20 h21 h0f0 h0f1 h0f2 h0f3 h0f4 h0f5 h0f8 h0f9 h0f17 h0f18 h0f19 h0f24 h0f25 h0f30 h0f31 A) A) (by decide +kernel) rfl (Nat.le_of_ble_eq_true rfl) ?_
  intro p e s m args below meth c ls A Q hx hb hr hml hown hlocks hin hU hK hT hS hA hl hQ
  have hl : lv_has ls 3 [(0, .ref h0), (1, .ref h1)] := hl
  have hT : TP D A [(h0, ob 8 [.int h0f0, .int h0f1, .int h0f2, .int h0f3, .int h0f4, .int h0f5, .ref h2, .ref h3, .int h0f8, .int h0f9, .ref h4, .ref h5, .ref h6, .ref h1, .ref h7, .ref h8, .ref h9, .int h0f17, .int h0f18, .int h0f19, .ref h10, .ref h11, .ref h12, .ref h13, .int h0f24, .int h0f25, .ref h14, .ref h15, .ref h16, .ref h17, .int h0f30, .int h0f31, .ref h18, .ref h19, .ref h20, .ref h21]), (h1, aJ (k 1) 9 anJ)] s.heap := hT
  refine lv_iconst (v := 0) hx hb dX11_clears_0 (by decide) ?_
  refine lv_istore_n (lv' := [(2, .int 0), (0, .ref h0), (1, .ref h1)]) hx hb dX11_clears_1 rfl hl (by decide) rfl (fun ls hl => ?_)
  have lp2_8 : ∀ (n : Nat) (y7 : Int32) (H : Heap) (locs : List Loc) (ls : Array Slot), (0 ≤ y7.toInt ∧ y7.toInt ≤ 9) → ((-1) * y7.toInt + 9 + 1).toNat < n → TP D A [(h0, ob 8 [.int h0f0, .int h0f1, .int h0f2, .int h0f3, .int h0f4, .int h0f5, .ref h2, .ref h3, .int h0f8, .int h0f9, .ref h4, .ref h5, .ref h6, .ref h1, .ref h7, .ref h8, .ref h9, .int h0f17, .int h0f18, .int h0f19, .ref h10, .ref h11, .ref h12, .ref h13, .int h0f24, .int h0f25, .ref h14, .ref h15, .ref h16, .ref h17, .int h0f30, .int h0f31, .ref h18, .ref h19, .ref h20, .ref h21]), (h1, aJ (k 1) 9 anJ)] H → va_S A s.heap H locs → lv_has ls 3 [(1, .ref h1), (2, .int y7)] → W p l e Rm_cX11_clears_659db s m args below meth c H locs 0 0 Q (F0 m 2 ls []) := by
    intro n
    induction n with
    | zero => intro y7 H locs ls b_y7 hm hT hS hl; exact absurd hm (Nat.not_lt_zero _)
    | succ n ih =>
      intro y7 H locs ls b_y7 hm hT hS hl
      have ih2_8 := ih
      clear ih
      refine lv_iload_n hx hb dX11_clears_2 rfl (lv_at hl 1 rfl) ?_
      refine lv_bipush (v := 9) hx hb dX11_clears_3 (by decide) ?_
      refine lv_icmp_ge (tgt := 18) hx hb dX11_clears_5 (by decide) (fun c_9 => ?_) (fun c_9 => ?_)
      · skip
        have c_9 := ni_le c_9 li_9 rfl
        exact tz_retV (B := B_cX11_clears_659db D k h0 h1 h2 h3 h4 h5 h6 h7 h8 h9 h10 h11 h12 h13 h14 h15 h16 h17 h18 h19 h20 h21 h0f0 h0f1 h0f2 h0f3 h0f4 h0f5 h0f8 h0f9 h0f17 h0f18 h0f19 h0f24 h0f25 h0f30 h0f31) hQ hx hb hr hlocks hS (Nat.le_of_ble_eq_true rfl) (Nat.le_of_ble_eq_true rfl) dX11_clears_18 (hT)
      · skip
        have c_9 := ni_nle c_9 li_9 rfl
        refine lv_aload_n hx hb dX11_clears_8 rfl (lv_at hl 0 rfl) ?_
        refine lv_iload_n hx hb dX11_clears_9 rfl (lv_at hl 1 rfl) ?_
        refine lv_lconst (v := 0) hx hb dX11_clears_10 (by decide) ?_
        refine tz_last hx hb hK hT hS 1 rfl (by omega) (fun _ _ => trivial) dX11_clears_11 (fun H locs hT hS => ?_)
        obtain ⟨v10, e_v10⟩ : ∃ x : Int32, x = y7 + Int32.ofInt 1 := ⟨_, rfl⟩
        have f_v10 := e_v10.symm
        have e_v10 : v10.toInt = y7.toInt + 1 := ai_add e_v10 rfl (show (Int32.ofInt 1).toInt = 1 from (by decide +kernel)) (by omega)
        refine lv_iinc (v := v10) (lv' := [(2, .int v10), (1, .ref h1)]) hx hb dX11_clears_12 hl (k := 1) rfl f_v10 (by decide) rfl (fun ls hl => ?_)
        refine lv_goto (tgt := 2) hx hb dX11_clears_15 (by decide) ?_
        exact ih2_8 v10 _ _ _ (by omega)  (by omega) hT hS (lv_sub hl [1, 0] rfl)
  exact lp2_8 (((-1) * (0 : Int32).toInt + 9 + 1).toNat + 1) (0) _ _ _ (by have := li_0; omega)  (Nat.lt_succ_self _) hT hS (lv_sub hl [2, 0] rfl)
abbrev Rm_cX11_times_50a35 : Room := { frames := 1, cells := 0, slots := 0, locals := 22 }
abbrev B_cX11_times_50a35 (D : va_G) (k : Nat → ClassId) (h0 h1 h2 h3 h4 h5 h6 h7 h8 h9 h10 h11 h12 h13 h14 h15 h16 h17 h18 h19 h20 h21 : Nat) (h0f0 : Int32) (h0f1 : Int32) (h0f2 : Int32) (h0f3 : Int32) (h0f4 : Int32) (h0f5 : Int32) (h0f8 : Int32) (h0f9 : Int32) (h0f17 : Int32) (h0f18 : Int32) (h0f19 : Int32) (h0f24 : Int32) (h0f25 : Int32) (h0f30 : Int32) (h0f31 : Int32) (A : Nat → Prop) (H : Heap) : Prop := TP D A [(h0, ob 8 [.int h0f0, .int h0f1, .int h0f2, .int h0f3, .int h0f4, .int h0f5, .ref h4, .ref h5, .int h0f8, .int h0f9, .ref h6, .ref h1, .ref h2, .ref h3, .ref h7, .ref h8, .ref h9, .int h0f17, .int h0f18, .int h0f19, .ref h10, .ref h11, .ref h12, .ref h13, .int h0f24, .int h0f25, .ref h14, .ref h15, .ref h16, .ref h17, .int h0f30, .int h0f31, .ref h18, .ref h19, .ref h20, .ref h21]), (h1, aJ (k 1) 9 anJ), (h2, aJ (k 1) 9 anJ), (h3, aJ (k 1) 9 anJ)] H
set_option maxHeartbeats 4000000 in
set_option maxRecDepth 100000 in
theorem cX11_times_50a35 (l : Launch) (D : va_G) (k : Nat → ClassId) (sz : Nat) (h0 h1 h2 h3 h4 h5 h6 h7 h8 h9 h10 h11 h12 h13 h14 h15 h16 h17 h18 h19 h20 h21 : Nat) (h0f0 : Int32) (h0f1 : Int32) (h0f2 : Int32) (h0f3 : Int32) (h0f4 : Int32) (h0f5 : Int32) (h0f8 : Int32) (h0f9 : Int32) (h0f17 : Int32) (h0f18 : Int32) (h0f19 : Int32) (h0f24 : Int32) (h0f25 : Int32) (h0f30 : Int32) (h0f31 : Int32) (b_h0f0 : 1 ≤ h0f0.toInt ∧ h0f0.toInt ≤ 3) (b_h0f1 : 1 ≤ h0f1.toInt ∧ h0f1.toInt ≤ 4) (b_h0f3 : 0 ≤ h0f3.toInt ∧ h0f3.toInt ≤ 3) (b_h0f4 : 0 ≤ h0f4.toInt ∧ h0f4.toInt ≤ 4) (b_h0f8 : 0 ≤ h0f8.toInt ∧ h0f8.toInt ≤ 1) (b_h0f9 : 0 ≤ h0f9.toInt ∧ h0f9.toInt ≤ 0) (b_h0f17 : 0 ≤ h0f17.toInt ∧ h0f17.toInt ≤ 120) (b_h0f18 : 0 ≤ h0f18.toInt ∧ h0f18.toInt ≤ 120) (b_h0f19 : 0 ≤ h0f19.toInt ∧ h0f19.toInt ≤ 4) (b_h0f24 : 1 ≤ h0f24.toInt ∧ h0f24.toInt ≤ 100) (b_h0f25 : 0 ≤ h0f25.toInt ∧ h0f25.toInt ≤ 1) (b_h0f30 : 0 ≤ h0f30.toInt ∧ h0f30.toInt ≤ 60) (b_h0f31 : 0 ≤ h0f31.toInt ∧ h0f31.toInt ≤ 1) (i_0 : h0f8.toInt ≤ h0f3.toInt) (i_1 : h0f9.toInt ≤ h0f24.toInt) : Met l yX11_times (Cond.code yX11_times cX11_times 7 none :: uw) Rm_cX11_times_50a35 (pT D k sz [.ref h0, .ref h1, .ref h2, .ref h3] [(h0, ob 8 [.int h0f0, .int h0f1, .int h0f2, .int h0f3, .int h0f4, .int h0f5, .ref h4, .ref h5, .int h0f8, .int h0f9, .ref h6, .ref h1, .ref h2, .ref h3, .ref h7, .ref h8, .ref h9, .int h0f17, .int h0f18, .int h0f19, .ref h10, .ref h11, .ref h12, .ref h13, .int h0f24, .int h0f25, .ref h14, .ref h15, .ref h16, .ref h17, .int h0f30, .int h0f31, .ref h18, .ref h19, .ref h20, .ref h21]), (h1, aJ (k 1) 9 anJ), (h2, aJ (k 1) 9 anJ), (h3, aJ (k 1) 9 anJ)]) (qV (B_cX11_times_50a35 D k h0 h1 h2 h3 h4 h5 h6 h7 h8 h9 h10 h11 h12 h13 h14 h15 h16 h17 h18 h19 h20 h21 h0f0 h0f1 h0f2 h0f3 h0f4 h0f5 h0f8 h0f9 h0f17 h0f18 h0f19 h0f24 h0f25 h0f30 h0f31 (zA [h0, h1, h2, h3] sz)) (zA [h0, h1, h2, h3] sz)) 0 0 (zA [h0, h1, h2, h3] sz) := by
  refine tz_begin (as := [h0, h1, h2, h3]) (Qc := fun A => qV (B_cX11_times_50a35 D k h0 h1 h2 h3 h4 h5 h6 h7 h8 h9 h10 h11 h12 h13 h14 h15 h16 h17 h18 h19 h20 h21 h0f0 h0f1 h0f2 h0f3 h0f4 h0f5 h0f8 h0f9 h0f17 h0f18 h0f19 h0f24 h0f25 h0f30 h0f31 A) A) (by decide +kernel) rfl (Nat.le_of_ble_eq_true rfl) ?_
  intro p e s m args below meth c ls A Q hx hb hr hml hown hlocks hin hU hK hT hS hA hl hQ
  have hl : lv_has ls 7 [(0, .ref h0), (1, .ref h1), (2, .ref h2), (3, .ref h3)] := hl
  have hT : TP D A [(h0, ob 8 [.int h0f0, .int h0f1, .int h0f2, .int h0f3, .int h0f4, .int h0f5, .ref h4, .ref h5, .int h0f8, .int h0f9, .ref h6, .ref h1, .ref h2, .ref h3, .ref h7, .ref h8, .ref h9, .int h0f17, .int h0f18, .int h0f19, .ref h10, .ref h11, .ref h12, .ref h13, .int h0f24, .int h0f25, .ref h14, .ref h15, .ref h16, .ref h17, .int h0f30, .int h0f31, .ref h18, .ref h19, .ref h20, .ref h21]), (h1, aJ (k 1) 9 anJ), (h2, aJ (k 1) 9 anJ), (h3, aJ (k 1) 9 anJ)] s.heap := hT
  refine lv_aload_n hx hb dX11_times_0 rfl (lv_at hl 0 rfl) ?_
  refine lv_aload_n hx hb dX11_times_1 rfl (lv_at hl 3 rfl) ?_
  refine tcV (Tc := [(h0, ob 8 [.int h0f0, .int h0f1, .int h0f2, .int h0f3, .int h0f4, .int h0f5, .ref h4, .ref h5, .int h0f8, .int h0f9, .ref h6, .ref h1, .ref h2, .ref h3, .ref h7, .ref h8, .ref h9, .int h0f17, .int h0f18, .int h0f19, .ref h10, .ref h11, .ref h12, .ref h13, .int h0f24, .int h0f25, .ref h14, .ref h15, .ref h16, .ref h17, .int h0f30, .int h0f31, .ref h18, .ref h19, .ref h20, .ref h21]), (h3, aJ (k 1) 9 anJ)]) (Tr := [(h1, aJ (k 1) 9 anJ), (h2, aJ (k 1) 9 anJ)]) (as := [h0, h3]) (zcV (q0 := 0) (ci := 8) (As := [.ref h3]) (rest := []) (Tc := [(h0, ob 8 [.int h0f0, .int h0f1, .int h0f2, .int h0f3, .int h0f4, .int h0f5, .ref h4, .ref h5, .int h0f8, .int h0f9, .ref h6, .ref h1, .ref h2, .ref h3, .ref h7, .ref h8, .ref h9, .int h0f17, .int h0f18, .int h0f19, .ref h10, .ref h11, .ref h12, .ref h13, .int h0f24, .int h0f25, .ref h14, .ref h15, .ref h16, .ref h17, .int h0f30, .int h0f31, .ref h18, .ref h19, .ref h20, .ref h21]), (h3, aJ (k 1) 9 anJ)]) hx hb hml hown hU hK hT rfl rfl [0, 3] rfl (by decide) (cX11_clears_659db l D k _ h0 h3 h4 h5 h6 h1 h2 h7 h8 h9 h10 h11 h12 h13 h14 h15 h16 h17 h18 h19 h20 h21 h0f0 h0f1 h0f2 h0f3 h0f4 h0f5 h0f8 h0f9 h0f17 h0f18 h0f19 h0f24 h0f25 h0f30 h0f31 (by omega) (by omega) (by omega) (by omega) (by omega) (by omega) (by omega) (by omega) (by omega) (by omega) (by omega) (by omega) (by omega) (by omega) (by omega)) w923 w920 w922 w29 w72 hdX11_clears ⟨rfl, rfl⟩ ⟨Nat.le_of_ble_eq_true rfl, Nat.le_of_ble_eq_true rfl⟩ rfl hl.1 (Nat.le_of_ble_eq_true rfl) dX11_times_2 ⟨Nat.le_of_ble_eq_true rfl, Nat.le_of_ble_eq_true rfl⟩) hT hS hA [0, 3] [1, 2] rfl rfl rfl (by decide) (by decide) (fun H locs hB J hS => ?_)
  have hT1 := hB
  have hT := J _ hT1
  have hT : TP D A [(h1, aJ (k 1) 9 anJ), (h2, aJ (k 1) 9 anJ), (h0, ob 8 [.int h0f0, .int h0f1, .int h0f2, .int h0f3, .int h0f4, .int h0f5, .ref h4, .ref h5, .int h0f8, .int h0f9, .ref h6, .ref h1, .ref h2, .ref h3, .ref h7, .ref h8, .ref h9, .int h0f17, .int h0f18, .int h0f19, .ref h10, .ref h11, .ref h12, .ref h13, .int h0f24, .int h0f25, .ref h14, .ref h15, .ref h16, .ref h17, .int h0f30, .int h0f31, .ref h18, .ref h19, .ref h20, .ref h21]), (h3, aJ (k 1) 9 anJ)] _ := hT
  refine lv_iconst (v := 0) hx hb dX11_times_5 (by decide) ?_
  refine lv_istore (lv' := [(4, .int 0), (0, .ref h0), (1, .ref h1), (2, .ref h2), (3, .ref h3)]) hx hb dX11_times_6 hl (by decide) rfl (fun ls hl => ?_)
  have lp8_5 : ∀ (n : Nat) (y4 : Int32) (H : Heap) (locs : List Loc) (ls : Array Slot), (0 ≤ y4.toInt ∧ y4.toInt ≤ 3) → (h0f0.toInt + (-1) * y4.toInt + 1).toNat < n → TP D A [(h1, aJ (k 1) 9 anJ), (h2, aJ (k 1) 9 anJ), (h0, ob 8 [.int h0f0, .int h0f1, .int h0f2, .int h0f3, .int h0f4, .int h0f5, .ref h4, .ref h5, .int h0f8, .int h0f9, .ref h6, .ref h1, .ref h2, .ref h3, .ref h7, .ref h8, .ref h9, .int h0f17, .int h0f18, .int h0f19, .ref h10, .ref h11, .ref h12, .ref h13, .int h0f24, .int h0f25, .ref h14, .ref h15, .ref h16, .ref h17, .int h0f30, .int h0f31, .ref h18, .ref h19, .ref h20, .ref h21]), (h3, aJ (k 1) 9 anJ)] H → va_S A s.heap H locs → lv_has ls 7 [(0, .ref h0), (1, .ref h1), (2, .ref h2), (3, .ref h3), (4, .int y4)] → W p l e Rm_cX11_times_50a35 s m args below meth c H locs 0 0 Q (F0 m 8 ls []) := by
    intro n
    induction n with
    | zero => intro y4 H locs ls b_y4 hm hT hS hl; exact absurd hm (Nat.not_lt_zero _)
    | succ n ih =>
      intro y4 H locs ls b_y4 hm hT hS hl
      have ih8_5 := ih
      clear ih
      refine lv_iload hx hb dX11_times_8 (lv_at hl 4 rfl) ?_
      refine lv_aload_n hx hb dX11_times_10 rfl (lv_at hl 0 rfl) ?_
      refine tz_get (ci := 8) (v := .int h0f0) (C := RX11) (F := TX11) (N := 36) hx hb hU iX11 hown hK hT 2 rfl rfl 0 (by decide) w785 (fun _ h9 => h9) rfl dX11_times_11 ?_
      refine lv_icmp_ge (tgt := 90) hx hb dX11_times_14 (by decide) (fun c_6 => ?_) (fun c_6 => ?_)
      · skip
        have c_6 := ni_le c_6 rfl rfl
        exact tz_retV (B := B_cX11_times_50a35 D k h0 h1 h2 h3 h4 h5 h6 h7 h8 h9 h10 h11 h12 h13 h14 h15 h16 h17 h18 h19 h20 h21 h0f0 h0f1 h0f2 h0f3 h0f4 h0f5 h0f8 h0f9 h0f17 h0f18 h0f19 h0f24 h0f25 h0f30 h0f31) hQ hx hb hr hlocks hS (Nat.le_of_ble_eq_true rfl) (Nat.le_of_ble_eq_true rfl) dX11_times_90 ((hT.sub [2, 0, 1, 3] (by decide) rfl))
      · skip
        have c_6 := ni_nle c_6 rfl rfl
        refine lv_iconst (v := 0) hx hb dX11_times_17 (by decide) ?_
        refine lv_istore (lv' := [(5, .int 0), (0, .ref h0), (1, .ref h1), (2, .ref h2), (3, .ref h3), (4, .int y4)]) hx hb dX11_times_18 hl (by decide) rfl (fun ls hl => ?_)
        have lp20_10 : ∀ (n : Nat) (y9 : Int32) (H : Heap) (locs : List Loc) (ls : Array Slot), (0 ≤ y9.toInt ∧ y9.toInt ≤ 3) → (h0f0.toInt + (-1) * y9.toInt + 1).toNat < n → TP D A [(h1, aJ (k 1) 9 anJ), (h2, aJ (k 1) 9 anJ), (h0, ob 8 [.int h0f0, .int h0f1, .int h0f2, .int h0f3, .int h0f4, .int h0f5, .ref h4, .ref h5, .int h0f8, .int h0f9, .ref h6, .ref h1, .ref h2, .ref h3, .ref h7, .ref h8, .ref h9, .int h0f17, .int h0f18, .int h0f19, .ref h10, .ref h11, .ref h12, .ref h13, .int h0f24, .int h0f25, .ref h14, .ref h15, .ref h16, .ref h17, .int h0f30, .int h0f31, .ref h18, .ref h19, .ref h20, .ref h21]), (h3, aJ (k 1) 9 anJ)] H → va_S A s.heap H locs → lv_has ls 7 [(0, .ref h0), (1, .ref h1), (2, .ref h2), (3, .ref h3), (4, .int y4), (5, .int y9)] → W p l e Rm_cX11_times_50a35 s m args below meth c H locs 0 0 Q (F0 m 20 ls []) := by
          intro n
          induction n with
          | zero => intro y9 H locs ls b_y9 hm hT hS hl; exact absurd hm (Nat.not_lt_zero _)
          | succ n ih =>
            intro y9 H locs ls b_y9 hm hT hS hl
            have ih20_10 := ih
            clear ih
            refine lv_iload hx hb dX11_times_20 (lv_at hl 5 rfl) ?_
            refine lv_aload_n hx hb dX11_times_22 rfl (lv_at hl 0 rfl) ?_
            refine tz_get (ci := 8) (v := .int h0f0) (C := RX11) (F := TX11) (N := 36) hx hb hU iX11 hown hK hT 2 rfl rfl 0 (by decide) w785 (fun _ h9 => h9) rfl dX11_times_23 ?_
            refine lv_icmp_ge (tgt := 84) hx hb dX11_times_26 (by decide) (fun c_11 => ?_) (fun c_11 => ?_)
            · skip
              have c_11 := ni_le c_11 rfl rfl
              obtain ⟨v12, e_v12⟩ : ∃ x : Int32, x = y4 + Int32.ofInt 1 := ⟨_, rfl⟩
              have f_v12 := e_v12.symm
              have e_v12 : v12.toInt = y4.toInt + 1 := ai_add e_v12 rfl (show (Int32.ofInt 1).toInt = 1 from (by decide +kernel)) (by omega)
              refine lv_iinc (v := v12) (lv' := [(4, .int v12), (0, .ref h0), (1, .ref h1), (2, .ref h2), (3, .ref h3), (5, .int y9)]) hx hb dX11_times_84 hl (k := 4) rfl f_v12 (by decide) rfl (fun ls hl => ?_)
              refine lv_goto (tgt := 8) hx hb dX11_times_87 (by decide) ?_
              exact ih8_5 v12 _ _ _ (by omega)  (by omega) hT hS (lv_sub hl [1, 2, 3, 4, 0] rfl)
            · skip
              have c_11 := ni_nle c_11 rfl rfl
              refine lv_iconst (v := 0) hx hb dX11_times_29 (by decide) ?_
              refine lv_istore (lv' := [(6, .int 0), (0, .ref h0), (1, .ref h1), (2, .ref h2), (3, .ref h3), (4, .int y4), (5, .int y9)]) hx hb dX11_times_30 hl (by decide) rfl (fun ls hl => ?_)
              have lp32_16 : ∀ (n : Nat) (y15 : Int32) (H : Heap) (locs : List Loc) (ls : Array Slot), (0 ≤ y15.toInt ∧ y15.toInt ≤ 3) → (h0f0.toInt + (-1) * y15.toInt + 1).toNat < n → TP D A [(h1, aJ (k 1) 9 anJ), (h2, aJ (k 1) 9 anJ), (h0, ob 8 [.int h0f0, .int h0f1, .int h0f2, .int h0f3, .int h0f4, .int h0f5, .ref h4, .ref h5, .int h0f8, .int h0f9, .ref h6, .ref h1, .ref h2, .ref h3, .ref h7, .ref h8, .ref h9, .int h0f17, .int h0f18, .int h0f19, .ref h10, .ref h11, .ref h12, .ref h13, .int h0f24, .int h0f25, .ref h14, .ref h15, .ref h16, .ref h17, .int h0f30, .int h0f31, .ref h18, .ref h19, .ref h20, .ref h21]), (h3, aJ (k 1) 9 anJ)] H → va_S A s.heap H locs → lv_has ls 7 [(0, .ref h0), (1, .ref h1), (2, .ref h2), (3, .ref h3), (4, .int y4), (5, .int y9), (6, .int y15)] → W p l e Rm_cX11_times_50a35 s m args below meth c H locs 0 0 Q (F0 m 32 ls []) := by
                intro n
                induction n with
                | zero => intro y15 H locs ls b_y15 hm hT hS hl; exact absurd hm (Nat.not_lt_zero _)
                | succ n ih =>
                  intro y15 H locs ls b_y15 hm hT hS hl
                  have ih32_16 := ih
                  clear ih
                  refine lv_iload hx hb dX11_times_32 (lv_at hl 6 rfl) ?_
                  refine lv_aload_n hx hb dX11_times_34 rfl (lv_at hl 0 rfl) ?_
                  refine tz_get (ci := 8) (v := .int h0f0) (C := RX11) (F := TX11) (N := 36) hx hb hU iX11 hown hK hT 2 rfl rfl 0 (by decide) w785 (fun _ h9 => h9) rfl dX11_times_35 ?_
                  refine lv_icmp_ge (tgt := 78) hx hb dX11_times_38 (by decide) (fun c_17 => ?_) (fun c_17 => ?_)
                  · skip
                    have c_17 := ni_le c_17 rfl rfl
                    obtain ⟨v18, e_v18⟩ : ∃ x : Int32, x = y9 + Int32.ofInt 1 := ⟨_, rfl⟩
                    have f_v18 := e_v18.symm
                    have e_v18 : v18.toInt = y9.toInt + 1 := ai_add e_v18 rfl (show (Int32.ofInt 1).toInt = 1 from (by decide +kernel)) (by omega)
                    refine lv_iinc (v := v18) (lv' := [(5, .int v18), (0, .ref h0), (1, .ref h1), (2, .ref h2), (3, .ref h3), (4, .int y4), (6, .int y15)]) hx hb dX11_times_78 hl (k := 5) rfl f_v18 (by decide) rfl (fun ls hl => ?_)
                    refine lv_goto (tgt := 20) hx hb dX11_times_81 (by decide) ?_
                    exact ih20_10 v18 _ _ _ (by omega)  (by omega) hT hS (lv_sub hl [1, 2, 3, 4, 5, 0] rfl)
                  · skip
                    have c_17 := ni_nle c_17 rfl rfl
                    refine lv_aload_n hx hb dX11_times_41 rfl (lv_at hl 3 rfl) ?_
                    refine lv_iconst (v := 3) hx hb dX11_times_42 (by decide) ?_
                    refine lv_iload hx hb dX11_times_43 (lv_at hl 4 rfl) ?_
                    refine lv_imul hx hb dX11_times_45 (lv_topi (fun v19 e_v19 => ?_))
                    have e_v19 := ai_mul e_v19 li_3 rfl (by omega)
                    refine lv_iload hx hb dX11_times_46 (lv_at hl 5 rfl) ?_
                    refine lv_iadd hx hb dX11_times_48 (lv_topi (fun v20 e_v20 => ?_))
                    have e_v20 := ai_add e_v20 rfl rfl (by omega)
                    refine lv_dup2_11 hx hb dX11_times_49 rfl rfl ?_
                    refine tz_lald hx hb hK hT 3 rfl (by omega) dX11_times_50 (fun v21 e_v21 => ?_)
                    clear e_v21
                    refine lv_aload_n hx hb dX11_times_51 rfl (lv_at hl 1 rfl) ?_
                    refine lv_iconst (v := 3) hx hb dX11_times_52 (by decide) ?_
                    refine lv_iload hx hb dX11_times_53 (lv_at hl 4 rfl) ?_
                    refine lv_imul hx hb dX11_times_55 (lv_topi (fun v22 e_v22 => ?_))
                    have e_v22 := ai_mul e_v22 li_3 rfl (by omega)
                    refine lv_iload hx hb dX11_times_56 (lv_at hl 6 rfl) ?_
                    refine lv_iadd hx hb dX11_times_58 (lv_topi (fun v23 e_v23 => ?_))
                    have e_v23 := ai_add e_v23 rfl rfl (by omega)
                    refine tz_lald hx hb hK hT 0 rfl (by omega) dX11_times_59 (fun v24 e_v24 => ?_)
                    clear e_v24
                    refine lv_aload_n hx hb dX11_times_60 rfl (lv_at hl 2 rfl) ?_
                    refine lv_iconst (v := 3) hx hb dX11_times_61 (by decide) ?_
                    refine lv_iload hx hb dX11_times_62 (lv_at hl 6 rfl) ?_
                    refine lv_imul hx hb dX11_times_64 (lv_topi (fun v25 e_v25 => ?_))
                    have e_v25 := ai_mul e_v25 li_3 rfl (by omega)
                    refine lv_iload hx hb dX11_times_65 (lv_at hl 5 rfl) ?_
                    refine lv_iadd hx hb dX11_times_67 (lv_topi (fun v26 e_v26 => ?_))
                    have e_v26 := ai_add e_v26 rfl rfl (by omega)
                    refine tz_lald hx hb hK hT 1 rfl (by omega) dX11_times_68 (fun v27 e_v27 => ?_)
                    clear e_v27
                    refine lv_lmul hx hb dX11_times_69 (lv_topl (fun v28 e_v28 => ?_))
                    refine lv_ladd hx hb dX11_times_70 (lv_topl (fun v29 e_v29 => ?_))
                    refine tz_last hx hb hK hT hS 3 rfl (by omega) (fun _ _ => trivial) dX11_times_71 (fun H locs hT hS => ?_)
                    obtain ⟨v30, e_v30⟩ : ∃ x : Int32, x = y15 + Int32.ofInt 1 := ⟨_, rfl⟩
                    have f_v30 := e_v30.symm
                    have e_v30 : v30.toInt = y15.toInt + 1 := ai_add e_v30 rfl (show (Int32.ofInt 1).toInt = 1 from (by decide +kernel)) (by omega)
                    refine lv_iinc (v := v30) (lv' := [(6, .int v30), (0, .ref h0), (1, .ref h1), (2, .ref h2), (3, .ref h3), (4, .int y4), (5, .int y9)]) hx hb dX11_times_72 hl (k := 6) rfl f_v30 (by decide) rfl (fun ls hl => ?_)
                    refine lv_goto (tgt := 32) hx hb dX11_times_75 (by decide) ?_
                    exact ih32_16 v30 _ _ _ (by omega)  (by omega) hT hS (lv_sub hl [1, 2, 3, 4, 5, 6, 0] rfl)
              exact lp32_16 ((h0f0.toInt + (-1) * (0 : Int32).toInt + 1).toNat + 1) (0) _ _ _ (by have := li_0; omega)  (Nat.lt_succ_self _) hT hS (lv_sub hl [1, 2, 3, 4, 5, 6, 0] rfl)
        exact lp20_10 ((h0f0.toInt + (-1) * (0 : Int32).toInt + 1).toNat + 1) (0) _ _ _ (by have := li_0; omega)  (Nat.lt_succ_self _) hT hS (lv_sub hl [1, 2, 3, 4, 5, 0] rfl)
  exact lp8_5 ((h0f0.toInt + (-1) * (0 : Int32).toInt + 1).toNat + 1) (0) _ _ _ (by have := li_0; omega)  (Nat.lt_succ_self _) hT hS (lv_sub hl [1, 2, 3, 4, 0] rfl)
abbrev Rm_cX11_placeOf_8624f : Room := { frames := 0, cells := 0, slots := 0, locals := 0 }
abbrev B_cX11_placeOf_8624f (D : va_G) (k : Nat → ClassId) (h0 h1 h10 h2 h3 h4 h5 h6 h7 h8 h9 h11 h12 h13 h14 h15 h16 h17 h18 h19 h20 h21 : Nat) (h0f0 : Int32) (h0f1 : Int32) (h0f2 : Int32) (h0f3 : Int32) (h0f4 : Int32) (h0f5 : Int32) (h0f8 : Int32) (h0f9 : Int32) (h0f17 : Int32) (h0f18 : Int32) (h0f19 : Int32) (h0f24 : Int32) (h0f25 : Int32) (h0f30 : Int32) (h0f31 : Int32) (A : Nat → Prop) (r : Int32) (H : Heap) : Prop := ((-1) ≤ r.toInt ∧ r.toInt ≤ 99) ∧ TP D A [(h0, ob 8 [.int h0f0, .int h0f1, .int h0f2, .int h0f3, .int h0f4, .int h0f5, .ref h2, .ref h3, .int h0f8, .int h0f9, .ref h4, .ref h5, .ref h6, .ref h1, .ref h7, .ref h8, .ref h9, .int h0f17, .int h0f18, .int h0f19, .ref h10, .ref h11, .ref h12, .ref h13, .int h0f24, .int h0f25, .ref h14, .ref h15, .ref h16, .ref h17, .int h0f30, .int h0f31, .ref h18, .ref h19, .ref h20, .ref h21]), (h1, aJ (k 1) 9 anJ), (h10, aJ (k 1) 900 (l1P ))] H
set_option maxHeartbeats 4000000 in
set_option maxRecDepth 100000 in
theorem cX11_placeOf_8624f (l : Launch) (D : va_G) (k : Nat → ClassId) (sz : Nat) (h0 h1 h10 h2 h3 h4 h5 h6 h7 h8 h9 h11 h12 h13 h14 h15 h16 h17 h18 h19 h20 h21 : Nat) (h0f0 : Int32) (h0f1 : Int32) (h0f2 : Int32) (h0f3 : Int32) (h0f4 : Int32) (h0f5 : Int32) (h0f8 : Int32) (h0f9 : Int32) (h0f17 : Int32) (h0f18 : Int32) (h0f19 : Int32) (h0f24 : Int32) (h0f25 : Int32) (h0f30 : Int32) (h0f31 : Int32) (b_h0f0 : 1 ≤ h0f0.toInt ∧ h0f0.toInt ≤ 3) (b_h0f1 : 1 ≤ h0f1.toInt ∧ h0f1.toInt ≤ 4) (b_h0f3 : 0 ≤ h0f3.toInt ∧ h0f3.toInt ≤ 3) (b_h0f4 : 0 ≤ h0f4.toInt ∧ h0f4.toInt ≤ 4) (b_h0f8 : 0 ≤ h0f8.toInt ∧ h0f8.toInt ≤ 1) (b_h0f9 : 0 ≤ h0f9.toInt ∧ h0f9.toInt ≤ 0) (b_h0f17 : 0 ≤ h0f17.toInt ∧ h0f17.toInt ≤ 120) (b_h0f18 : 0 ≤ h0f18.toInt ∧ h0f18.toInt ≤ 120) (b_h0f19 : 0 ≤ h0f19.toInt ∧ h0f19.toInt ≤ 4) (b_h0f24 : 1 ≤ h0f24.toInt ∧ h0f24.toInt ≤ 100) (b_h0f25 : 0 ≤ h0f25.toInt ∧ h0f25.toInt ≤ 1) (b_h0f30 : 0 ≤ h0f30.toInt ∧ h0f30.toInt ≤ 60) (b_h0f31 : 0 ≤ h0f31.toInt ∧ h0f31.toInt ≤ 1) (i_0 : h0f8.toInt ≤ h0f3.toInt) (i_1 : h0f9.toInt ≤ h0f24.toInt) : Met l yX11_placeOf (Cond.code yX11_placeOf cX11_placeOf 5 (some .int) :: uw) Rm_cX11_placeOf_8624f (pT D k sz [.ref h0, .ref h1] [(h0, ob 8 [.int h0f0, .int h0f1, .int h0f2, .int h0f3, .int h0f4, .int h0f5, .ref h2, .ref h3, .int h0f8, .int h0f9, .ref h4, .ref h5, .ref h6, .ref h1, .ref h7, .ref h8, .ref h9, .int h0f17, .int h0f18, .int h0f19, .ref h10, .ref h11, .ref h12, .ref h13, .int h0f24, .int h0f25, .ref h14, .ref h15, .ref h16, .ref h17, .int h0f30, .int h0f31, .ref h18, .ref h19, .ref h20, .ref h21]), (h1, aJ (k 1) 9 anJ), (h10, aJ (k 1) 900 (l1P ))]) (qI (B_cX11_placeOf_8624f D k h0 h1 h10 h2 h3 h4 h5 h6 h7 h8 h9 h11 h12 h13 h14 h15 h16 h17 h18 h19 h20 h21 h0f0 h0f1 h0f2 h0f3 h0f4 h0f5 h0f8 h0f9 h0f17 h0f18 h0f19 h0f24 h0f25 h0f30 h0f31 (zA [h0, h1, h10] sz)) (zA [h0, h1, h10] sz)) 0 0 (zA [h0, h1, h10] sz) := by
  refine tz_begin (as := [h0, h1, h10]) (Qc := fun A => qI (B_cX11_placeOf_8624f D k h0 h1 h10 h2 h3 h4 h5 h6 h7 h8 h9 h11 h12 h13 h14 h15 h16 h17 h18 h19 h20 h21 h0f0 h0f1 h0f2 h0f3 h0f4 h0f5 h0f8 h0f9 h0f17 h0f18 h0f19 h0f24 h0f25 h0f30 h0f31 A) A) (by decide +kernel) rfl (Nat.le_of_ble_eq_true rfl) ?_
  intro p e s m args below meth c ls A Q hx hb hr hml hown hlocks hin hU hK hT hS hA hl hQ
  have hl : lv_has ls 5 [(0, .ref h0), (1, .ref h1)] := hl
  have hT : TP D A [(h0, ob 8 [.int h0f0, .int h0f1, .int h0f2, .int h0f3, .int h0f4, .int h0f5, .ref h2, .ref h3, .int h0f8, .int h0f9, .ref h4, .ref h5, .ref h6, .ref h1, .ref h7, .ref h8, .ref h9, .int h0f17, .int h0f18, .int h0f19, .ref h10, .ref h11, .ref h12, .ref h13, .int h0f24, .int h0f25, .ref h14, .ref h15, .ref h16, .ref h17, .int h0f30, .int h0f31, .ref h18, .ref h19, .ref h20, .ref h21]), (h1, aJ (k 1) 9 anJ), (h10, aJ (k 1) 900 (l1P ))] s.heap := hT
  refine lv_iconst (v := 0) hx hb dX11_placeOf_0 (by decide) ?_
  refine lv_istore_n (lv' := [(2, .int 0), (0, .ref h0), (1, .ref h1)]) hx hb dX11_placeOf_1 rfl hl (by decide) rfl (fun ls hl => ?_)
  have lp2_15 : ∀ (n : Nat) (y14 : Int32) (H : Heap) (locs : List Loc) (ls : Array Slot), (0 ≤ y14.toInt ∧ y14.toInt ≤ 100) → (h0f24.toInt + (-1) * y14.toInt + 1).toNat < n → TP D A [(h0, ob 8 [.int h0f0, .int h0f1, .int h0f2, .int h0f3, .int h0f4, .int h0f5, .ref h2, .ref h3, .int h0f8, .int h0f9, .ref h4, .ref h5, .ref h6, .ref h1, .ref h7, .ref h8, .ref h9, .int h0f17, .int h0f18, .int h0f19, .ref h10, .ref h11, .ref h12, .ref h13, .int h0f24, .int h0f25, .ref h14, .ref h15, .ref h16, .ref h17, .int h0f30, .int h0f31, .ref h18, .ref h19, .ref h20, .ref h21]), (h1, aJ (k 1) 9 anJ), (h10, aJ (k 1) 900 (l1P ))] H → va_S A s.heap H locs → lv_has ls 5 [(0, .ref h0), (1, .ref h1), (2, .int y14)] → W p l e Rm_cX11_placeOf_8624f s m args below meth c H locs 0 0 Q (F0 m 2 ls []) := by
    intro n
    induction n with
    | zero => intro y14 H locs ls b_y14 hm hT hS hl; exact absurd hm (Nat.not_lt_zero _)
    | succ n ih =>
      intro y14 H locs ls b_y14 hm hT hS hl
      have ih2_15 := ih
      clear ih
      refine lv_iload_n hx hb dX11_placeOf_2 rfl (lv_at hl 2 rfl) ?_
      refine lv_aload_n hx hb dX11_placeOf_3 rfl (lv_at hl 0 rfl) ?_
      refine tz_get (ci := 8) (v := .int h0f24) (C := RX11) (F := TX11) (N := 36) hx hb hU iX11 hown hK hT 0 rfl rfl 24 (by decide) w809 (fun _ h9 => h9) rfl dX11_placeOf_4 ?_
      refine lv_icmp_ge (tgt := 70) hx hb dX11_placeOf_7 (by decide) (fun c_16 => ?_) (fun c_16 => ?_)
      · skip
        have c_16 := ni_le c_16 rfl rfl
        refine lv_iconst (v := (-1)) hx hb dX11_placeOf_70 (by decide) ?_
        exact tz_retI (B := B_cX11_placeOf_8624f D k h0 h1 h10 h2 h3 h4 h5 h6 h7 h8 h9 h11 h12 h13 h14 h15 h16 h17 h18 h19 h20 h21 h0f0 h0f1 h0f2 h0f3 h0f4 h0f5 h0f8 h0f9 h0f17 h0f18 h0f19 h0f24 h0f25 h0f30 h0f31) (v := (-1)) hQ hx hb hr hlocks hS (Nat.le_of_ble_eq_true rfl) (Nat.le_of_ble_eq_true rfl) dX11_placeOf_71 (⟨(by have := li_m1; omega), hT⟩)
      · skip
        have c_16 := ni_nle c_16 rfl rfl
        refine lv_iconst (v := 1) hx hb dX11_placeOf_10 (by decide) ?_
        refine lv_istore_n (lv' := [(3, .int 1), (0, .ref h0), (1, .ref h1), (2, .int y14)]) hx hb dX11_placeOf_11 rfl hl (by decide) rfl (fun ls hl => ?_)
        refine lv_iconst (v := 0) hx hb dX11_placeOf_12 (by decide) ?_
        refine lv_istore (lv' := [(4, .int 0), (3, .int 1), (0, .ref h0), (1, .ref h1), (2, .int y14)]) hx hb dX11_placeOf_13 hl (by decide) rfl (fun ls hl => ?_)
        have lp15_31 : ∀ (n : Nat) (y29 : Int32) (y30 : Int32) (H : Heap) (locs : List Loc) (ls : Array Slot), (0 ≤ y29.toInt ∧ y29.toInt ≤ 9) → (0 ≤ y30.toInt ∧ y30.toInt ≤ 1) → ((-1) * y29.toInt + 9 + 1).toNat < n → TP D A [(h0, ob 8 [.int h0f0, .int h0f1, .int h0f2, .int h0f3, .int h0f4, .int h0f5, .ref h2, .ref h3, .int h0f8, .int h0f9, .ref h4, .ref h5, .ref h6, .ref h1, .ref h7, .ref h8, .ref h9, .int h0f17, .int h0f18, .int h0f19, .ref h10, .ref h11, .ref h12, .ref h13, .int h0f24, .int h0f25, .ref h14, .ref h15, .ref h16, .ref h17, .int h0f30, .int h0f31, .ref h18, .ref h19, .ref h20, .ref h21]), (h1, aJ (k 1) 9 anJ), (h10, aJ (k 1) 900 (l1P ))] H → va_S A s.heap H locs → lv_has ls 5 [(0, .ref h0), (1, .ref h1), (2, .int y14), (3, .int y30), (4, .int y29)] → W p l e Rm_cX11_placeOf_8624f s m args below meth c H locs 0 0 Q (F0 m 15 ls []) := by
          intro n
          induction n with
          | zero => intro y29 y30 H locs ls b_y29 b_y30 hm hT hS hl; exact absurd hm (Nat.not_lt_zero _)
          | succ n ih =>
            intro y29 y30 H locs ls b_y29 b_y30 hm hT hS hl
            have ih15_31 := ih
            clear ih
            refine lv_iload hx hb dX11_placeOf_15 (lv_at hl 4 rfl) ?_
            refine lv_bipush (v := 9) hx hb dX11_placeOf_17 (by decide) ?_
            refine lv_icmp_ge (tgt := 58) hx hb dX11_placeOf_19 (by decide) (fun c_32 => ?_) (fun c_32 => ?_)
            · skip
              have c_32 := ni_le c_32 li_9 rfl
              refine lv_iload_n hx hb dX11_placeOf_58 rfl (lv_at hl 3 rfl) ?_
              refine lv_if_eq (tgt := 64) hx hb dX11_placeOf_59 (by decide) (fun c_33 => ?_) (fun c_33 => ?_)
              · skip
                have c_33 := ni_eq c_33 rfl li_0
                obtain ⟨v34, e_v34⟩ : ∃ x : Int32, x = y14 + Int32.ofInt 1 := ⟨_, rfl⟩
                have f_v34 := e_v34.symm
                have e_v34 : v34.toInt = y14.toInt + 1 := ai_add e_v34 rfl (show (Int32.ofInt 1).toInt = 1 from (by decide +kernel)) (by omega)
                refine lv_iinc (v := v34) (lv' := [(2, .int v34), (0, .ref h0), (1, .ref h1), (3, .int y30), (4, .int y29)]) hx hb dX11_placeOf_64 hl (k := 2) rfl f_v34 (by decide) rfl (fun ls hl => ?_)
                refine lv_goto (tgt := 2) hx hb dX11_placeOf_67 (by decide) ?_
                exact ih2_15 v34 _ _ _ (by omega)  (by omega) hT hS (lv_sub hl [1, 2, 0] rfl)
              · skip
                have c_33 := ni_ne c_33 rfl li_0
                refine lv_iload_n hx hb dX11_placeOf_62 rfl (lv_at hl 2 rfl) ?_
                exact tz_retI (B := B_cX11_placeOf_8624f D k h0 h1 h10 h2 h3 h4 h5 h6 h7 h8 h9 h11 h12 h13 h14 h15 h16 h17 h18 h19 h20 h21 h0f0 h0f1 h0f2 h0f3 h0f4 h0f5 h0f8 h0f9 h0f17 h0f18 h0f19 h0f24 h0f25 h0f30 h0f31) (v := y14) hQ hx hb hr hlocks hS (Nat.le_of_ble_eq_true rfl) (Nat.le_of_ble_eq_true rfl) dX11_placeOf_63 (⟨(by omega), hT⟩)
            · skip
              have c_32 := ni_nle c_32 li_9 rfl
              refine lv_iload_n hx hb dX11_placeOf_22 rfl (lv_at hl 3 rfl) ?_
              refine lv_if_eq (tgt := 58) hx hb dX11_placeOf_23 (by decide) (fun c_35 => ?_) (fun c_35 => ?_)
              · skip
                have c_35 := ni_eq c_35 rfl li_0
                refine lv_iload_n hx hb dX11_placeOf_58 rfl (lv_at hl 3 rfl) ?_
                refine lv_if_eq (tgt := 64) hx hb dX11_placeOf_59 (by decide) (fun c_36 => ?_) (fun c_36 => ?_)
                · skip
                  have c_36 := ni_eq c_36 rfl li_0
                  obtain ⟨v37, e_v37⟩ : ∃ x : Int32, x = y14 + Int32.ofInt 1 := ⟨_, rfl⟩
                  have f_v37 := e_v37.symm
                  have e_v37 : v37.toInt = y14.toInt + 1 := ai_add e_v37 rfl (show (Int32.ofInt 1).toInt = 1 from (by decide +kernel)) (by omega)
                  refine lv_iinc (v := v37) (lv' := [(2, .int v37), (0, .ref h0), (1, .ref h1), (3, .int y30), (4, .int y29)]) hx hb dX11_placeOf_64 hl (k := 2) rfl f_v37 (by decide) rfl (fun ls hl => ?_)
                  refine lv_goto (tgt := 2) hx hb dX11_placeOf_67 (by decide) ?_
                  exact ih2_15 v37 _ _ _ (by omega)  (by omega) hT hS (lv_sub hl [1, 2, 0] rfl)
                · skip
                  have c_36 := ni_ne c_36 rfl li_0
                  exfalso; omega
              · skip
                have c_35 := ni_ne c_35 rfl li_0
                refine lv_aload_n hx hb dX11_placeOf_26 rfl (lv_at hl 0 rfl) ?_
                refine tz_get (ci := 8) (v := .ref h10) (C := RX11) (F := TX11) (N := 36) hx hb hU iX11 hown hK hT 0 rfl rfl 20 (by decide) w805 (fun _ h9 => h9) rfl dX11_placeOf_27 ?_
                refine lv_bipush (v := 9) hx hb dX11_placeOf_30 (by decide) ?_
                refine lv_iload_n hx hb dX11_placeOf_32 rfl (lv_at hl 2 rfl) ?_
                refine lv_imul hx hb dX11_placeOf_33 (lv_topi (fun v38 e_v38 => ?_))
                have e_v38 := ai_mul e_v38 li_9 rfl (by omega)
                refine lv_iload hx hb dX11_placeOf_34 (lv_at hl 4 rfl) ?_
                refine lv_iadd hx hb dX11_placeOf_36 (lv_topi (fun v39 e_v39 => ?_))
                have e_v39 := ai_add e_v39 rfl rfl (by omega)
                refine tz_lald hx hb hK hT 2 rfl (by omega) dX11_placeOf_37 (fun v40 e_v40 => ?_)
                clear e_v40
                refine lv_aload_n hx hb dX11_placeOf_38 rfl (lv_at hl 1 rfl) ?_
                refine lv_iload hx hb dX11_placeOf_39 (lv_at hl 4 rfl) ?_
                refine tz_lald hx hb hK hT 1 rfl (by omega) dX11_placeOf_41 (fun v41 e_v41 => ?_)
                clear e_v41
                refine W.lcmp hx hb dX11_placeOf_42 ?_
                refine lv_if_ne (tgt := 50) hx hb dX11_placeOf_43 (by decide) (fun c_42 => ?_) (fun c_42 => ?_)
                · skip
                  have c_42 := nl_ne c_42 rfl rfl
                  refine lv_iconst (v := 0) hx hb dX11_placeOf_50 (by decide) ?_
                  refine lv_istore_n (lv' := [(3, .int 0), (0, .ref h0), (1, .ref h1), (2, .int y14), (4, .int y29)]) hx hb dX11_placeOf_51 rfl hl (by decide) rfl (fun ls hl => ?_)
                  obtain ⟨v43, e_v43⟩ : ∃ x : Int32, x = y29 + Int32.ofInt 1 := ⟨_, rfl⟩
                  have f_v43 := e_v43.symm
                  have e_v43 : v43.toInt = y29.toInt + 1 := ai_add e_v43 rfl (show (Int32.ofInt 1).toInt = 1 from (by decide +kernel)) (by omega)
                  refine lv_iinc (v := v43) (lv' := [(4, .int v43), (3, .int 0), (0, .ref h0), (1, .ref h1), (2, .int y14)]) hx hb dX11_placeOf_52 hl (k := 4) rfl f_v43 (by decide) rfl (fun ls hl => ?_)
                  refine lv_goto (tgt := 15) hx hb dX11_placeOf_55 (by decide) ?_
                  exact ih15_31 v43 (0) _ _ _ (by have := li_0; omega) (by have := li_0; omega)  (by have := li_0; omega) hT hS (lv_sub hl [2, 3, 4, 1, 0] rfl)
                · skip
                  have c_42 := nl_eq c_42 rfl rfl
                  refine lv_iconst (v := 1) hx hb dX11_placeOf_46 (by decide) ?_
                  refine lv_goto (tgt := 51) hx hb dX11_placeOf_47 (by decide) ?_
                  refine lv_istore_n (lv' := [(3, .int 1), (0, .ref h0), (1, .ref h1), (2, .int y14), (4, .int y29)]) hx hb dX11_placeOf_51 rfl hl (by decide) rfl (fun ls hl => ?_)
                  obtain ⟨v44, e_v44⟩ : ∃ x : Int32, x = y29 + Int32.ofInt 1 := ⟨_, rfl⟩
                  have f_v44 := e_v44.symm
                  have e_v44 : v44.toInt = y29.toInt + 1 := ai_add e_v44 rfl (show (Int32.ofInt 1).toInt = 1 from (by decide +kernel)) (by omega)
                  refine lv_iinc (v := v44) (lv' := [(4, .int v44), (3, .int 1), (0, .ref h0), (1, .ref h1), (2, .int y14)]) hx hb dX11_placeOf_52 hl (k := 4) rfl f_v44 (by decide) rfl (fun ls hl => ?_)
                  refine lv_goto (tgt := 15) hx hb dX11_placeOf_55 (by decide) ?_
                  exact ih15_31 v44 (1) _ _ _ (by have := li_1; omega) (by have := li_1; omega)  (by have := li_1; omega) hT hS (lv_sub hl [2, 3, 4, 1, 0] rfl)
        exact lp15_31 (((-1) * (0 : Int32).toInt + 9 + 1).toNat + 1) (0) (1) _ _ _ (by have := li_0; have := li_1; omega) (by have := li_0; have := li_1; omega)  (Nat.lt_succ_self _) hT hS (lv_sub hl [2, 3, 4, 1, 0] rfl)
  exact lp2_15 ((h0f24.toInt + (-1) * (0 : Int32).toInt + 1).toNat + 1) (0) _ _ _ (by have := li_0; omega)  (Nat.lt_succ_self _) hT hS (lv_sub hl [1, 2, 0] rfl)
abbrev Rm_cX11_isGreat_b90c4 : Room := { frames := 1, cells := 0, slots := 0, locals := 25 }
abbrev B_cX11_isGreat_b90c4 (D : va_G) (k : Nat → ClassId) (h0 h1 h2 h3 h4 h5 h6 h7 h8 h9 h10 h11 h12 h13 h14 h15 h16 h17 h18 h19 h20 h21 : Nat) (h0f0 : Int32) (h0f1 : Int32) (h0f2 : Int32) (h0f3 : Int32) (h0f4 : Int32) (h0f5 : Int32) (h0f8 : Int32) (h0f9 : Int32) (h0f17 : Int32) (h0f18 : Int32) (h0f19 : Int32) (h0f24 : Int32) (h0f25 : Int32) (h0f30 : Int32) (h0f31 : Int32) (A : Nat → Prop) (r : Int32) (H : Heap) : Prop := (∃ o0 : Int32, ∃ o1 : Int32, (0 ≤ o0.toInt ∧ o0.toInt ≤ 0) ∧ (9 ≤ o1.toInt ∧ o1.toInt ≤ 9) ∧ h0f8.toInt ≤ h0f3.toInt ∧ h0f9.toInt ≤ h0f24.toInt ∧ 9 ≤ o1.toInt ∧ o0.toInt = 0 ∧ o0 = r ∧ TP D A [(h0, ob 8 [.int h0f0, .int h0f1, .int h0f2, .int h0f3, .int h0f4, .int h0f5, .ref h2, .ref h3, .int h0f8, .int h0f9, .ref h4, .ref h5, .ref h6, .ref h1, .ref h7, .ref h8, .ref h9, .int h0f17, .int h0f18, .int h0f19, .ref h10, .ref h11, .ref h12, .ref h13, .int h0f24, .int h0f25, .ref h14, .ref h15, .ref h16, .ref h17, .int h0f30, .int h0f31, .ref h18, .ref h19, .ref h20, .ref h21]), (h1, aJ (k 1) 9 (b9P ))] H) ∨ (∃ o0 : Int32, ∃ o1 : Int32, (1 ≤ o0.toInt ∧ o0.toInt ≤ 1) ∧ (9 ≤ o1.toInt ∧ o1.toInt ≤ 9) ∧ h0f8.toInt ≤ h0f3.toInt ∧ h0f9.toInt ≤ h0f24.toInt ∧ 9 ≤ o1.toInt ∧ o0.toInt = 1 ∧ o0 = r ∧ TP D A [(h0, ob 8 [.int h0f0, .int h0f1, .int h0f2, .int h0f3, .int h0f4, .int h0f5, .ref h2, .ref h3, .int h0f8, .int h0f9, .ref h4, .ref h5, .ref h6, .ref h1, .ref h7, .ref h8, .ref h9, .int h0f17, .int h0f18, .int h0f19, .ref h10, .ref h11, .ref h12, .ref h13, .int h0f24, .int h0f25, .ref h14, .ref h15, .ref h16, .ref h17, .int h0f30, .int h0f31, .ref h18, .ref h19, .ref h20, .ref h21]), (h1, aJ (k 1) 9 anJ)] H)
set_option maxHeartbeats 4000000 in
set_option maxRecDepth 100000 in
theorem cX11_isGreat_b90c4 (l : Launch) (D : va_G) (k : Nat → ClassId) (sz : Nat) (h0 h1 h2 h3 h4 h5 h6 h7 h8 h9 h10 h11 h12 h13 h14 h15 h16 h17 h18 h19 h20 h21 : Nat) (h0f0 : Int32) (h0f1 : Int32) (h0f2 : Int32) (h0f3 : Int32) (h0f4 : Int32) (h0f5 : Int32) (h0f8 : Int32) (h0f9 : Int32) (h0f17 : Int32) (h0f18 : Int32) (h0f19 : Int32) (h0f24 : Int32) (h0f25 : Int32) (h0f30 : Int32) (h0f31 : Int32) (b_h0f0 : 1 ≤ h0f0.toInt ∧ h0f0.toInt ≤ 3) (b_h0f1 : 1 ≤ h0f1.toInt ∧ h0f1.toInt ≤ 4) (b_h0f3 : 0 ≤ h0f3.toInt ∧ h0f3.toInt ≤ 3) (b_h0f4 : 0 ≤ h0f4.toInt ∧ h0f4.toInt ≤ 4) (b_h0f8 : 0 ≤ h0f8.toInt ∧ h0f8.toInt ≤ 1) (b_h0f9 : 0 ≤ h0f9.toInt ∧ h0f9.toInt ≤ 0) (b_h0f17 : 0 ≤ h0f17.toInt ∧ h0f17.toInt ≤ 120) (b_h0f18 : 0 ≤ h0f18.toInt ∧ h0f18.toInt ≤ 120) (b_h0f19 : 0 ≤ h0f19.toInt ∧ h0f19.toInt ≤ 4) (b_h0f24 : 1 ≤ h0f24.toInt ∧ h0f24.toInt ≤ 99) (b_h0f25 : 0 ≤ h0f25.toInt ∧ h0f25.toInt ≤ 1) (b_h0f30 : 0 ≤ h0f30.toInt ∧ h0f30.toInt ≤ 60) (b_h0f31 : 0 ≤ h0f31.toInt ∧ h0f31.toInt ≤ 1) (i_0 : h0f8.toInt ≤ h0f3.toInt) (i_1 : h0f9.toInt ≤ h0f24.toInt) : Met l yX11_isGreat (Cond.code yX11_isGreat cX11_isGreat 4 (some .boolean) :: uw) Rm_cX11_isGreat_b90c4 (pT D k sz [.ref h0, .ref h1] [(h0, ob 8 [.int h0f0, .int h0f1, .int h0f2, .int h0f3, .int h0f4, .int h0f5, .ref h2, .ref h3, .int h0f8, .int h0f9, .ref h4, .ref h5, .ref h6, .ref h1, .ref h7, .ref h8, .ref h9, .int h0f17, .int h0f18, .int h0f19, .ref h10, .ref h11, .ref h12, .ref h13, .int h0f24, .int h0f25, .ref h14, .ref h15, .ref h16, .ref h17, .int h0f30, .int h0f31, .ref h18, .ref h19, .ref h20, .ref h21]), (h1, aJ (k 1) 9 anJ)]) (qI (B_cX11_isGreat_b90c4 D k h0 h1 h2 h3 h4 h5 h6 h7 h8 h9 h10 h11 h12 h13 h14 h15 h16 h17 h18 h19 h20 h21 h0f0 h0f1 h0f2 h0f3 h0f4 h0f5 h0f8 h0f9 h0f17 h0f18 h0f19 h0f24 h0f25 h0f30 h0f31 (zA [h0, h1] sz)) (zA [h0, h1] sz)) 0 0 (zA [h0, h1] sz) := by
  refine tz_begin (as := [h0, h1]) (Qc := fun A => qI (B_cX11_isGreat_b90c4 D k h0 h1 h2 h3 h4 h5 h6 h7 h8 h9 h10 h11 h12 h13 h14 h15 h16 h17 h18 h19 h20 h21 h0f0 h0f1 h0f2 h0f3 h0f4 h0f5 h0f8 h0f9 h0f17 h0f18 h0f19 h0f24 h0f25 h0f30 h0f31 A) A) (by decide +kernel) rfl (Nat.le_of_ble_eq_true rfl) ?_
  intro p e s m args below meth c ls A Q hx hb hr hml hown hlocks hin hU hK hT hS hA hl hQ
  have hl : lv_has ls 4 [(0, .ref h0), (1, .ref h1)] := hl
  have hT : TP D A [(h0, ob 8 [.int h0f0, .int h0f1, .int h0f2, .int h0f3, .int h0f4, .int h0f5, .ref h2, .ref h3, .int h0f8, .int h0f9, .ref h4, .ref h5, .ref h6, .ref h1, .ref h7, .ref h8, .ref h9, .int h0f17, .int h0f18, .int h0f19, .ref h10, .ref h11, .ref h12, .ref h13, .int h0f24, .int h0f25, .ref h14, .ref h15, .ref h16, .ref h17, .int h0f30, .int h0f31, .ref h18, .ref h19, .ref h20, .ref h21]), (h1, aJ (k 1) 9 anJ)] s.heap := hT
  refine lv_iconst (v := 0) hx hb dX11_isGreat_0 (by decide) ?_
  refine lv_istore_n (lv' := [(2, .int 0), (0, .ref h0), (1, .ref h1)]) hx hb dX11_isGreat_1 rfl hl (by decide) rfl (fun ls hl => ?_)
  refine lv_iconst (v := 0) hx hb dX11_isGreat_2 (by decide) ?_
  refine lv_istore_n (lv' := [(3, .int 0), (2, .int 0), (0, .ref h0), (1, .ref h1)]) hx hb dX11_isGreat_3 rfl hl (by decide) rfl (fun ls hl => ?_)
  have hT := hT.wk (q := 1) (P' := aJ (k 1) 9 (bkP ((0 : Int32).toInt) ((0 : Int32).toInt))) rfl (cv_bk_0 (by have := li_0; omega))
  have hT : TP D A [(h0, ob 8 [.int h0f0, .int h0f1, .int h0f2, .int h0f3, .int h0f4, .int h0f5, .ref h2, .ref h3, .int h0f8, .int h0f9, .ref h4, .ref h5, .ref h6, .ref h1, .ref h7, .ref h8, .ref h9, .int h0f17, .int h0f18, .int h0f19, .ref h10, .ref h11, .ref h12, .ref h13, .int h0f24, .int h0f25, .ref h14, .ref h15, .ref h16, .ref h17, .int h0f30, .int h0f31, .ref h18, .ref h19, .ref h20, .ref h21]), (h1, aJ (k 1) 9 (bkP ((0 : Int32).toInt) ((0 : Int32).toInt)))] _ := hT
  have lp4_15 : ∀ (n : Nat) (y13 : Int32) (y14 : Int32) (H : Heap) (locs : List Loc) (ls : Array Slot), (0 ≤ y13.toInt ∧ y13.toInt ≤ 9) → (0 ≤ y14.toInt ∧ y14.toInt ≤ 1) → ((-1) * y13.toInt + 9 + 1).toNat < n → TP D A [(h0, ob 8 [.int h0f0, .int h0f1, .int h0f2, .int h0f3, .int h0f4, .int h0f5, .ref h2, .ref h3, .int h0f8, .int h0f9, .ref h4, .ref h5, .ref h6, .ref h1, .ref h7, .ref h8, .ref h9, .int h0f17, .int h0f18, .int h0f19, .ref h10, .ref h11, .ref h12, .ref h13, .int h0f24, .int h0f25, .ref h14, .ref h15, .ref h16, .ref h17, .int h0f30, .int h0f31, .ref h18, .ref h19, .ref h20, .ref h21]), (h1, aJ (k 1) 9 (bkP (y14.toInt) (y13.toInt)))] H → va_S A s.heap H locs → lv_has ls 4 [(1, .ref h1), (2, .int y14), (3, .int y13)] → W p l e Rm_cX11_isGreat_b90c4 s m args below meth c H locs 0 0 Q (F0 m 4 ls []) := by
    intro n
    induction n with
    | zero => intro y13 y14 H locs ls b_y13 b_y14 hm hT hS hl; exact absurd hm (Nat.not_lt_zero _)
    | succ n ih =>
      intro y13 y14 H locs ls b_y13 b_y14 hm hT hS hl
      have ih4_15 := ih
      clear ih
      refine lv_iload_n hx hb dX11_isGreat_4 rfl (lv_at hl 2 rfl) ?_
      refine lv_bipush (v := 9) hx hb dX11_isGreat_5 (by decide) ?_
      refine lv_icmp_ge (tgt := 41) hx hb dX11_isGreat_7 (by decide) (fun c_16 => ?_) (fun c_16 => ?_)
      · skip
        have c_16 := ni_le c_16 li_9 rfl
        refine lv_iload_n hx hb dX11_isGreat_41 rfl (lv_at hl 1 rfl) ?_
        rcases (show y14.toInt = 0 ∨ y14.toInt = 1 by omega) with hq17 | hq17
        · skip
          have hT := hT.wk (q := 1) (P' := aJ (k 1) 9 (b9P )) rfl (cv_bk_b9 (by omega))
          have hT : TP D A [(h0, ob 8 [.int h0f0, .int h0f1, .int h0f2, .int h0f3, .int h0f4, .int h0f5, .ref h2, .ref h3, .int h0f8, .int h0f9, .ref h4, .ref h5, .ref h6, .ref h1, .ref h7, .ref h8, .ref h9, .int h0f17, .int h0f18, .int h0f19, .ref h10, .ref h11, .ref h12, .ref h13, .int h0f24, .int h0f25, .ref h14, .ref h15, .ref h16, .ref h17, .int h0f30, .int h0f31, .ref h18, .ref h19, .ref h20, .ref h21]), (h1, aJ (k 1) 9 (b9P ))] _ := hT
          exact tz_retZ (B := B_cX11_isGreat_b90c4 D k h0 h1 h2 h3 h4 h5 h6 h7 h8 h9 h10 h11 h12 h13 h14 h15 h16 h17 h18 h19 h20 h21 h0f0 h0f1 h0f2 h0f3 h0f4 h0f5 h0f8 h0f9 h0f17 h0f18 h0f19 h0f24 h0f25 h0f30 h0f31) (v := y14) hQ hx hb hr hlocks hS (Nat.le_of_ble_eq_true rfl) (Nat.le_of_ble_eq_true rfl) dX11_isGreat_42 (by omega) (Or.inl ⟨y14, y13, (by omega), (by omega), (by omega), (by omega), (by omega), (by omega), rfl, hT⟩)
        · skip
          have hT := hT.wk (q := 1) (P' := aJ (k 1) 9 anJ) rfl (an_J)
          have hT : TP D A [(h0, ob 8 [.int h0f0, .int h0f1, .int h0f2, .int h0f3, .int h0f4, .int h0f5, .ref h2, .ref h3, .int h0f8, .int h0f9, .ref h4, .ref h5, .ref h6, .ref h1, .ref h7, .ref h8, .ref h9, .int h0f17, .int h0f18, .int h0f19, .ref h10, .ref h11, .ref h12, .ref h13, .int h0f24, .int h0f25, .ref h14, .ref h15, .ref h16, .ref h17, .int h0f30, .int h0f31, .ref h18, .ref h19, .ref h20, .ref h21]), (h1, aJ (k 1) 9 anJ)] _ := hT
          exact tz_retZ (B := B_cX11_isGreat_b90c4 D k h0 h1 h2 h3 h4 h5 h6 h7 h8 h9 h10 h11 h12 h13 h14 h15 h16 h17 h18 h19 h20 h21 h0f0 h0f1 h0f2 h0f3 h0f4 h0f5 h0f8 h0f9 h0f17 h0f18 h0f19 h0f24 h0f25 h0f30 h0f31) (v := y14) hQ hx hb hr hlocks hS (Nat.le_of_ble_eq_true rfl) (Nat.le_of_ble_eq_true rfl) dX11_isGreat_42 (by omega) (Or.inr (⟨y14, y13, (by omega), (by omega), (by omega), (by omega), (by omega), (by omega), rfl, hT⟩))
      · skip
        have c_16 := ni_nle c_16 li_9 rfl
        refine lv_iload_n hx hb dX11_isGreat_10 rfl (lv_at hl 1 rfl) ?_
        refine lv_if_ne (tgt := 29) hx hb dX11_isGreat_11 (by decide) (fun c_18 => ?_) (fun c_18 => ?_)
        · skip
          have c_18 := ni_ne c_18 rfl li_0
          refine lv_iconst (v := 1) hx hb dX11_isGreat_29 (by decide) ?_
          refine lv_goto (tgt := 34) hx hb dX11_isGreat_30 (by decide) ?_
          refine lv_istore_n (lv' := [(2, .int 1), (1, .ref h1), (3, .int y13)]) hx hb dX11_isGreat_34 rfl hl (by decide) rfl (fun ls hl => ?_)
          obtain ⟨v19, e_v19⟩ : ∃ x : Int32, x = y13 + Int32.ofInt 1 := ⟨_, rfl⟩
          have f_v19 := e_v19.symm
          have e_v19 : v19.toInt = y13.toInt + 1 := ai_add e_v19 rfl (show (Int32.ofInt 1).toInt = 1 from (by decide +kernel)) (by omega)
          refine lv_iinc (v := v19) (lv' := [(3, .int v19), (2, .int 1), (1, .ref h1)]) hx hb dX11_isGreat_35 hl (k := 2) rfl f_v19 (by decide) rfl (fun ls hl => ?_)
          refine lv_goto (tgt := 4) hx hb dX11_isGreat_38 (by decide) ?_
          have hT := hT.wk (q := 1) (P' := aJ (k 1) 9 (bkP ((1 : Int32).toInt) (v19.toInt))) rfl (cv_bk_bk (by have := li_1; omega))
          have hT : TP D A [(h0, ob 8 [.int h0f0, .int h0f1, .int h0f2, .int h0f3, .int h0f4, .int h0f5, .ref h2, .ref h3, .int h0f8, .int h0f9, .ref h4, .ref h5, .ref h6, .ref h1, .ref h7, .ref h8, .ref h9, .int h0f17, .int h0f18, .int h0f19, .ref h10, .ref h11, .ref h12, .ref h13, .int h0f24, .int h0f25, .ref h14, .ref h15, .ref h16, .ref h17, .int h0f30, .int h0f31, .ref h18, .ref h19, .ref h20, .ref h21]), (h1, aJ (k 1) 9 (bkP ((1 : Int32).toInt) (v19.toInt)))] _ := hT
          exact ih4_15 v19 (1) _ _ _ (by have := li_1; omega) (by have := li_1; omega)  (by have := li_1; omega) hT hS (lv_sub hl [2, 1, 0] rfl)
        · skip
          have c_18 := ni_eq c_18 rfl li_0
          refine lv_aload_n hx hb dX11_isGreat_14 rfl (lv_at hl 0 rfl) ?_
          refine lv_iload_n hx hb dX11_isGreat_15 rfl (lv_at hl 2 rfl) ?_
          refine tz_laldS hx hb hK hT 1 rfl (by omega) dX11_isGreat_16 (fun v20 e_v20 hT => ?_)
          have hT : TP D A [(h0, ob 8 [.int h0f0, .int h0f1, .int h0f2, .int h0f3, .int h0f4, .int h0f5, .ref h2, .ref h3, .int h0f8, .int h0f9, .ref h4, .ref h5, .ref h6, .ref h1, .ref h7, .ref h8, .ref h9, .int h0f17, .int h0f18, .int h0f19, .ref h10, .ref h11, .ref h12, .ref h13, .int h0f24, .int h0f25, .ref h14, .ref h15, .ref h16, .ref h17, .int h0f30, .int h0f31, .ref h18, .ref h19, .ref h20, .ref h21]), (h1, aJ (k 1) 9 (rdJ ((bkP (y14.toInt) (y13.toInt))) (y13) (v20)))] _ := hT
          clear e_v20
          refine lv_ldc2 hx hb hown (hU _ w981) dX11_isGreat_17 ?_
          refine lv_ldc2 hx hb hown (hU _ w982) dX11_isGreat_20 ?_
          have q_q22 := ll_m1000000000
          have q_q23 := ll_1000000000
          refine tcI (Tc := []) (Tr := [(h0, ob 8 [.int h0f0, .int h0f1, .int h0f2, .int h0f3, .int h0f4, .int h0f5, .ref h2, .ref h3, .int h0f8, .int h0f9, .ref h4, .ref h5, .ref h6, .ref h1, .ref h7, .ref h8, .ref h9, .int h0f17, .int h0f18, .int h0f19, .ref h10, .ref h11, .ref h12, .ref h13, .int h0f24, .int h0f25, .ref h14, .ref h15, .ref h16, .ref h17, .int h0f30, .int h0f31, .ref h18, .ref h19, .ref h20, .ref h21]), (h1, aJ (k 1) 9 (rdJ ((bkP (y14.toInt) (y13.toInt))) (y13) (v20)))]) (as := []) (zcS (As := [.long v20, .long (-1000000000), .long 1000000000]) (rest := []) (Tc := []) hx hb hml hown hU hK hT [] rfl (by decide) (cX11_in_ca3b9 l D k _ v20 ((-1000000000)) (1000000000) (by have := ll_m1000000000; omega) (by have := ll_1000000000; omega)) w901 w899 w900 w72 hdX11_in ⟨rfl, rfl⟩ ⟨Nat.le_of_ble_eq_true rfl, Nat.le_of_ble_eq_true rfl⟩ rfl hl.1 (Nat.le_of_ble_eq_true rfl) dX11_isGreat_23 ⟨Nat.le_of_ble_eq_true rfl, Nat.le_of_ble_eq_true rfl⟩) hT hS hA [] [0, 1] rfl rfl rfl (by decide) (by decide) (fun r21 H locs hB J hS => ?_)
          rcases hB with ⟨rfl, hT1⟩ | ⟨c_24, c_25, rfl, hT1⟩
          · skip
            have hT := J _ hT1
            have hT : TP D A [(h0, ob 8 [.int h0f0, .int h0f1, .int h0f2, .int h0f3, .int h0f4, .int h0f5, .ref h2, .ref h3, .int h0f8, .int h0f9, .ref h4, .ref h5, .ref h6, .ref h1, .ref h7, .ref h8, .ref h9, .int h0f17, .int h0f18, .int h0f19, .ref h10, .ref h11, .ref h12, .ref h13, .int h0f24, .int h0f25, .ref h14, .ref h15, .ref h16, .ref h17, .int h0f30, .int h0f31, .ref h18, .ref h19, .ref h20, .ref h21]), (h1, aJ (k 1) 9 (rdJ ((bkP (y14.toInt) (y13.toInt))) (y13) (v20)))] _ := hT
            refine lv_if_ne (tgt := 33) hx hb dX11_isGreat_26 (by decide) (fun cc => absurd (by decide +kernel) cc) (fun _ => ?_)
            refine lv_iconst (v := 1) hx hb dX11_isGreat_29 (by decide) ?_
            refine lv_goto (tgt := 34) hx hb dX11_isGreat_30 (by decide) ?_
            refine lv_istore_n (lv' := [(2, .int 1), (1, .ref h1), (3, .int y13)]) hx hb dX11_isGreat_34 rfl hl (by decide) rfl (fun ls hl => ?_)
            obtain ⟨v26, e_v26⟩ : ∃ x : Int32, x = y13 + Int32.ofInt 1 := ⟨_, rfl⟩
            have f_v26 := e_v26.symm
            have e_v26 : v26.toInt = y13.toInt + 1 := ai_add e_v26 rfl (show (Int32.ofInt 1).toInt = 1 from (by decide +kernel)) (by omega)
            refine lv_iinc (v := v26) (lv' := [(3, .int v26), (2, .int 1), (1, .ref h1)]) hx hb dX11_isGreat_35 hl (k := 2) rfl f_v26 (by decide) rfl (fun ls hl => ?_)
            refine lv_goto (tgt := 4) hx hb dX11_isGreat_38 (by decide) ?_
            have hT := hT.wk (q := 1) (P' := aJ (k 1) 9 (bkP ((1 : Int32).toInt) (v26.toInt))) rfl (cv_bk_rd (by have := li_1; omega))
            have hT : TP D A [(h0, ob 8 [.int h0f0, .int h0f1, .int h0f2, .int h0f3, .int h0f4, .int h0f5, .ref h2, .ref h3, .int h0f8, .int h0f9, .ref h4, .ref h5, .ref h6, .ref h1, .ref h7, .ref h8, .ref h9, .int h0f17, .int h0f18, .int h0f19, .ref h10, .ref h11, .ref h12, .ref h13, .int h0f24, .int h0f25, .ref h14, .ref h15, .ref h16, .ref h17, .int h0f30, .int h0f31, .ref h18, .ref h19, .ref h20, .ref h21]), (h1, aJ (k 1) 9 (bkP ((1 : Int32).toInt) (v26.toInt)))] _ := hT
            exact ih4_15 v26 (1) _ _ _ (by have := li_1; omega) (by have := li_1; omega)  (by have := li_1; omega) hT hS (lv_sub hl [2, 1, 0] rfl)
          · skip
            have hT := J _ hT1
            have hT : TP D A [(h0, ob 8 [.int h0f0, .int h0f1, .int h0f2, .int h0f3, .int h0f4, .int h0f5, .ref h2, .ref h3, .int h0f8, .int h0f9, .ref h4, .ref h5, .ref h6, .ref h1, .ref h7, .ref h8, .ref h9, .int h0f17, .int h0f18, .int h0f19, .ref h10, .ref h11, .ref h12, .ref h13, .int h0f24, .int h0f25, .ref h14, .ref h15, .ref h16, .ref h17, .int h0f30, .int h0f31, .ref h18, .ref h19, .ref h20, .ref h21]), (h1, aJ (k 1) 9 (rdJ ((bkP (y14.toInt) (y13.toInt))) (y13) (v20)))] _ := hT
            refine lv_if_ne (tgt := 33) hx hb dX11_isGreat_26 (by decide) (fun _ => ?_) (fun cc => absurd cc (by decide +kernel))
            refine lv_iconst (v := 0) hx hb dX11_isGreat_33 (by decide) ?_
            refine lv_istore_n (lv' := [(2, .int 0), (1, .ref h1), (3, .int y13)]) hx hb dX11_isGreat_34 rfl hl (by decide) rfl (fun ls hl => ?_)
            obtain ⟨v27, e_v27⟩ : ∃ x : Int32, x = y13 + Int32.ofInt 1 := ⟨_, rfl⟩
            have f_v27 := e_v27.symm
            have e_v27 : v27.toInt = y13.toInt + 1 := ai_add e_v27 rfl (show (Int32.ofInt 1).toInt = 1 from (by decide +kernel)) (by omega)
            refine lv_iinc (v := v27) (lv' := [(3, .int v27), (2, .int 0), (1, .ref h1)]) hx hb dX11_isGreat_35 hl (k := 2) rfl f_v27 (by decide) rfl (fun ls hl => ?_)
            refine lv_goto (tgt := 4) hx hb dX11_isGreat_38 (by decide) ?_
            have hT := hT.wk (q := 1) (P' := aJ (k 1) 9 (bkP ((0 : Int32).toInt) (v27.toInt))) rfl (cv_bk_rd (by have := li_0; omega))
            have hT : TP D A [(h0, ob 8 [.int h0f0, .int h0f1, .int h0f2, .int h0f3, .int h0f4, .int h0f5, .ref h2, .ref h3, .int h0f8, .int h0f9, .ref h4, .ref h5, .ref h6, .ref h1, .ref h7, .ref h8, .ref h9, .int h0f17, .int h0f18, .int h0f19, .ref h10, .ref h11, .ref h12, .ref h13, .int h0f24, .int h0f25, .ref h14, .ref h15, .ref h16, .ref h17, .int h0f30, .int h0f31, .ref h18, .ref h19, .ref h20, .ref h21]), (h1, aJ (k 1) 9 (bkP ((0 : Int32).toInt) (v27.toInt)))] _ := hT
            exact ih4_15 v27 (0) _ _ _ (by have := li_0; omega) (by have := li_0; omega)  (by have := li_0; omega) hT hS (lv_sub hl [2, 1, 0] rfl)
  exact lp4_15 (((-1) * (0 : Int32).toInt + 9 + 1).toNat + 1) (0) (0) _ _ _ (by have := li_0; omega) (by have := li_0; omega)  (Nat.lt_succ_self _) hT hS (lv_sub hl [3, 1, 0] rfl)
abbrev Rm_cX11_lists_5410c : Room := { frames := 0, cells := 0, slots := 0, locals := 0 }
abbrev B_cX11_lists_5410c (D : va_G) (k : Nat → ClassId) (h0 h1 h10 h11 h12 h13 h2 h3 h4 h5 h6 h7 h8 h9 h14 h15 h16 h17 h18 h19 h20 h21 : Nat) (x2 : Int32) (x3 : Int32) (h0f0 : Int32) (h0f1 : Int32) (h0f2 : Int32) (h0f3 : Int32) (h0f4 : Int32) (h0f5 : Int32) (h0f8 : Int32) (h0f9 : Int32) (h0f17 : Int32) (h0f18 : Int32) (h0f19 : Int32) (h0f24 : Int32) (h0f25 : Int32) (h0f30 : Int32) (h0f31 : Int32) (A : Nat → Prop) (H : Heap) : Prop := ∃ o0 : Int32, (2 ≤ o0.toInt ∧ o0.toInt ≤ 100) ∧ TP D A [(h0, ob 8 [.int h0f0, .int h0f1, .int h0f2, .int h0f3, .int h0f4, .int h0f5, .ref h2, .ref h3, .int h0f8, .int h0f9, .ref h4, .ref h5, .ref h6, .ref h1, .ref h7, .ref h8, .ref h9, .int h0f17, .int h0f18, .int h0f19, .ref h10, .ref h11, .ref h12, .ref h13, .int o0, .int h0f25, .ref h14, .ref h15, .ref h16, .ref h17, .int h0f30, .int h0f31, .ref h18, .ref h19, .ref h20, .ref h21]), (h1, aJ (k 1) 9 (b9P )), (h10, aJ (k 1) 900 (l1P )), (h11, aI (k 0) 100 anI), (h12, aI (k 0) 100 anI), (h13, aI (k 0) 100 anI)] H
set_option maxHeartbeats 4000000 in
set_option maxRecDepth 100000 in
theorem cX11_lists_5410c (l : Launch) (D : va_G) (k : Nat → ClassId) (sz : Nat) (h0 h1 h10 h11 h12 h13 h2 h3 h4 h5 h6 h7 h8 h9 h14 h15 h16 h17 h18 h19 h20 h21 : Nat) (x2 : Int32) (x3 : Int32) (h0f0 : Int32) (h0f1 : Int32) (h0f2 : Int32) (h0f3 : Int32) (h0f4 : Int32) (h0f5 : Int32) (h0f8 : Int32) (h0f9 : Int32) (h0f17 : Int32) (h0f18 : Int32) (h0f19 : Int32) (h0f24 : Int32) (h0f25 : Int32) (h0f30 : Int32) (h0f31 : Int32) (b_x2 : 0 ≤ x2.toInt ∧ x2.toInt ≤ 99) (b_x3 : 0 ≤ x3.toInt ∧ x3.toInt ≤ 3) (b_h0f0 : 1 ≤ h0f0.toInt ∧ h0f0.toInt ≤ 3) (b_h0f1 : 1 ≤ h0f1.toInt ∧ h0f1.toInt ≤ 4) (b_h0f3 : 0 ≤ h0f3.toInt ∧ h0f3.toInt ≤ 3) (b_h0f4 : 0 ≤ h0f4.toInt ∧ h0f4.toInt ≤ 4) (b_h0f8 : 0 ≤ h0f8.toInt ∧ h0f8.toInt ≤ 1) (b_h0f9 : 0 ≤ h0f9.toInt ∧ h0f9.toInt ≤ 0) (b_h0f17 : 0 ≤ h0f17.toInt ∧ h0f17.toInt ≤ 120) (b_h0f18 : 0 ≤ h0f18.toInt ∧ h0f18.toInt ≤ 120) (b_h0f19 : 0 ≤ h0f19.toInt ∧ h0f19.toInt ≤ 4) (b_h0f24 : 1 ≤ h0f24.toInt ∧ h0f24.toInt ≤ 99) (b_h0f25 : 0 ≤ h0f25.toInt ∧ h0f25.toInt ≤ 1) (b_h0f30 : 0 ≤ h0f30.toInt ∧ h0f30.toInt ≤ 60) (b_h0f31 : 0 ≤ h0f31.toInt ∧ h0f31.toInt ≤ 1) (i_0 : h0f8.toInt ≤ h0f3.toInt) (i_1 : h0f9.toInt ≤ h0f24.toInt) : Met l yX11_lists (Cond.code yX11_lists cX11_lists 5 none :: uw) Rm_cX11_lists_5410c (pT D k sz [.ref h0, .ref h1, .int x2, .int x3] [(h0, ob 8 [.int h0f0, .int h0f1, .int h0f2, .int h0f3, .int h0f4, .int h0f5, .ref h2, .ref h3, .int h0f8, .int h0f9, .ref h4, .ref h5, .ref h6, .ref h1, .ref h7, .ref h8, .ref h9, .int h0f17, .int h0f18, .int h0f19, .ref h10, .ref h11, .ref h12, .ref h13, .int h0f24, .int h0f25, .ref h14, .ref h15, .ref h16, .ref h17, .int h0f30, .int h0f31, .ref h18, .ref h19, .ref h20, .ref h21]), (h1, aJ (k 1) 9 (b9P )), (h10, aJ (k 1) 900 (l1P )), (h11, aI (k 0) 100 anI), (h12, aI (k 0) 100 anI), (h13, aI (k 0) 100 anI)]) (qV (B_cX11_lists_5410c D k h0 h1 h10 h11 h12 h13 h2 h3 h4 h5 h6 h7 h8 h9 h14 h15 h16 h17 h18 h19 h20 h21 x2 x3 h0f0 h0f1 h0f2 h0f3 h0f4 h0f5 h0f8 h0f9 h0f17 h0f18 h0f19 h0f24 h0f25 h0f30 h0f31 (zA [h0, h1, h10, h11, h12, h13] sz)) (zA [h0, h1, h10, h11, h12, h13] sz)) 0 0 (zA [h0, h1, h10, h11, h12, h13] sz) := by
  refine tz_begin (as := [h0, h1, h10, h11, h12, h13]) (Qc := fun A => qV (B_cX11_lists_5410c D k h0 h1 h10 h11 h12 h13 h2 h3 h4 h5 h6 h7 h8 h9 h14 h15 h16 h17 h18 h19 h20 h21 x2 x3 h0f0 h0f1 h0f2 h0f3 h0f4 h0f5 h0f8 h0f9 h0f17 h0f18 h0f19 h0f24 h0f25 h0f30 h0f31 A) A) (by decide +kernel) rfl (Nat.le_of_ble_eq_true rfl) ?_
  intro p e s m args below meth c ls A Q hx hb hr hml hown hlocks hin hU hK hT hS hA hl hQ
  have hl : lv_has ls 5 [(0, .ref h0), (1, .ref h1), (2, .int x2), (3, .int x3)] := hl
  have hT : TP D A [(h0, ob 8 [.int h0f0, .int h0f1, .int h0f2, .int h0f3, .int h0f4, .int h0f5, .ref h2, .ref h3, .int h0f8, .int h0f9, .ref h4, .ref h5, .ref h6, .ref h1, .ref h7, .ref h8, .ref h9, .int h0f17, .int h0f18, .int h0f19, .ref h10, .ref h11, .ref h12, .ref h13, .int h0f24, .int h0f25, .ref h14, .ref h15, .ref h16, .ref h17, .int h0f30, .int h0f31, .ref h18, .ref h19, .ref h20, .ref h21]), (h1, aJ (k 1) 9 (b9P )), (h10, aJ (k 1) 900 (l1P )), (h11, aI (k 0) 100 anI), (h12, aI (k 0) 100 anI), (h13, aI (k 0) 100 anI)] s.heap := hT
  refine lv_iconst (v := 0) hx hb dX11_lists_0 (by decide) ?_
  refine lv_istore (lv' := [(4, .int 0), (0, .ref h0), (1, .ref h1), (2, .int x2), (3, .int x3)]) hx hb dX11_lists_1 hl (by decide) rfl (fun ls hl => ?_)
  have lp3_8 : ∀ (n : Nat) (y7 : Int32) (H : Heap) (locs : List Loc) (ls : Array Slot), (0 ≤ y7.toInt ∧ y7.toInt ≤ 9) → ((-1) * y7.toInt + 9 + 1).toNat < n → TP D A [(h0, ob 8 [.int h0f0, .int h0f1, .int h0f2, .int h0f3, .int h0f4, .int h0f5, .ref h2, .ref h3, .int h0f8, .int h0f9, .ref h4, .ref h5, .ref h6, .ref h1, .ref h7, .ref h8, .ref h9, .int h0f17, .int h0f18, .int h0f19, .ref h10, .ref h11, .ref h12, .ref h13, .int h0f24, .int h0f25, .ref h14, .ref h15, .ref h16, .ref h17, .int h0f30, .int h0f31, .ref h18, .ref h19, .ref h20, .ref h21]), (h1, aJ (k 1) 9 (b9P )), (h10, aJ (k 1) 900 (l1P )), (h11, aI (k 0) 100 anI), (h12, aI (k 0) 100 anI), (h13, aI (k 0) 100 anI)] H → va_S A s.heap H locs → lv_has ls 5 [(0, .ref h0), (1, .ref h1), (2, .int x2), (3, .int x3), (4, .int y7)] → W p l e Rm_cX11_lists_5410c s m args below meth c H locs 0 0 Q (F0 m 3 ls []) := by
    intro n
    induction n with
    | zero => intro y7 H locs ls b_y7 hm hT hS hl; exact absurd hm (Nat.not_lt_zero _)
    | succ n ih =>
      intro y7 H locs ls b_y7 hm hT hS hl
      have ih3_8 := ih
      clear ih
      refine lv_iload hx hb dX11_lists_3 (lv_at hl 4 rfl) ?_
      refine lv_bipush (v := 9) hx hb dX11_lists_5 (by decide) ?_
      refine lv_icmp_ge (tgt := 35) hx hb dX11_lists_7 (by decide) (fun c_9 => ?_) (fun c_9 => ?_)
      · skip
        have c_9 := ni_le c_9 li_9 rfl
        refine lv_aload_n hx hb dX11_lists_35 rfl (lv_at hl 0 rfl) ?_
        refine tz_get (ci := 8) (v := .ref h11) (C := RX11) (F := TX11) (N := 36) hx hb hU iX11 hown hK hT 0 rfl rfl 21 (by decide) w806 (fun _ h9 => h9) rfl dX11_lists_36 ?_
        refine lv_aload_n hx hb dX11_lists_39 rfl (lv_at hl 0 rfl) ?_
        refine tz_get (ci := 8) (v := .int h0f24) (C := RX11) (F := TX11) (N := 36) hx hb hU iX11 hown hK hT 0 rfl rfl 24 (by decide) w809 (fun _ h9 => h9) rfl dX11_lists_40 ?_
        refine lv_iload_n hx hb dX11_lists_43 rfl (lv_at hl 2 rfl) ?_
        refine tz_iast hx hb hK hT hS 3 rfl (by omega) (fun _ _ => trivial) dX11_lists_44 (fun H locs hT hS => ?_)
        refine lv_aload_n hx hb dX11_lists_45 rfl (lv_at hl 0 rfl) ?_
        refine tz_get (ci := 8) (v := .ref h12) (C := RX11) (F := TX11) (N := 36) hx hb hU iX11 hown hK hT 0 rfl rfl 22 (by decide) w807 (fun _ h9 => h9) rfl dX11_lists_46 ?_
        refine lv_aload_n hx hb dX11_lists_49 rfl (lv_at hl 0 rfl) ?_
        refine tz_get (ci := 8) (v := .int h0f24) (C := RX11) (F := TX11) (N := 36) hx hb hU iX11 hown hK hT 0 rfl rfl 24 (by decide) w809 (fun _ h9 => h9) rfl dX11_lists_50 ?_
        refine lv_iload_n hx hb dX11_lists_53 rfl (lv_at hl 3 rfl) ?_
        refine tz_iast hx hb hK hT hS 4 rfl (by omega) (fun _ _ => trivial) dX11_lists_54 (fun H locs hT hS => ?_)
        refine lv_aload_n hx hb dX11_lists_55 rfl (lv_at hl 0 rfl) ?_
        refine tz_get (ci := 8) (v := .ref h13) (C := RX11) (F := TX11) (N := 36) hx hb hU iX11 hown hK hT 0 rfl rfl 23 (by decide) w808 (fun _ h9 => h9) rfl dX11_lists_56 ?_
        refine lv_aload_n hx hb dX11_lists_59 rfl (lv_at hl 0 rfl) ?_
        refine tz_get (ci := 8) (v := .int h0f24) (C := RX11) (F := TX11) (N := 36) hx hb hU iX11 hown hK hT 0 rfl rfl 24 (by decide) w809 (fun _ h9 => h9) rfl dX11_lists_60 ?_
        refine lv_iload_n hx hb dX11_lists_63 rfl (lv_at hl 2 rfl) ?_
        refine lv_if_ge (tgt := 71) hx hb dX11_lists_64 (by decide) (fun c_10 => ?_) (fun c_10 => ?_)
        · skip
          have c_10 := ni_le c_10 li_0 rfl
          refine lv_aload_n hx hb dX11_lists_71 rfl (lv_at hl 0 rfl) ?_
          refine tz_get (ci := 8) (v := .ref h13) (C := RX11) (F := TX11) (N := 36) hx hb hU iX11 hown hK hT 0 rfl rfl 23 (by decide) w808 (fun _ h9 => h9) rfl dX11_lists_72 ?_
          refine lv_iload_n hx hb dX11_lists_75 rfl (lv_at hl 2 rfl) ?_
          refine tz_iald hx hb hK hT 5 rfl (by omega) dX11_lists_76 (fun v11 e_v11 => ?_)
          clear e_v11
          refine lv_iconst (v := 1) hx hb dX11_lists_77 (by decide) ?_
          refine lv_iadd hx hb dX11_lists_78 (lv_topi (fun v12 e_v12 => ?_))
          refine tz_iast hx hb hK hT hS 5 rfl (by omega) (fun _ _ => trivial) dX11_lists_79 (fun H locs hT hS => ?_)
          refine lv_aload_n hx hb dX11_lists_80 rfl (lv_at hl 0 rfl) ?_
          refine lv_dup hx hb dX11_lists_81 rfl ?_
          refine tz_get (ci := 8) (v := .int h0f24) (C := RX11) (F := TX11) (N := 36) hx hb hU iX11 hown hK hT 0 rfl rfl 24 (by decide) w809 (fun _ h9 => h9) rfl dX11_lists_82 ?_
          refine lv_iconst (v := 1) hx hb dX11_lists_85 (by decide) ?_
          refine lv_iadd hx hb dX11_lists_86 (lv_topi (fun v13 e_v13 => ?_))
          have e_v13 := ai_add e_v13 rfl li_1 (by omega)
          refine tz_put (ci := 8) (v := .int v13) (ty := .int) (C := RX11) (F := TX11) (N := 36) hx hb hU iX11 tyX11 tyX11_ok nmX11 hown hK hT hS 0 rfl rfl 24 (by decide) w809 (fun _ h9 => h9) rfl (by decide +kernel) rfl rfl (Nat.le_of_ble_eq_true rfl) dX11_lists_87 (fun H locs hT hS => ?_)
          have hT : TP D A [(h0, ob 8 [.int h0f0, .int h0f1, .int h0f2, .int h0f3, .int h0f4, .int h0f5, .ref h2, .ref h3, .int h0f8, .int h0f9, .ref h4, .ref h5, .ref h6, .ref h1, .ref h7, .ref h8, .ref h9, .int h0f17, .int h0f18, .int h0f19, .ref h10, .ref h11, .ref h12, .ref h13, .int v13, .int h0f25, .ref h14, .ref h15, .ref h16, .ref h17, .int h0f30, .int h0f31, .ref h18, .ref h19, .ref h20, .ref h21]), (h1, aJ (k 1) 9 (b9P )), (h10, aJ (k 1) 900 (l1P )), (h11, aI (k 0) 100 anI), (h12, aI (k 0) 100 anI), (h13, aI (k 0) 100 anI)] _ := hT
          exact tz_retV (B := B_cX11_lists_5410c D k h0 h1 h10 h11 h12 h13 h2 h3 h4 h5 h6 h7 h8 h9 h14 h15 h16 h17 h18 h19 h20 h21 x2 x3 h0f0 h0f1 h0f2 h0f3 h0f4 h0f5 h0f8 h0f9 h0f17 h0f18 h0f19 h0f24 h0f25 h0f30 h0f31) hQ hx hb hr hlocks hS (Nat.le_of_ble_eq_true rfl) (Nat.le_of_ble_eq_true rfl) dX11_lists_90 (⟨v13, (by omega), hT⟩)
        · skip
          have c_10 := ni_nle c_10 li_0 rfl
          exfalso; omega
      · skip
        have c_9 := ni_nle c_9 li_9 rfl
        refine lv_aload_n hx hb dX11_lists_10 rfl (lv_at hl 0 rfl) ?_
        refine tz_get (ci := 8) (v := .ref h10) (C := RX11) (F := TX11) (N := 36) hx hb hU iX11 hown hK hT 0 rfl rfl 20 (by decide) w805 (fun _ h9 => h9) rfl dX11_lists_11 ?_
        refine lv_bipush (v := 9) hx hb dX11_lists_14 (by decide) ?_
        refine lv_aload_n hx hb dX11_lists_16 rfl (lv_at hl 0 rfl) ?_
        refine tz_get (ci := 8) (v := .int h0f24) (C := RX11) (F := TX11) (N := 36) hx hb hU iX11 hown hK hT 0 rfl rfl 24 (by decide) w809 (fun _ h9 => h9) rfl dX11_lists_17 ?_
        refine lv_imul hx hb dX11_lists_20 (lv_topi (fun v14 e_v14 => ?_))
        have e_v14 := ai_mul e_v14 li_9 rfl (by omega)
        refine lv_iload hx hb dX11_lists_21 (lv_at hl 4 rfl) ?_
        refine lv_iadd hx hb dX11_lists_23 (lv_topi (fun v15 e_v15 => ?_))
        have e_v15 := ai_add e_v15 rfl rfl (by omega)
        refine lv_aload_n hx hb dX11_lists_24 rfl (lv_at hl 1 rfl) ?_
        refine lv_iload hx hb dX11_lists_25 (lv_at hl 4 rfl) ?_
        refine tz_lald hx hb hK hT 1 rfl (by omega) dX11_lists_27 (fun v16 e_v16 => ?_)
        have e_v16 := b9_get e_v16 (by omega)
        refine tz_lastP hx hb hK hT hS 2 (l1P ) rfl (by omega) (l1_put (by omega)) dX11_lists_28 (fun H locs hT hS => ?_)
        have hT : TP D A [(h0, ob 8 [.int h0f0, .int h0f1, .int h0f2, .int h0f3, .int h0f4, .int h0f5, .ref h2, .ref h3, .int h0f8, .int h0f9, .ref h4, .ref h5, .ref h6, .ref h1, .ref h7, .ref h8, .ref h9, .int h0f17, .int h0f18, .int h0f19, .ref h10, .ref h11, .ref h12, .ref h13, .int h0f24, .int h0f25, .ref h14, .ref h15, .ref h16, .ref h17, .int h0f30, .int h0f31, .ref h18, .ref h19, .ref h20, .ref h21]), (h1, aJ (k 1) 9 (b9P )), (h10, aJ (k 1) 900 (l1P )), (h11, aI (k 0) 100 anI), (h12, aI (k 0) 100 anI), (h13, aI (k 0) 100 anI)] _ := hT
        obtain ⟨v17, e_v17⟩ : ∃ x : Int32, x = y7 + Int32.ofInt 1 := ⟨_, rfl⟩
        have f_v17 := e_v17.symm
        have e_v17 : v17.toInt = y7.toInt + 1 := ai_add e_v17 rfl (show (Int32.ofInt 1).toInt = 1 from (by decide +kernel)) (by omega)
        refine lv_iinc (v := v17) (lv' := [(4, .int v17), (0, .ref h0), (1, .ref h1), (2, .int x2), (3, .int x3)]) hx hb dX11_lists_29 hl (k := 4) rfl f_v17 (by decide) rfl (fun ls hl => ?_)
        refine lv_goto (tgt := 3) hx hb dX11_lists_32 (by decide) ?_
        exact ih3_8 v17 _ _ _ (by omega)  (by omega) hT hS (lv_sub hl [1, 2, 3, 4, 0] rfl)
  exact lp3_8 (((-1) * (0 : Int32).toInt + 9 + 1).toNat + 1) (0) _ _ _ (by have := li_0; omega)  (Nat.lt_succ_self _) hT hS (lv_sub hl [1, 2, 3, 4, 0] rfl)
abbrev Rm_cX11_findList_9a1c7 : Room := { frames := 2, cells := 0, slots := 0, locals := 48 }
abbrev B_cX11_findList_9a1c7 (D : va_G) (k : Nat → ClassId) (h0 h1 h4 h5 h6 h10 h11 h12 h13 h2 h3 h7 h8 h9 h14 h15 h16 h17 h18 h19 h20 h21 : Nat) (h0f0 : Int32) (h0f1 : Int32) (h0f2 : Int32) (h0f3 : Int32) (h0f4 : Int32) (h0f5 : Int32) (h0f8 : Int32) (h0f9 : Int32) (h0f17 : Int32) (h0f18 : Int32) (h0f19 : Int32) (h0f24 : Int32) (h0f25 : Int32) (h0f30 : Int32) (h0f31 : Int32) (A : Nat → Prop) (H : Heap) : Prop := ∃ o0 : Int32, ∃ o1 : Int32, ∃ o2 : Int32, (1 ≤ o0.toInt ∧ o0.toInt ≤ 1) ∧ (1 ≤ o1.toInt ∧ o1.toInt ≤ 100) ∧ (0 ≤ o2.toInt ∧ o2.toInt ≤ 1) ∧ TP D A [(h0, ob 8 [.int h0f0, .int h0f1, .int h0f2, .int h0f3, .int h0f4, .int h0f5, .ref h1, .ref h2, .int h0f8, .int o0, .ref h3, .ref h4, .ref h5, .ref h6, .ref h7, .ref h8, .ref h9, .int h0f17, .int h0f18, .int h0f19, .ref h10, .ref h11, .ref h12, .ref h13, .int o1, .int o2, .ref h14, .ref h15, .ref h16, .ref h17, .int h0f30, .int h0f31, .ref h18, .ref h19, .ref h20, .ref h21]), (h1, aI (k 0) 36 anI), (h4, aJ (k 1) 9 anJ), (h5, aJ (k 1) 9 anJ), (h6, aJ (k 1) 9 anJ), (h10, aJ (k 1) 900 (lsP (o0.toInt))), (h11, aI (k 0) 100 anI), (h12, aI (k 0) 100 anI), (h13, aI (k 0) 100 anI)] H
set_option maxHeartbeats 4000000 in
set_option maxRecDepth 100000 in
theorem cX11_findList_9a1c7 (l : Launch) (D : va_G) (k : Nat → ClassId) (sz : Nat) (h0 h1 h4 h5 h6 h10 h11 h12 h13 h2 h3 h7 h8 h9 h14 h15 h16 h17 h18 h19 h20 h21 : Nat) (h0f0 : Int32) (h0f1 : Int32) (h0f2 : Int32) (h0f3 : Int32) (h0f4 : Int32) (h0f5 : Int32) (h0f8 : Int32) (h0f9 : Int32) (h0f17 : Int32) (h0f18 : Int32) (h0f19 : Int32) (h0f24 : Int32) (h0f25 : Int32) (h0f30 : Int32) (h0f31 : Int32) (b_h0f0 : 1 ≤ h0f0.toInt ∧ h0f0.toInt ≤ 3) (b_h0f1 : 0 ≤ h0f1.toInt ∧ h0f1.toInt ≤ 4) (b_h0f3 : 0 ≤ h0f3.toInt ∧ h0f3.toInt ≤ 3) (b_h0f4 : 0 ≤ h0f4.toInt ∧ h0f4.toInt ≤ 4) (b_h0f8 : 0 ≤ h0f8.toInt ∧ h0f8.toInt ≤ 1) (b_h0f9 : 0 ≤ h0f9.toInt ∧ h0f9.toInt ≤ 1) (b_h0f17 : 0 ≤ h0f17.toInt ∧ h0f17.toInt ≤ 120) (b_h0f18 : 0 ≤ h0f18.toInt ∧ h0f18.toInt ≤ 120) (b_h0f19 : 0 ≤ h0f19.toInt ∧ h0f19.toInt ≤ 4) (b_h0f24 : 0 ≤ h0f24.toInt ∧ h0f24.toInt ≤ 100) (b_h0f25 : 0 ≤ h0f25.toInt ∧ h0f25.toInt ≤ 1) (b_h0f30 : 0 ≤ h0f30.toInt ∧ h0f30.toInt ≤ 60) (b_h0f31 : 0 ≤ h0f31.toInt ∧ h0f31.toInt ≤ 1) (i_0 : h0f8.toInt ≤ h0f3.toInt) (i_1 : h0f9.toInt ≤ h0f24.toInt) : Met l yX11_findList (Cond.code yX11_findList cX11_findList 3 none :: uw) Rm_cX11_findList_9a1c7 (pT D k sz [.ref h0] [(h0, ob 8 [.int h0f0, .int h0f1, .int h0f2, .int h0f3, .int h0f4, .int h0f5, .ref h1, .ref h2, .int h0f8, .int h0f9, .ref h3, .ref h4, .ref h5, .ref h6, .ref h7, .ref h8, .ref h9, .int h0f17, .int h0f18, .int h0f19, .ref h10, .ref h11, .ref h12, .ref h13, .int h0f24, .int h0f25, .ref h14, .ref h15, .ref h16, .ref h17, .int h0f30, .int h0f31, .ref h18, .ref h19, .ref h20, .ref h21]), (h1, aI (k 0) 36 anI), (h4, aJ (k 1) 9 anJ), (h5, aJ (k 1) 9 anJ), (h6, aJ (k 1) 9 anJ), (h10, aJ (k 1) 900 (lsP (h0f9.toInt))), (h11, aI (k 0) 100 anI), (h12, aI (k 0) 100 anI), (h13, aI (k 0) 100 anI)]) (qV (B_cX11_findList_9a1c7 D k h0 h1 h4 h5 h6 h10 h11 h12 h13 h2 h3 h7 h8 h9 h14 h15 h16 h17 h18 h19 h20 h21 h0f0 h0f1 h0f2 h0f3 h0f4 h0f5 h0f8 h0f9 h0f17 h0f18 h0f19 h0f24 h0f25 h0f30 h0f31 (zA [h0, h1, h4, h5, h6, h10, h11, h12, h13] sz)) (zA [h0, h1, h4, h5, h6, h10, h11, h12, h13] sz)) 0 0 (zA [h0, h1, h4, h5, h6, h10, h11, h12, h13] sz) := by
  refine tz_begin (as := [h0, h1, h4, h5, h6, h10, h11, h12, h13]) (Qc := fun A => qV (B_cX11_findList_9a1c7 D k h0 h1 h4 h5 h6 h10 h11 h12 h13 h2 h3 h7 h8 h9 h14 h15 h16 h17 h18 h19 h20 h21 h0f0 h0f1 h0f2 h0f3 h0f4 h0f5 h0f8 h0f9 h0f17 h0f18 h0f19 h0f24 h0f25 h0f30 h0f31 A) A) (by decide +kernel) rfl (Nat.le_of_ble_eq_true rfl) ?_
  intro p e s m args below meth c ls A Q hx hb hr hml hown hlocks hin hU hK hT hS hA hl hQ
  have hl : lv_has ls 3 [(0, .ref h0)] := hl
  have hT : TP D A [(h0, ob 8 [.int h0f0, .int h0f1, .int h0f2, .int h0f3, .int h0f4, .int h0f5, .ref h1, .ref h2, .int h0f8, .int h0f9, .ref h3, .ref h4, .ref h5, .ref h6, .ref h7, .ref h8, .ref h9, .int h0f17, .int h0f18, .int h0f19, .ref h10, .ref h11, .ref h12, .ref h13, .int h0f24, .int h0f25, .ref h14, .ref h15, .ref h16, .ref h17, .int h0f30, .int h0f31, .ref h18, .ref h19, .ref h20, .ref h21]), (h1, aI (k 0) 36 anI), (h4, aJ (k 1) 9 anJ), (h5, aJ (k 1) 9 anJ), (h6, aJ (k 1) 9 anJ), (h10, aJ (k 1) 900 (lsP (h0f9.toInt))), (h11, aI (k 0) 100 anI), (h12, aI (k 0) 100 anI), (h13, aI (k 0) 100 anI)] s.heap := hT
  refine lv_aload_n hx hb dX11_findList_0 rfl (lv_at hl 0 rfl) ?_
  refine tz_get (ci := 8) (v := .int h0f9) (C := RX11) (F := TX11) (N := 36) hx hb hU iX11 hown hK hT 0 rfl rfl 9 (by decide) w794 (fun _ h9 => h9) rfl dX11_findList_1 ?_
  refine lv_if_eq (tgt := 8) hx hb dX11_findList_4 (by decide) (fun c_1 => ?_) (fun c_1 => ?_)
  · skip
    have c_1 := ni_eq c_1 rfl li_0
    have hT := hT.wk (q := 5) (P' := aJ (k 1) 900 (l0P )) rfl (cv_ls_l0)
    have hT : TP D A [(h0, ob 8 [.int h0f0, .int h0f1, .int h0f2, .int h0f3, .int h0f4, .int h0f5, .ref h1, .ref h2, .int h0f8, .int h0f9, .ref h3, .ref h4, .ref h5, .ref h6, .ref h7, .ref h8, .ref h9, .int h0f17, .int h0f18, .int h0f19, .ref h10, .ref h11, .ref h12, .ref h13, .int h0f24, .int h0f25, .ref h14, .ref h15, .ref h16, .ref h17, .int h0f30, .int h0f31, .ref h18, .ref h19, .ref h20, .ref h21]), (h1, aI (k 0) 36 anI), (h4, aJ (k 1) 9 anJ), (h5, aJ (k 1) 9 anJ), (h6, aJ (k 1) 9 anJ), (h10, aJ (k 1) 900 (l0P )), (h11, aI (k 0) 100 anI), (h12, aI (k 0) 100 anI), (h13, aI (k 0) 100 anI)] _ := hT
    refine lv_aload_n hx hb dX11_findList_8 rfl (lv_at hl 0 rfl) ?_
    refine lv_iconst (v := 0) hx hb dX11_findList_9 (by decide) ?_
    refine tz_put (ci := 8) (v := .int 0) (ty := .int) (C := RX11) (F := TX11) (N := 36) hx hb hU iX11 tyX11 tyX11_ok nmX11 hown hK hT hS 0 rfl rfl 24 (by decide) w809 (fun _ h9 => h9) rfl (by decide +kernel) rfl rfl (Nat.le_of_ble_eq_true rfl) dX11_findList_10 (fun H locs hT hS => ?_)
    have hT : TP D A [(h0, ob 8 [.int h0f0, .int h0f1, .int h0f2, .int h0f3, .int h0f4, .int h0f5, .ref h1, .ref h2, .int h0f8, .int h0f9, .ref h3, .ref h4, .ref h5, .ref h6, .ref h7, .ref h8, .ref h9, .int h0f17, .int h0f18, .int h0f19, .ref h10, .ref h11, .ref h12, .ref h13, .int 0, .int h0f25, .ref h14, .ref h15, .ref h16, .ref h17, .int h0f30, .int h0f31, .ref h18, .ref h19, .ref h20, .ref h21]), (h1, aI (k 0) 36 anI), (h4, aJ (k 1) 9 anJ), (h5, aJ (k 1) 9 anJ), (h6, aJ (k 1) 9 anJ), (h10, aJ (k 1) 900 (l0P )), (h11, aI (k 0) 100 anI), (h12, aI (k 0) 100 anI), (h13, aI (k 0) 100 anI)] _ := hT
    refine lv_aload_n hx hb dX11_findList_13 rfl (lv_at hl 0 rfl) ?_
    refine lv_aload_n hx hb dX11_findList_14 rfl (lv_at hl 0 rfl) ?_
    refine tz_get (ci := 8) (v := .ref h4) (C := RX11) (F := TX11) (N := 36) hx hb hU iX11 hown hK hT 0 rfl rfl 11 (by decide) w796 (fun _ h9 => h9) rfl dX11_findList_15 ?_
    have q_q3 := li_0
    refine tcV (Tc := [(h0, ob 8 [.int h0f0, .int h0f1, .int h0f2, .int h0f3, .int h0f4, .int h0f5, .ref h1, .ref h2, .int h0f8, .int h0f9, .ref h3, .ref h4, .ref h5, .ref h6, .ref h7, .ref h8, .ref h9, .int h0f17, .int h0f18, .int h0f19, .ref h10, .ref h11, .ref h12, .ref h13, .int 0, .int h0f25, .ref h14, .ref h15, .ref h16, .ref h17, .int h0f30, .int h0f31, .ref h18, .ref h19, .ref h20, .ref h21]), (h4, aJ (k 1) 9 anJ)]) (Tr := [(h1, aI (k 0) 36 anI), (h5, aJ (k 1) 9 anJ), (h6, aJ (k 1) 9 anJ), (h10, aJ (k 1) 900 (l0P )), (h11, aI (k 0) 100 anI), (h12, aI (k 0) 100 anI), (h13, aI (k 0) 100 anI)]) (as := [h0, h4]) (zcV (q0 := 0) (ci := 8) (As := [.ref h4]) (rest := []) (Tc := [(h0, ob 8 [.int h0f0, .int h0f1, .int h0f2, .int h0f3, .int h0f4, .int h0f5, .ref h1, .ref h2, .int h0f8, .int h0f9, .ref h3, .ref h4, .ref h5, .ref h6, .ref h7, .ref h8, .ref h9, .int h0f17, .int h0f18, .int h0f19, .ref h10, .ref h11, .ref h12, .ref h13, .int 0, .int h0f25, .ref h14, .ref h15, .ref h16, .ref h17, .int h0f30, .int h0f31, .ref h18, .ref h19, .ref h20, .ref h21]), (h4, aJ (k 1) 9 anJ)]) hx hb hml hown hU hK hT rfl rfl [0, 2] rfl (by decide) (cX11_first_2a7db l D k _ h0 h4 h1 h2 h3 h5 h6 h7 h8 h9 h10 h11 h12 h13 h14 h15 h16 h17 h18 h19 h20 h21 h0f0 h0f1 h0f2 h0f3 h0f4 h0f5 h0f8 h0f9 h0f17 h0f18 h0f19 (0) h0f25 h0f30 h0f31 (by omega) (by omega) (by omega) (by omega) (by omega) (by omega) (by omega) (by omega) (by omega) (by have := li_0; omega) (by omega) (by omega) (by omega) (by have := li_0; omega) (by have := li_0; omega)) w919 w916 w918 w28 w72 hdX11_first ⟨rfl, rfl⟩ ⟨Nat.le_of_ble_eq_true rfl, Nat.le_of_ble_eq_true rfl⟩ rfl hl.1 (Nat.le_of_ble_eq_true rfl) dX11_findList_18 ⟨Nat.le_of_ble_eq_true rfl, Nat.le_of_ble_eq_true rfl⟩) hT hS hA [0, 2] [1, 3, 4, 5, 6, 7, 8] rfl rfl rfl (by decide) (by decide) (fun H locs hB J hS => ?_)
    have hT1 := hB
    have hT := J _ hT1
    have hT : TP D A [(h1, aI (k 0) 36 anI), (h5, aJ (k 1) 9 anJ), (h6, aJ (k 1) 9 anJ), (h10, aJ (k 1) 900 (l0P )), (h11, aI (k 0) 100 anI), (h12, aI (k 0) 100 anI), (h13, aI (k 0) 100 anI), (h0, ob 8 [.int h0f0, .int h0f1, .int h0f2, .int h0f3, .int h0f4, .int h0f5, .ref h1, .ref h2, .int h0f8, .int h0f9, .ref h3, .ref h4, .ref h5, .ref h6, .ref h7, .ref h8, .ref h9, .int h0f17, .int h0f18, .int h0f19, .ref h10, .ref h11, .ref h12, .ref h13, .int 0, .int h0f25, .ref h14, .ref h15, .ref h16, .ref h17, .int h0f30, .int h0f31, .ref h18, .ref h19, .ref h20, .ref h21]), (h4, aJ (k 1) 9 (idP ))] _ := hT
    refine lv_aload_n hx hb dX11_findList_21 rfl (lv_at hl 0 rfl) ?_
    refine lv_aload_n hx hb dX11_findList_22 rfl (lv_at hl 0 rfl) ?_
    refine tz_get (ci := 8) (v := .ref h4) (C := RX11) (F := TX11) (N := 36) hx hb hU iX11 hown hK hT 7 rfl rfl 11 (by decide) w796 (fun _ h9 => h9) rfl dX11_findList_23 ?_
    refine lv_bipush (v := (-3)) hx hb dX11_findList_26 (by decide) ?_
    refine lv_bipush (v := (-3)) hx hb dX11_findList_28 (by decide) ?_
    have q_q5 := li_m3
    have q_q6 := li_m3
    have q_q7 := li_0
    refine tcV (Tc := [(h0, ob 8 [.int h0f0, .int h0f1, .int h0f2, .int h0f3, .int h0f4, .int h0f5, .ref h1, .ref h2, .int h0f8, .int h0f9, .ref h3, .ref h4, .ref h5, .ref h6, .ref h7, .ref h8, .ref h9, .int h0f17, .int h0f18, .int h0f19, .ref h10, .ref h11, .ref h12, .ref h13, .int 0, .int h0f25, .ref h14, .ref h15, .ref h16, .ref h17, .int h0f30, .int h0f31, .ref h18, .ref h19, .ref h20, .ref h21]), (h4, aJ (k 1) 9 (idP )), (h10, aJ (k 1) 900 (l0P )), (h11, aI (k 0) 100 anI), (h12, aI (k 0) 100 anI), (h13, aI (k 0) 100 anI)]) (Tr := [(h1, aI (k 0) 36 anI), (h5, aJ (k 1) 9 anJ), (h6, aJ (k 1) 9 anJ)]) (as := [h0, h4, h10, h11, h12, h13]) (zcV (q0 := 7) (ci := 8) (As := [.ref h4, .int (-3), .int (-3)]) (rest := []) (Tc := [(h0, ob 8 [.int h0f0, .int h0f1, .int h0f2, .int h0f3, .int h0f4, .int h0f5, .ref h1, .ref h2, .int h0f8, .int h0f9, .ref h3, .ref h4, .ref h5, .ref h6, .ref h7, .ref h8, .ref h9, .int h0f17, .int h0f18, .int h0f19, .ref h10, .ref h11, .ref h12, .ref h13, .int 0, .int h0f25, .ref h14, .ref h15, .ref h16, .ref h17, .int h0f30, .int h0f31, .ref h18, .ref h19, .ref h20, .ref h21]), (h4, aJ (k 1) 9 (idP )), (h10, aJ (k 1) 900 (l0P )), (h11, aI (k 0) 100 anI), (h12, aI (k 0) 100 anI), (h13, aI (k 0) 100 anI)]) hx hb hml hown hU hK hT rfl rfl [7, 8, 3, 4, 5, 6] rfl (by decide) (cX11_lists_fbb0a l D k _ h0 h4 h10 h11 h12 h13 h1 h2 h3 h5 h6 h7 h8 h9 h14 h15 h16 h17 h18 h19 h20 h21 ((-3)) ((-3)) h0f0 h0f1 h0f2 h0f3 h0f4 h0f5 h0f8 h0f9 h0f17 h0f18 h0f19 (0) h0f25 h0f30 h0f31 (by have := li_m3; omega) (by have := li_m3; omega) (by omega) (by omega) (by omega) (by omega) (by omega) (by omega) (by omega) (by omega) (by omega) (by have := li_0; omega) (by omega) (by omega) (by omega) (by have := li_m3; have := li_m3; have := li_0; omega) (by have := li_m3; have := li_m3; have := li_0; omega)) w1043 w1040 w1042 w48 w72 hdX11_lists ⟨rfl, rfl⟩ ⟨Nat.le_of_ble_eq_true rfl, Nat.le_of_ble_eq_true rfl⟩ rfl hl.1 (Nat.le_of_ble_eq_true rfl) dX11_findList_30 ⟨Nat.le_of_ble_eq_true rfl, Nat.le_of_ble_eq_true rfl⟩) hT hS hA [7, 8, 3, 4, 5, 6] [0, 1, 2] rfl rfl rfl (by decide) (by decide) (fun H locs hB J hS => ?_)
    obtain ⟨v8, b_v8, hT1⟩ := hB
    have hT := J _ hT1
    have hT : TP D A [(h1, aI (k 0) 36 anI), (h5, aJ (k 1) 9 anJ), (h6, aJ (k 1) 9 anJ), (h0, ob 8 [.int h0f0, .int h0f1, .int h0f2, .int h0f3, .int h0f4, .int h0f5, .ref h1, .ref h2, .int h0f8, .int h0f9, .ref h3, .ref h4, .ref h5, .ref h6, .ref h7, .ref h8, .ref h9, .int h0f17, .int h0f18, .int h0f19, .ref h10, .ref h11, .ref h12, .ref h13, .int v8, .int h0f25, .ref h14, .ref h15, .ref h16, .ref h17, .int h0f30, .int h0f31, .ref h18, .ref h19, .ref h20, .ref h21]), (h4, aJ (k 1) 9 (idP )), (h10, aJ (k 1) 900 (l1P )), (h11, aI (k 0) 100 anI), (h12, aI (k 0) 100 anI), (h13, aI (k 0) 100 anI)] _ := hT
    refine lv_iconst (v := 0) hx hb dX11_findList_33 (by decide) ?_
    refine lv_istore_n (lv' := [(1, .int 0), (0, .ref h0)]) hx hb dX11_findList_34 rfl hl (by decide) rfl (fun ls hl => ?_)
    have hT := hT.wk (q := 4) (P' := aJ (k 1) 9 anJ) rfl (an_J)
    have hT : TP D A [(h1, aI (k 0) 36 anI), (h5, aJ (k 1) 9 anJ), (h6, aJ (k 1) 9 anJ), (h0, ob 8 [.int h0f0, .int h0f1, .int h0f2, .int h0f3, .int h0f4, .int h0f5, .ref h1, .ref h2, .int h0f8, .int h0f9, .ref h3, .ref h4, .ref h5, .ref h6, .ref h7, .ref h8, .ref h9, .int h0f17, .int h0f18, .int h0f19, .ref h10, .ref h11, .ref h12, .ref h13, .int v8, .int h0f25, .ref h14, .ref h15, .ref h16, .ref h17, .int h0f30, .int h0f31, .ref h18, .ref h19, .ref h20, .ref h21]), (h4, aJ (k 1) 9 anJ), (h10, aJ (k 1) 900 (l1P )), (h11, aI (k 0) 100 anI), (h12, aI (k 0) 100 anI), (h13, aI (k 0) 100 anI)] _ := hT
    have lp35_35 : ∀ (n : Nat) (y33 : Int32) (y34 : Int32) (H : Heap) (locs : List Loc) (ls : Array Slot), (0 ≤ y33.toInt ∧ y33.toInt ≤ 100) → (1 ≤ y34.toInt ∧ y34.toInt ≤ 100) → (100 - y33.toInt).toNat < n → TP D A [(h1, aI (k 0) 36 anI), (h5, aJ (k 1) 9 anJ), (h6, aJ (k 1) 9 anJ), (h0, ob 8 [.int h0f0, .int h0f1, .int h0f2, .int h0f3, .int h0f4, .int h0f5, .ref h1, .ref h2, .int h0f8, .int h0f9, .ref h3, .ref h4, .ref h5, .ref h6, .ref h7, .ref h8, .ref h9, .int h0f17, .int h0f18, .int h0f19, .ref h10, .ref h11, .ref h12, .ref h13, .int y34, .int h0f25, .ref h14, .ref h15, .ref h16, .ref h17, .int h0f30, .int h0f31, .ref h18, .ref h19, .ref h20, .ref h21]), (h4, aJ (k 1) 9 anJ), (h10, aJ (k 1) 900 (l1P )), (h11, aI (k 0) 100 anI), (h12, aI (k 0) 100 anI), (h13, aI (k 0) 100 anI)] H → va_S A s.heap H locs → lv_has ls 3 [(0, .ref h0), (1, .int y33)] → W p l e Rm_cX11_findList_9a1c7 s m args below meth c H locs 0 0 Q (F0 m 35 ls []) := by
      intro n
      induction n with
      | zero => intro y33 y34 H locs ls b_y33 b_y34 hm hT hS hl; exact absurd hm (Nat.not_lt_zero _)
      | succ n ih =>
        intro y33 y34 H locs ls b_y33 b_y34 hm hT hS hl
        have ih35_35 := ih
        clear ih
        refine lv_iload_n hx hb dX11_findList_35 rfl (lv_at hl 1 rfl) ?_
        refine lv_aload_n hx hb dX11_findList_36 rfl (lv_at hl 0 rfl) ?_
        refine tz_get (ci := 8) (v := .int y34) (C := RX11) (F := TX11) (N := 36) hx hb hU iX11 hown hK hT 3 rfl rfl 24 (by decide) w809 (fun _ h9 => h9) rfl dX11_findList_37 ?_
        refine lv_icmp_ge (tgt := 140) hx hb dX11_findList_40 (by decide) (fun c_36 => ?_) (fun c_36 => ?_)
        · skip
          have c_36 := ni_le c_36 rfl rfl
          refine lv_aload_n hx hb dX11_findList_140 rfl (lv_at hl 0 rfl) ?_
          refine lv_iconst (v := 1) hx hb dX11_findList_141 (by decide) ?_
          refine tz_put (ci := 8) (v := .int 1) (ty := .boolean) (C := RX11) (F := TX11) (N := 36) hx hb hU iX11 tyX11 tyX11_ok nmX11 hown hK hT hS 3 rfl rfl 25 (by decide) w810 (fun _ h9 => h9) rfl (by decide +kernel) rfl rfl (Nat.le_of_ble_eq_true rfl) dX11_findList_142 (fun H locs hT hS => ?_)
          have hT : TP D A [(h1, aI (k 0) 36 anI), (h5, aJ (k 1) 9 anJ), (h6, aJ (k 1) 9 anJ), (h0, ob 8 [.int h0f0, .int h0f1, .int h0f2, .int h0f3, .int h0f4, .int h0f5, .ref h1, .ref h2, .int h0f8, .int h0f9, .ref h3, .ref h4, .ref h5, .ref h6, .ref h7, .ref h8, .ref h9, .int h0f17, .int h0f18, .int h0f19, .ref h10, .ref h11, .ref h12, .ref h13, .int y34, .int 1, .ref h14, .ref h15, .ref h16, .ref h17, .int h0f30, .int h0f31, .ref h18, .ref h19, .ref h20, .ref h21]), (h4, aJ (k 1) 9 anJ), (h10, aJ (k 1) 900 (l1P )), (h11, aI (k 0) 100 anI), (h12, aI (k 0) 100 anI), (h13, aI (k 0) 100 anI)] _ := hT
          refine lv_iconst (v := 0) hx hb dX11_findList_145 (by decide) ?_
          refine lv_istore_n (lv' := [(1, .int 0), (0, .ref h0)]) hx hb dX11_findList_146 rfl hl (by decide) rfl (fun ls hl => ?_)
          have lp147_63 : ∀ (n : Nat) (y61 : Int32) (y62 : Int32) (H : Heap) (locs : List Loc) (ls : Array Slot), (0 ≤ y61.toInt ∧ y61.toInt ≤ 100) → (0 ≤ y62.toInt ∧ y62.toInt ≤ 1) → (y34.toInt + (-1) * y61.toInt + 1).toNat < n → TP D A [(h1, aI (k 0) 36 anI), (h5, aJ (k 1) 9 anJ), (h6, aJ (k 1) 9 anJ), (h0, ob 8 [.int h0f0, .int h0f1, .int h0f2, .int h0f3, .int h0f4, .int h0f5, .ref h1, .ref h2, .int h0f8, .int h0f9, .ref h3, .ref h4, .ref h5, .ref h6, .ref h7, .ref h8, .ref h9, .int h0f17, .int h0f18, .int h0f19, .ref h10, .ref h11, .ref h12, .ref h13, .int y34, .int y62, .ref h14, .ref h15, .ref h16, .ref h17, .int h0f30, .int h0f31, .ref h18, .ref h19, .ref h20, .ref h21]), (h4, aJ (k 1) 9 anJ), (h10, aJ (k 1) 900 (l1P )), (h11, aI (k 0) 100 anI), (h12, aI (k 0) 100 anI), (h13, aI (k 0) 100 anI)] H → va_S A s.heap H locs → lv_has ls 3 [(0, .ref h0), (1, .int y61)] → W p l e Rm_cX11_findList_9a1c7 s m args below meth c H locs 0 0 Q (F0 m 147 ls []) := by
            intro n
            induction n with
            | zero => intro y61 y62 H locs ls b_y61 b_y62 hm hT hS hl; exact absurd hm (Nat.not_lt_zero _)
            | succ n ih =>
              intro y61 y62 H locs ls b_y61 b_y62 hm hT hS hl
              have ih147_63 := ih
              clear ih
              refine lv_iload_n hx hb dX11_findList_147 rfl (lv_at hl 1 rfl) ?_
              refine lv_aload_n hx hb dX11_findList_148 rfl (lv_at hl 0 rfl) ?_
              refine tz_get (ci := 8) (v := .int y34) (C := RX11) (F := TX11) (N := 36) hx hb hU iX11 hown hK hT 3 rfl rfl 24 (by decide) w809 (fun _ h9 => h9) rfl dX11_findList_149 ?_
              refine lv_icmp_ge (tgt := 238) hx hb dX11_findList_152 (by decide) (fun c_64 => ?_) (fun c_64 => ?_)
              · skip
                have c_64 := ni_le c_64 rfl rfl
                refine lv_aload_n hx hb dX11_findList_238 rfl (lv_at hl 0 rfl) ?_
                refine lv_iconst (v := 1) hx hb dX11_findList_239 (by decide) ?_
                refine tz_put (ci := 8) (v := .int 1) (ty := .boolean) (C := RX11) (F := TX11) (N := 36) hx hb hU iX11 tyX11 tyX11_ok nmX11 hown hK hT hS 3 rfl rfl 9 (by decide) w794 (fun _ h9 => h9) rfl (by decide +kernel) rfl rfl (Nat.le_of_ble_eq_true rfl) dX11_findList_240 (fun H locs hT hS => ?_)
                have hT : TP D A [(h1, aI (k 0) 36 anI), (h5, aJ (k 1) 9 anJ), (h6, aJ (k 1) 9 anJ), (h0, ob 8 [.int h0f0, .int h0f1, .int h0f2, .int h0f3, .int h0f4, .int h0f5, .ref h1, .ref h2, .int h0f8, .int 1, .ref h3, .ref h4, .ref h5, .ref h6, .ref h7, .ref h8, .ref h9, .int h0f17, .int h0f18, .int h0f19, .ref h10, .ref h11, .ref h12, .ref h13, .int y34, .int y62, .ref h14, .ref h15, .ref h16, .ref h17, .int h0f30, .int h0f31, .ref h18, .ref h19, .ref h20, .ref h21]), (h4, aJ (k 1) 9 anJ), (h10, aJ (k 1) 900 (l1P )), (h11, aI (k 0) 100 anI), (h12, aI (k 0) 100 anI), (h13, aI (k 0) 100 anI)] _ := hT
                have hT := hT.wk (q := 5) (P' := aJ (k 1) 900 (lsP ((1 : Int32).toInt))) rfl (cv_l1_ls)
                have hT : TP D A [(h1, aI (k 0) 36 anI), (h5, aJ (k 1) 9 anJ), (h6, aJ (k 1) 9 anJ), (h0, ob 8 [.int h0f0, .int h0f1, .int h0f2, .int h0f3, .int h0f4, .int h0f5, .ref h1, .ref h2, .int h0f8, .int 1, .ref h3, .ref h4, .ref h5, .ref h6, .ref h7, .ref h8, .ref h9, .int h0f17, .int h0f18, .int h0f19, .ref h10, .ref h11, .ref h12, .ref h13, .int y34, .int y62, .ref h14, .ref h15, .ref h16, .ref h17, .int h0f30, .int h0f31, .ref h18, .ref h19, .ref h20, .ref h21]), (h4, aJ (k 1) 9 anJ), (h10, aJ (k 1) 900 (lsP ((1 : Int32).toInt))), (h11, aI (k 0) 100 anI), (h12, aI (k 0) 100 anI), (h13, aI (k 0) 100 anI)] _ := hT
                exact tz_retV (B := B_cX11_findList_9a1c7 D k h0 h1 h4 h5 h6 h10 h11 h12 h13 h2 h3 h7 h8 h9 h14 h15 h16 h17 h18 h19 h20 h21 h0f0 h0f1 h0f2 h0f3 h0f4 h0f5 h0f8 h0f9 h0f17 h0f18 h0f19 h0f24 h0f25 h0f30 h0f31) hQ hx hb hr hlocks hS (Nat.le_of_ble_eq_true rfl) (Nat.le_of_ble_eq_true rfl) dX11_findList_243 (⟨1, y34, y62, (by have := li_1; omega), (by have := li_1; omega), (by have := li_1; omega), (hT.sub [3, 0, 4, 1, 2, 5, 6, 7, 8] (by decide) rfl)⟩)
              · skip
                have c_64 := ni_nle c_64 rfl rfl
                refine lv_iconst (v := 0) hx hb dX11_findList_155 (by decide) ?_
                refine lv_istore_n (lv' := [(2, .int 0), (0, .ref h0), (1, .int y61)]) hx hb dX11_findList_156 rfl hl (by decide) rfl (fun ls hl => ?_)
                have lp157_73 : ∀ (n : Nat) (y71 : Int32) (y72 : Int32) (H : Heap) (locs : List Loc) (ls : Array Slot), (0 ≤ y71.toInt ∧ y71.toInt ≤ 4) → (0 ≤ y72.toInt ∧ y72.toInt ≤ 1) → (h0f1.toInt + (-1) * y71.toInt + 1).toNat < n → TP D A [(h1, aI (k 0) 36 anI), (h5, aJ (k 1) 9 anJ), (h6, aJ (k 1) 9 anJ), (h0, ob 8 [.int h0f0, .int h0f1, .int h0f2, .int h0f3, .int h0f4, .int h0f5, .ref h1, .ref h2, .int h0f8, .int h0f9, .ref h3, .ref h4, .ref h5, .ref h6, .ref h7, .ref h8, .ref h9, .int h0f17, .int h0f18, .int h0f19, .ref h10, .ref h11, .ref h12, .ref h13, .int y34, .int y72, .ref h14, .ref h15, .ref h16, .ref h17, .int h0f30, .int h0f31, .ref h18, .ref h19, .ref h20, .ref h21]), (h4, aJ (k 1) 9 anJ), (h10, aJ (k 1) 900 (l1P )), (h11, aI (k 0) 100 anI), (h12, aI (k 0) 100 anI), (h13, aI (k 0) 100 anI)] H → va_S A s.heap H locs → lv_has ls 3 [(0, .ref h0), (1, .int y61), (2, .int y71)] → W p l e Rm_cX11_findList_9a1c7 s m args below meth c H locs 0 0 Q (F0 m 157 ls []) := by
                  intro n
                  induction n with
                  | zero => intro y71 y72 H locs ls b_y71 b_y72 hm hT hS hl; exact absurd hm (Nat.not_lt_zero _)
                  | succ n ih =>
                    intro y71 y72 H locs ls b_y71 b_y72 hm hT hS hl
                    have ih157_73 := ih
                    clear ih
                    refine lv_iload_n hx hb dX11_findList_157 rfl (lv_at hl 2 rfl) ?_
                    refine lv_aload_n hx hb dX11_findList_158 rfl (lv_at hl 0 rfl) ?_
                    refine tz_get (ci := 8) (v := .int h0f1) (C := RX11) (F := TX11) (N := 36) hx hb hU iX11 hown hK hT 3 rfl rfl 1 (by decide) w786 (fun _ h9 => h9) rfl dX11_findList_159 ?_
                    refine lv_icmp_ge (tgt := 232) hx hb dX11_findList_162 (by decide) (fun c_74 => ?_) (fun c_74 => ?_)
                    · skip
                      have c_74 := ni_le c_74 rfl rfl
                      obtain ⟨v75, e_v75⟩ : ∃ x : Int32, x = y61 + Int32.ofInt 1 := ⟨_, rfl⟩
                      have f_v75 := e_v75.symm
                      have e_v75 : v75.toInt = y61.toInt + 1 := ai_add e_v75 rfl (show (Int32.ofInt 1).toInt = 1 from (by decide +kernel)) (by omega)
                      refine lv_iinc (v := v75) (lv' := [(1, .int v75), (0, .ref h0), (2, .int y71)]) hx hb dX11_findList_232 hl (k := 1) rfl f_v75 (by decide) rfl (fun ls hl => ?_)
                      refine lv_goto (tgt := 147) hx hb dX11_findList_235 (by decide) ?_
                      exact ih147_63 v75 y72 _ _ _ (by omega) (by omega)  (by omega) hT hS (lv_sub hl [1, 0] rfl)
                    · skip
                      have c_74 := ni_nle c_74 rfl rfl
                      refine lv_aload_n hx hb dX11_findList_165 rfl (lv_at hl 0 rfl) ?_
                      refine lv_iload_n hx hb dX11_findList_166 rfl (lv_at hl 1 rfl) ?_
                      refine lv_aload_n hx hb dX11_findList_167 rfl (lv_at hl 0 rfl) ?_
                      refine tz_get (ci := 8) (v := .ref h4) (C := RX11) (F := TX11) (N := 36) hx hb hU iX11 hown hK hT 3 rfl rfl 11 (by decide) w796 (fun _ h9 => h9) rfl dX11_findList_168 ?_
                      refine tcV (Tc := [(h0, ob 8 [.int h0f0, .int h0f1, .int h0f2, .int h0f3, .int h0f4, .int h0f5, .ref h1, .ref h2, .int h0f8, .int h0f9, .ref h3, .ref h4, .ref h5, .ref h6, .ref h7, .ref h8, .ref h9, .int h0f17, .int h0f18, .int h0f19, .ref h10, .ref h11, .ref h12, .ref h13, .int y34, .int y72, .ref h14, .ref h15, .ref h16, .ref h17, .int h0f30, .int h0f31, .ref h18, .ref h19, .ref h20, .ref h21]), (h4, aJ (k 1) 9 anJ), (h10, aJ (k 1) 900 (l1P ))]) (Tr := [(h1, aI (k 0) 36 anI), (h5, aJ (k 1) 9 anJ), (h6, aJ (k 1) 9 anJ), (h11, aI (k 0) 100 anI), (h12, aI (k 0) 100 anI), (h13, aI (k 0) 100 anI)]) (as := [h0, h4, h10]) (zcV (q0 := 3) (ci := 8) (As := [.int y61, .ref h4]) (rest := []) (Tc := [(h0, ob 8 [.int h0f0, .int h0f1, .int h0f2, .int h0f3, .int h0f4, .int h0f5, .ref h1, .ref h2, .int h0f8, .int h0f9, .ref h3, .ref h4, .ref h5, .ref h6, .ref h7, .ref h8, .ref h9, .int h0f17, .int h0f18, .int h0f19, .ref h10, .ref h11, .ref h12, .ref h13, .int y34, .int y72, .ref h14, .ref h15, .ref h16, .ref h17, .int h0f30, .int h0f31, .ref h18, .ref h19, .ref h20, .ref h21]), (h4, aJ (k 1) 9 anJ), (h10, aJ (k 1) 900 (l1P ))]) hx hb hml hown hU hK hT rfl rfl [3, 4, 5] rfl (by decide) (cX11_takesElement_cde2b l D k _ h0 h4 h10 h1 h2 h3 h5 h6 h7 h8 h9 h11 h12 h13 h14 h15 h16 h17 h18 h19 h20 h21 y61 h0f0 h0f1 h0f2 h0f3 h0f4 h0f5 h0f8 h0f9 h0f17 h0f18 h0f19 y34 y72 h0f30 h0f31 (by omega) (by omega) (by omega) (by omega) (by omega) (by omega) (by omega) (by omega) (by omega) (by omega) (by omega) (by omega) (by omega) (by omega) (by omega) (by omega)) w1047 w1044 w1046 w49 w72 hdX11_takesElement ⟨rfl, rfl⟩ ⟨Nat.le_of_ble_eq_true rfl, Nat.le_of_ble_eq_true rfl⟩ rfl hl.1 (Nat.le_of_ble_eq_true rfl) dX11_findList_171 ⟨Nat.le_of_ble_eq_true rfl, Nat.le_of_ble_eq_true rfl⟩) hT hS hA [3, 4, 5] [0, 1, 2, 6, 7, 8] rfl rfl rfl (by decide) (by decide) (fun H locs hB J hS => ?_)
                      have hT1 := hB
                      have hT := J _ hT1
                      have hT : TP D A [(h1, aI (k 0) 36 anI), (h5, aJ (k 1) 9 anJ), (h6, aJ (k 1) 9 anJ), (h11, aI (k 0) 100 anI), (h12, aI (k 0) 100 anI), (h13, aI (k 0) 100 anI), (h0, ob 8 [.int h0f0, .int h0f1, .int h0f2, .int h0f3, .int h0f4, .int h0f5, .ref h1, .ref h2, .int h0f8, .int h0f9, .ref h3, .ref h4, .ref h5, .ref h6, .ref h7, .ref h8, .ref h9, .int h0f17, .int h0f18, .int h0f19, .ref h10, .ref h11, .ref h12, .ref h13, .int y34, .int y72, .ref h14, .ref h15, .ref h16, .ref h17, .int h0f30, .int h0f31, .ref h18, .ref h19, .ref h20, .ref h21]), (h4, aJ (k 1) 9 anJ), (h10, aJ (k 1) 900 (l1P ))] _ := hT
                      refine lv_aload_n hx hb dX11_findList_174 rfl (lv_at hl 0 rfl) ?_
                      refine lv_iload_n hx hb dX11_findList_175 rfl (lv_at hl 2 rfl) ?_
                      refine lv_aload_n hx hb dX11_findList_176 rfl (lv_at hl 0 rfl) ?_
                      refine tz_get (ci := 8) (v := .ref h5) (C := RX11) (F := TX11) (N := 36) hx hb hU iX11 hown hK hT 6 rfl rfl 12 (by decide) w797 (fun _ h9 => h9) rfl dX11_findList_177 ?_
                      refine tcV (Tc := [(h0, ob 8 [.int h0f0, .int h0f1, .int h0f2, .int h0f3, .int h0f4, .int h0f5, .ref h1, .ref h2, .int h0f8, .int h0f9, .ref h3, .ref h4, .ref h5, .ref h6, .ref h7, .ref h8, .ref h9, .int h0f17, .int h0f18, .int h0f19, .ref h10, .ref h11, .ref h12, .ref h13, .int y34, .int y72, .ref h14, .ref h15, .ref h16, .ref h17, .int h0f30, .int h0f31, .ref h18, .ref h19, .ref h20, .ref h21]), (h5, aJ (k 1) 9 anJ), (h1, aI (k 0) 36 anI)]) (Tr := [(h6, aJ (k 1) 9 anJ), (h11, aI (k 0) 100 anI), (h12, aI (k 0) 100 anI), (h13, aI (k 0) 100 anI), (h4, aJ (k 1) 9 anJ), (h10, aJ (k 1) 900 (l1P ))]) (as := [h0, h5, h1]) (zcV (q0 := 6) (ci := 8) (As := [.int y71, .ref h5]) (rest := []) (Tc := [(h0, ob 8 [.int h0f0, .int h0f1, .int h0f2, .int h0f3, .int h0f4, .int h0f5, .ref h1, .ref h2, .int h0f8, .int h0f9, .ref h3, .ref h4, .ref h5, .ref h6, .ref h7, .ref h8, .ref h9, .int h0f17, .int h0f18, .int h0f19, .ref h10, .ref h11, .ref h12, .ref h13, .int y34, .int y72, .ref h14, .ref h15, .ref h16, .ref h17, .int h0f30, .int h0f31, .ref h18, .ref h19, .ref h20, .ref h21]), (h5, aJ (k 1) 9 anJ), (h1, aI (k 0) 36 anI)]) hx hb hml hown hU hK hT rfl rfl [6, 1, 0] rfl (by decide) (cX11_takes_73548 l D k _ h0 h5 h1 h2 h3 h4 h6 h7 h8 h9 h10 h11 h12 h13 h14 h15 h16 h17 h18 h19 h20 h21 y71 h0f0 h0f1 h0f2 h0f3 h0f4 h0f5 h0f8 h0f9 h0f17 h0f18 h0f19 y34 y72 h0f30 h0f31 (by omega) (by omega) (by omega) (by omega) (by omega) (by omega) (by omega) (by omega) (by omega) (by omega) (by omega) (by omega) (by omega) (by omega) (by omega) (by omega)) w939 w936 w938 w32 w72 hdX11_takes ⟨rfl, rfl⟩ ⟨Nat.le_of_ble_eq_true rfl, Nat.le_of_ble_eq_true rfl⟩ rfl hl.1 (Nat.le_of_ble_eq_true rfl) dX11_findList_180 ⟨Nat.le_of_ble_eq_true rfl, Nat.le_of_ble_eq_true rfl⟩) hT hS hA [6, 1, 0] [2, 3, 4, 5, 7, 8] rfl rfl rfl (by decide) (by decide) (fun H locs hB J hS => ?_)
                      have hT1 := hB
                      have hT := J _ hT1
                      have hT : TP D A [(h6, aJ (k 1) 9 anJ), (h11, aI (k 0) 100 anI), (h12, aI (k 0) 100 anI), (h13, aI (k 0) 100 anI), (h4, aJ (k 1) 9 anJ), (h10, aJ (k 1) 900 (l1P )), (h0, ob 8 [.int h0f0, .int h0f1, .int h0f2, .int h0f3, .int h0f4, .int h0f5, .ref h1, .ref h2, .int h0f8, .int h0f9, .ref h3, .ref h4, .ref h5, .ref h6, .ref h7, .ref h8, .ref h9, .int h0f17, .int h0f18, .int h0f19, .ref h10, .ref h11, .ref h12, .ref h13, .int y34, .int y72, .ref h14, .ref h15, .ref h16, .ref h17, .int h0f30, .int h0f31, .ref h18, .ref h19, .ref h20, .ref h21]), (h5, aJ (k 1) 9 anJ), (h1, aI (k 0) 36 anI)] _ := hT
                      refine lv_aload_n hx hb dX11_findList_183 rfl (lv_at hl 0 rfl) ?_
                      refine lv_aload_n hx hb dX11_findList_184 rfl (lv_at hl 0 rfl) ?_
                      refine tz_get (ci := 8) (v := .ref h4) (C := RX11) (F := TX11) (N := 36) hx hb hU iX11 hown hK hT 6 rfl rfl 11 (by decide) w796 (fun _ h9 => h9) rfl dX11_findList_185 ?_
                      refine lv_aload_n hx hb dX11_findList_188 rfl (lv_at hl 0 rfl) ?_
                      refine tz_get (ci := 8) (v := .ref h5) (C := RX11) (F := TX11) (N := 36) hx hb hU iX11 hown hK hT 6 rfl rfl 12 (by decide) w797 (fun _ h9 => h9) rfl dX11_findList_189 ?_
                      refine lv_aload_n hx hb dX11_findList_192 rfl (lv_at hl 0 rfl) ?_
                      refine tz_get (ci := 8) (v := .ref h6) (C := RX11) (F := TX11) (N := 36) hx hb hU iX11 hown hK hT 6 rfl rfl 13 (by decide) w798 (fun _ h9 => h9) rfl dX11_findList_193 ?_
                      refine tcV (Tc := [(h0, ob 8 [.int h0f0, .int h0f1, .int h0f2, .int h0f3, .int h0f4, .int h0f5, .ref h1, .ref h2, .int h0f8, .int h0f9, .ref h3, .ref h4, .ref h5, .ref h6, .ref h7, .ref h8, .ref h9, .int h0f17, .int h0f18, .int h0f19, .ref h10, .ref h11, .ref h12, .ref h13, .int y34, .int y72, .ref h14, .ref h15, .ref h16, .ref h17, .int h0f30, .int h0f31, .ref h18, .ref h19, .ref h20, .ref h21]), (h4, aJ (k 1) 9 anJ), (h5, aJ (k 1) 9 anJ), (h6, aJ (k 1) 9 anJ)]) (Tr := [(h11, aI (k 0) 100 anI), (h12, aI (k 0) 100 anI), (h13, aI (k 0) 100 anI), (h10, aJ (k 1) 900 (l1P )), (h1, aI (k 0) 36 anI)]) (as := [h0, h4, h5, h6]) (zcV (q0 := 6) (ci := 8) (As := [.ref h4, .ref h5, .ref h6]) (rest := []) (Tc := [(h0, ob 8 [.int h0f0, .int h0f1, .int h0f2, .int h0f3, .int h0f4, .int h0f5, .ref h1, .ref h2, .int h0f8, .int h0f9, .ref h3, .ref h4, .ref h5, .ref h6, .ref h7, .ref h8, .ref h9, .int h0f17, .int h0f18, .int h0f19, .ref h10, .ref h11, .ref h12, .ref h13, .int y34, .int y72, .ref h14, .ref h15, .ref h16, .ref h17, .int h0f30, .int h0f31, .ref h18, .ref h19, .ref h20, .ref h21]), (h4, aJ (k 1) 9 anJ), (h5, aJ (k 1) 9 anJ), (h6, aJ (k 1) 9 anJ)]) hx hb hml hown hU hK hT rfl rfl [6, 4, 7, 0] rfl (by decide) (cX11_times_50a35 l D k _ h0 h4 h5 h6 h1 h2 h3 h7 h8 h9 h10 h11 h12 h13 h14 h15 h16 h17 h18 h19 h20 h21 h0f0 h0f1 h0f2 h0f3 h0f4 h0f5 h0f8 h0f9 h0f17 h0f18 h0f19 y34 y72 h0f30 h0f31 (by omega) (by omega) (by omega) (by omega) (by omega) (by omega) (by omega) (by omega) (by omega) (by omega) (by omega) (by omega) (by omega) (by omega) (by omega)) w943 w940 w942 w33 w72 hdX11_times ⟨rfl, rfl⟩ ⟨Nat.le_of_ble_eq_true rfl, Nat.le_of_ble_eq_true rfl⟩ rfl hl.1 (Nat.le_of_ble_eq_true rfl) dX11_findList_196 ⟨Nat.le_of_ble_eq_true rfl, Nat.le_of_ble_eq_true rfl⟩) hT hS hA [6, 4, 7, 0] [1, 2, 3, 5, 8] rfl rfl rfl (by decide) (by decide) (fun H locs hB J hS => ?_)
                      have hT1 := hB
                      have hT := J _ hT1
                      have hT : TP D A [(h11, aI (k 0) 100 anI), (h12, aI (k 0) 100 anI), (h13, aI (k 0) 100 anI), (h10, aJ (k 1) 900 (l1P )), (h1, aI (k 0) 36 anI), (h0, ob 8 [.int h0f0, .int h0f1, .int h0f2, .int h0f3, .int h0f4, .int h0f5, .ref h1, .ref h2, .int h0f8, .int h0f9, .ref h3, .ref h4, .ref h5, .ref h6, .ref h7, .ref h8, .ref h9, .int h0f17, .int h0f18, .int h0f19, .ref h10, .ref h11, .ref h12, .ref h13, .int y34, .int y72, .ref h14, .ref h15, .ref h16, .ref h17, .int h0f30, .int h0f31, .ref h18, .ref h19, .ref h20, .ref h21]), (h4, aJ (k 1) 9 anJ), (h5, aJ (k 1) 9 anJ), (h6, aJ (k 1) 9 anJ)] _ := hT
                      refine lv_aload_n hx hb dX11_findList_199 rfl (lv_at hl 0 rfl) ?_
                      refine lv_aload_n hx hb dX11_findList_200 rfl (lv_at hl 0 rfl) ?_
                      refine tz_get (ci := 8) (v := .int y72) (C := RX11) (F := TX11) (N := 36) hx hb hU iX11 hown hK hT 5 rfl rfl 25 (by decide) w810 (fun _ h9 => h9) rfl dX11_findList_201 ?_
                      refine lv_if_eq (tgt := 222) hx hb dX11_findList_204 (by decide) (fun c_79 => ?_) (fun c_79 => ?_)
                      · skip
                        have c_79 := ni_eq c_79 rfl li_0
                        refine lv_iconst (v := 0) hx hb dX11_findList_222 (by decide) ?_
                        refine tz_put (ci := 8) (v := .int 0) (ty := .boolean) (C := RX11) (F := TX11) (N := 36) hx hb hU iX11 tyX11 tyX11_ok nmX11 hown hK hT hS 5 rfl rfl 25 (by decide) w810 (fun _ h9 => h9) rfl (by decide +kernel) rfl rfl (Nat.le_of_ble_eq_true rfl) dX11_findList_223 (fun H locs hT hS => ?_)
                        have hT : TP D A [(h11, aI (k 0) 100 anI), (h12, aI (k 0) 100 anI), (h13, aI (k 0) 100 anI), (h10, aJ (k 1) 900 (l1P )), (h1, aI (k 0) 36 anI), (h0, ob 8 [.int h0f0, .int h0f1, .int h0f2, .int h0f3, .int h0f4, .int h0f5, .ref h1, .ref h2, .int h0f8, .int h0f9, .ref h3, .ref h4, .ref h5, .ref h6, .ref h7, .ref h8, .ref h9, .int h0f17, .int h0f18, .int h0f19, .ref h10, .ref h11, .ref h12, .ref h13, .int y34, .int 0, .ref h14, .ref h15, .ref h16, .ref h17, .int h0f30, .int h0f31, .ref h18, .ref h19, .ref h20, .ref h21]), (h4, aJ (k 1) 9 anJ), (h5, aJ (k 1) 9 anJ), (h6, aJ (k 1) 9 anJ)] _ := hT
                        obtain ⟨v80, e_v80⟩ : ∃ x : Int32, x = y71 + Int32.ofInt 1 := ⟨_, rfl⟩
                        have f_v80 := e_v80.symm
                        have e_v80 : v80.toInt = y71.toInt + 1 := ai_add e_v80 rfl (show (Int32.ofInt 1).toInt = 1 from (by decide +kernel)) (by omega)
                        refine lv_iinc (v := v80) (lv' := [(2, .int v80), (0, .ref h0), (1, .int y61)]) hx hb dX11_findList_226 hl (k := 2) rfl f_v80 (by decide) rfl (fun ls hl => ?_)
                        refine lv_goto (tgt := 157) hx hb dX11_findList_229 (by decide) ?_
                        exact ih157_73 v80 (0) _ _ _ (by have := li_0; omega) (by have := li_0; omega)  (by have := li_0; omega) (hT.sub [4, 7, 8, 5, 6, 3, 0, 1, 2] (by decide) rfl) hS (lv_sub hl [1, 2, 0] rfl)
                      · skip
                        have c_79 := ni_ne c_79 rfl li_0
                        refine lv_aload_n hx hb dX11_findList_207 rfl (lv_at hl 0 rfl) ?_
                        refine lv_aload_n hx hb dX11_findList_208 rfl (lv_at hl 0 rfl) ?_
                        refine tz_get (ci := 8) (v := .ref h6) (C := RX11) (F := TX11) (N := 36) hx hb hU iX11 hown hK hT 5 rfl rfl 13 (by decide) w798 (fun _ h9 => h9) rfl dX11_findList_209 ?_
                        refine tcI (Tc := [(h0, ob 8 [.int h0f0, .int h0f1, .int h0f2, .int h0f3, .int h0f4, .int h0f5, .ref h1, .ref h2, .int h0f8, .int h0f9, .ref h3, .ref h4, .ref h5, .ref h6, .ref h7, .ref h8, .ref h9, .int h0f17, .int h0f18, .int h0f19, .ref h10, .ref h11, .ref h12, .ref h13, .int y34, .int y72, .ref h14, .ref h15, .ref h16, .ref h17, .int h0f30, .int h0f31, .ref h18, .ref h19, .ref h20, .ref h21]), (h6, aJ (k 1) 9 anJ), (h10, aJ (k 1) 900 (l1P ))]) (Tr := [(h11, aI (k 0) 100 anI), (h12, aI (k 0) 100 anI), (h13, aI (k 0) 100 anI), (h1, aI (k 0) 36 anI), (h4, aJ (k 1) 9 anJ), (h5, aJ (k 1) 9 anJ)]) (as := [h0, h6, h10]) (zcV (q0 := 5) (ci := 8) (As := [.ref h6]) (rest := [.ref h0]) (Tc := [(h0, ob 8 [.int h0f0, .int h0f1, .int h0f2, .int h0f3, .int h0f4, .int h0f5, .ref h1, .ref h2, .int h0f8, .int h0f9, .ref h3, .ref h4, .ref h5, .ref h6, .ref h7, .ref h8, .ref h9, .int h0f17, .int h0f18, .int h0f19, .ref h10, .ref h11, .ref h12, .ref h13, .int y34, .int y72, .ref h14, .ref h15, .ref h16, .ref h17, .int h0f30, .int h0f31, .ref h18, .ref h19, .ref h20, .ref h21]), (h6, aJ (k 1) 9 anJ), (h10, aJ (k 1) 900 (l1P ))]) hx hb hml hown hU hK hT rfl rfl [5, 8, 3] rfl (by decide) (cX11_placeOf_8624f l D k _ h0 h6 h10 h1 h2 h3 h4 h5 h7 h8 h9 h11 h12 h13 h14 h15 h16 h17 h18 h19 h20 h21 h0f0 h0f1 h0f2 h0f3 h0f4 h0f5 h0f8 h0f9 h0f17 h0f18 h0f19 y34 y72 h0f30 h0f31 (by omega) (by omega) (by omega) (by omega) (by omega) (by omega) (by omega) (by omega) (by omega) (by omega) (by omega) (by omega) (by omega) (by omega) (by omega)) w1051 w1048 w1050 w50 w72 hdX11_placeOf ⟨rfl, rfl⟩ ⟨Nat.le_of_ble_eq_true rfl, Nat.le_of_ble_eq_true rfl⟩ rfl hl.1 (Nat.le_of_ble_eq_true rfl) dX11_findList_212 ⟨Nat.le_of_ble_eq_true rfl, Nat.le_of_ble_eq_true rfl⟩) hT hS hA [5, 8, 3] [0, 1, 2, 4, 6, 7] rfl rfl rfl (by decide) (by decide) (fun r81 H locs hB J hS => ?_)
                        obtain ⟨b_r81, hT1⟩ := hB
                        have hT := J _ hT1
                        have hT : TP D A [(h11, aI (k 0) 100 anI), (h12, aI (k 0) 100 anI), (h13, aI (k 0) 100 anI), (h1, aI (k 0) 36 anI), (h4, aJ (k 1) 9 anJ), (h5, aJ (k 1) 9 anJ), (h0, ob 8 [.int h0f0, .int h0f1, .int h0f2, .int h0f3, .int h0f4, .int h0f5, .ref h1, .ref h2, .int h0f8, .int h0f9, .ref h3, .ref h4, .ref h5, .ref h6, .ref h7, .ref h8, .ref h9, .int h0f17, .int h0f18, .int h0f19, .ref h10, .ref h11, .ref h12, .ref h13, .int y34, .int y72, .ref h14, .ref h15, .ref h16, .ref h17, .int h0f30, .int h0f31, .ref h18, .ref h19, .ref h20, .ref h21]), (h6, aJ (k 1) 9 anJ), (h10, aJ (k 1) 900 (l1P ))] _ := hT
                        refine lv_if_lt (tgt := 222) hx hb dX11_findList_215 (by decide) (fun c_82 => ?_) (fun c_82 => ?_)
                        · skip
                          have c_82 := ni_lt c_82 rfl li_0
                          refine lv_iconst (v := 0) hx hb dX11_findList_222 (by decide) ?_
                          refine tz_put (ci := 8) (v := .int 0) (ty := .boolean) (C := RX11) (F := TX11) (N := 36) hx hb hU iX11 tyX11 tyX11_ok nmX11 hown hK hT hS 6 rfl rfl 25 (by decide) w810 (fun _ h9 => h9) rfl (by decide +kernel) rfl rfl (Nat.le_of_ble_eq_true rfl) dX11_findList_223 (fun H locs hT hS => ?_)
                          have hT : TP D A [(h11, aI (k 0) 100 anI), (h12, aI (k 0) 100 anI), (h13, aI (k 0) 100 anI), (h1, aI (k 0) 36 anI), (h4, aJ (k 1) 9 anJ), (h5, aJ (k 1) 9 anJ), (h0, ob 8 [.int h0f0, .int h0f1, .int h0f2, .int h0f3, .int h0f4, .int h0f5, .ref h1, .ref h2, .int h0f8, .int h0f9, .ref h3, .ref h4, .ref h5, .ref h6, .ref h7, .ref h8, .ref h9, .int h0f17, .int h0f18, .int h0f19, .ref h10, .ref h11, .ref h12, .ref h13, .int y34, .int 0, .ref h14, .ref h15, .ref h16, .ref h17, .int h0f30, .int h0f31, .ref h18, .ref h19, .ref h20, .ref h21]), (h6, aJ (k 1) 9 anJ), (h10, aJ (k 1) 900 (l1P ))] _ := hT
                          obtain ⟨v83, e_v83⟩ : ∃ x : Int32, x = y71 + Int32.ofInt 1 := ⟨_, rfl⟩
                          have f_v83 := e_v83.symm
                          have e_v83 : v83.toInt = y71.toInt + 1 := ai_add e_v83 rfl (show (Int32.ofInt 1).toInt = 1 from (by decide +kernel)) (by omega)
                          refine lv_iinc (v := v83) (lv' := [(2, .int v83), (0, .ref h0), (1, .int y61)]) hx hb dX11_findList_226 hl (k := 2) rfl f_v83 (by decide) rfl (fun ls hl => ?_)
                          refine lv_goto (tgt := 157) hx hb dX11_findList_229 (by decide) ?_
                          exact ih157_73 v83 (0) _ _ _ (by have := li_0; omega) (by have := li_0; omega)  (by have := li_0; omega) (hT.sub [3, 5, 7, 6, 4, 8, 0, 1, 2] (by decide) rfl) hS (lv_sub hl [1, 2, 0] rfl)
                        · skip
                          have c_82 := ni_nlt c_82 rfl li_0
                          refine lv_iconst (v := 1) hx hb dX11_findList_218 (by decide) ?_
                          refine lv_goto (tgt := 223) hx hb dX11_findList_219 (by decide) ?_
                          refine tz_put (ci := 8) (v := .int 1) (ty := .boolean) (C := RX11) (F := TX11) (N := 36) hx hb hU iX11 tyX11 tyX11_ok nmX11 hown hK hT hS 6 rfl rfl 25 (by decide) w810 (fun _ h9 => h9) rfl (by decide +kernel) rfl rfl (Nat.le_of_ble_eq_true rfl) dX11_findList_223 (fun H locs hT hS => ?_)
                          have hT : TP D A [(h11, aI (k 0) 100 anI), (h12, aI (k 0) 100 anI), (h13, aI (k 0) 100 anI), (h1, aI (k 0) 36 anI), (h4, aJ (k 1) 9 anJ), (h5, aJ (k 1) 9 anJ), (h0, ob 8 [.int h0f0, .int h0f1, .int h0f2, .int h0f3, .int h0f4, .int h0f5, .ref h1, .ref h2, .int h0f8, .int h0f9, .ref h3, .ref h4, .ref h5, .ref h6, .ref h7, .ref h8, .ref h9, .int h0f17, .int h0f18, .int h0f19, .ref h10, .ref h11, .ref h12, .ref h13, .int y34, .int 1, .ref h14, .ref h15, .ref h16, .ref h17, .int h0f30, .int h0f31, .ref h18, .ref h19, .ref h20, .ref h21]), (h6, aJ (k 1) 9 anJ), (h10, aJ (k 1) 900 (l1P ))] _ := hT
                          obtain ⟨v84, e_v84⟩ : ∃ x : Int32, x = y71 + Int32.ofInt 1 := ⟨_, rfl⟩
                          have f_v84 := e_v84.symm
                          have e_v84 : v84.toInt = y71.toInt + 1 := ai_add e_v84 rfl (show (Int32.ofInt 1).toInt = 1 from (by decide +kernel)) (by omega)
                          refine lv_iinc (v := v84) (lv' := [(2, .int v84), (0, .ref h0), (1, .int y61)]) hx hb dX11_findList_226 hl (k := 2) rfl f_v84 (by decide) rfl (fun ls hl => ?_)
                          refine lv_goto (tgt := 157) hx hb dX11_findList_229 (by decide) ?_
                          exact ih157_73 v84 (1) _ _ _ (by have := li_1; omega) (by have := li_1; omega)  (by have := li_1; omega) (hT.sub [3, 5, 7, 6, 4, 8, 0, 1, 2] (by decide) rfl) hS (lv_sub hl [1, 2, 0] rfl)
                exact lp157_73 ((h0f1.toInt + (-1) * (0 : Int32).toInt + 1).toNat + 1) (0) y62 _ _ _ (by have := li_0; omega) (by have := li_0; omega)  (Nat.lt_succ_self _) hT hS (lv_sub hl [1, 2, 0] rfl)
          exact lp147_63 ((y34.toInt + (-1) * (0 : Int32).toInt + 1).toNat + 1) (0) (1) _ _ _ (by have := li_0; have := li_1; omega) (by have := li_0; have := li_1; omega)  (Nat.lt_succ_self _) hT hS (lv_sub hl [1, 0] rfl)
        · skip
          have c_36 := ni_nle c_36 rfl rfl
          refine lv_iconst (v := 0) hx hb dX11_findList_43 (by decide) ?_
          refine lv_istore_n (lv' := [(2, .int 0), (0, .ref h0), (1, .int y33)]) hx hb dX11_findList_44 rfl hl (by decide) rfl (fun ls hl => ?_)
          have lp45_93 : ∀ (n : Nat) (y91 : Int32) (y92 : Int32) (H : Heap) (locs : List Loc) (ls : Array Slot), (0 ≤ y91.toInt ∧ y91.toInt ≤ 4) → (1 ≤ y92.toInt ∧ y92.toInt ≤ 100) → (h0f1.toInt + (-1) * y91.toInt + 1).toNat < n → TP D A [(h1, aI (k 0) 36 anI), (h5, aJ (k 1) 9 anJ), (h6, aJ (k 1) 9 anJ), (h0, ob 8 [.int h0f0, .int h0f1, .int h0f2, .int h0f3, .int h0f4, .int h0f5, .ref h1, .ref h2, .int h0f8, .int h0f9, .ref h3, .ref h4, .ref h5, .ref h6, .ref h7, .ref h8, .ref h9, .int h0f17, .int h0f18, .int h0f19, .ref h10, .ref h11, .ref h12, .ref h13, .int y92, .int h0f25, .ref h14, .ref h15, .ref h16, .ref h17, .int h0f30, .int h0f31, .ref h18, .ref h19, .ref h20, .ref h21]), (h4, aJ (k 1) 9 anJ), (h10, aJ (k 1) 900 (l1P )), (h11, aI (k 0) 100 anI), (h12, aI (k 0) 100 anI), (h13, aI (k 0) 100 anI)] H → va_S A s.heap H locs → lv_has ls 3 [(0, .ref h0), (1, .int y33), (2, .int y91)] → W p l e Rm_cX11_findList_9a1c7 s m args below meth c H locs 0 0 Q (F0 m 45 ls []) := by
            intro n
            induction n with
            | zero => intro y91 y92 H locs ls b_y91 b_y92 hm hT hS hl; exact absurd hm (Nat.not_lt_zero _)
            | succ n ih =>
              intro y91 y92 H locs ls b_y91 b_y92 hm hT hS hl
              have ih45_93 := ih
              clear ih
              refine lv_iload_n hx hb dX11_findList_45 rfl (lv_at hl 2 rfl) ?_
              refine lv_aload_n hx hb dX11_findList_46 rfl (lv_at hl 0 rfl) ?_
              refine tz_get (ci := 8) (v := .int h0f1) (C := RX11) (F := TX11) (N := 36) hx hb hU iX11 hown hK hT 3 rfl rfl 1 (by decide) w786 (fun _ h9 => h9) rfl dX11_findList_47 ?_
              refine lv_icmp_ge (tgt := 134) hx hb dX11_findList_50 (by decide) (fun c_94 => ?_) (fun c_94 => ?_)
              · skip
                have c_94 := ni_le c_94 rfl rfl
                obtain ⟨v95, e_v95⟩ : ∃ x : Int32, x = y33 + Int32.ofInt 1 := ⟨_, rfl⟩
                have f_v95 := e_v95.symm
                have e_v95 : v95.toInt = y33.toInt + 1 := ai_add e_v95 rfl (show (Int32.ofInt 1).toInt = 1 from (by decide +kernel)) (by omega)
                refine lv_iinc (v := v95) (lv' := [(1, .int v95), (0, .ref h0), (2, .int y91)]) hx hb dX11_findList_134 hl (k := 1) rfl f_v95 (by decide) rfl (fun ls hl => ?_)
                refine lv_goto (tgt := 35) hx hb dX11_findList_137 (by decide) ?_
                exact ih35_35 v95 y92 _ _ _ (by omega) (by omega)  (by omega) hT hS (lv_sub hl [1, 0] rfl)
              · skip
                have c_94 := ni_nle c_94 rfl rfl
                refine lv_aload_n hx hb dX11_findList_53 rfl (lv_at hl 0 rfl) ?_
                refine tz_get (ci := 8) (v := .int y92) (C := RX11) (F := TX11) (N := 36) hx hb hU iX11 hown hK hT 3 rfl rfl 24 (by decide) w809 (fun _ h9 => h9) rfl dX11_findList_54 ?_
                refine lv_bipush (v := 100) hx hb dX11_findList_57 (by decide) ?_
                refine lv_icmp_ge (tgt := 134) hx hb dX11_findList_59 (by decide) (fun c_96 => ?_) (fun c_96 => ?_)
                · skip
                  have c_96 := ni_le c_96 li_100 rfl
                  obtain ⟨v97, e_v97⟩ : ∃ x : Int32, x = y33 + Int32.ofInt 1 := ⟨_, rfl⟩
                  have f_v97 := e_v97.symm
                  have e_v97 : v97.toInt = y33.toInt + 1 := ai_add e_v97 rfl (show (Int32.ofInt 1).toInt = 1 from (by decide +kernel)) (by omega)
                  refine lv_iinc (v := v97) (lv' := [(1, .int v97), (0, .ref h0), (2, .int y91)]) hx hb dX11_findList_134 hl (k := 1) rfl f_v97 (by decide) rfl (fun ls hl => ?_)
                  refine lv_goto (tgt := 35) hx hb dX11_findList_137 (by decide) ?_
                  exact ih35_35 v97 y92 _ _ _ (by omega) (by omega)  (by omega) hT hS (lv_sub hl [1, 0] rfl)
                · skip
                  have c_96 := ni_nle c_96 li_100 rfl
                  refine lv_aload_n hx hb dX11_findList_62 rfl (lv_at hl 0 rfl) ?_
                  refine lv_iload_n hx hb dX11_findList_63 rfl (lv_at hl 1 rfl) ?_
                  refine lv_aload_n hx hb dX11_findList_64 rfl (lv_at hl 0 rfl) ?_
                  refine tz_get (ci := 8) (v := .ref h4) (C := RX11) (F := TX11) (N := 36) hx hb hU iX11 hown hK hT 3 rfl rfl 11 (by decide) w796 (fun _ h9 => h9) rfl dX11_findList_65 ?_
                  refine tcV (Tc := [(h0, ob 8 [.int h0f0, .int h0f1, .int h0f2, .int h0f3, .int h0f4, .int h0f5, .ref h1, .ref h2, .int h0f8, .int h0f9, .ref h3, .ref h4, .ref h5, .ref h6, .ref h7, .ref h8, .ref h9, .int h0f17, .int h0f18, .int h0f19, .ref h10, .ref h11, .ref h12, .ref h13, .int y92, .int h0f25, .ref h14, .ref h15, .ref h16, .ref h17, .int h0f30, .int h0f31, .ref h18, .ref h19, .ref h20, .ref h21]), (h4, aJ (k 1) 9 anJ), (h10, aJ (k 1) 900 (l1P ))]) (Tr := [(h1, aI (k 0) 36 anI), (h5, aJ (k 1) 9 anJ), (h6, aJ (k 1) 9 anJ), (h11, aI (k 0) 100 anI), (h12, aI (k 0) 100 anI), (h13, aI (k 0) 100 anI)]) (as := [h0, h4, h10]) (zcV (q0 := 3) (ci := 8) (As := [.int y33, .ref h4]) (rest := []) (Tc := [(h0, ob 8 [.int h0f0, .int h0f1, .int h0f2, .int h0f3, .int h0f4, .int h0f5, .ref h1, .ref h2, .int h0f8, .int h0f9, .ref h3, .ref h4, .ref h5, .ref h6, .ref h7, .ref h8, .ref h9, .int h0f17, .int h0f18, .int h0f19, .ref h10, .ref h11, .ref h12, .ref h13, .int y92, .int h0f25, .ref h14, .ref h15, .ref h16, .ref h17, .int h0f30, .int h0f31, .ref h18, .ref h19, .ref h20, .ref h21]), (h4, aJ (k 1) 9 anJ), (h10, aJ (k 1) 900 (l1P ))]) hx hb hml hown hU hK hT rfl rfl [3, 4, 5] rfl (by decide) (cX11_takesElement_cde2b l D k _ h0 h4 h10 h1 h2 h3 h5 h6 h7 h8 h9 h11 h12 h13 h14 h15 h16 h17 h18 h19 h20 h21 y33 h0f0 h0f1 h0f2 h0f3 h0f4 h0f5 h0f8 h0f9 h0f17 h0f18 h0f19 y92 h0f25 h0f30 h0f31 (by omega) (by omega) (by omega) (by omega) (by omega) (by omega) (by omega) (by omega) (by omega) (by omega) (by omega) (by omega) (by omega) (by omega) (by omega) (by omega)) w1047 w1044 w1046 w49 w72 hdX11_takesElement ⟨rfl, rfl⟩ ⟨Nat.le_of_ble_eq_true rfl, Nat.le_of_ble_eq_true rfl⟩ rfl hl.1 (Nat.le_of_ble_eq_true rfl) dX11_findList_68 ⟨Nat.le_of_ble_eq_true rfl, Nat.le_of_ble_eq_true rfl⟩) hT hS hA [3, 4, 5] [0, 1, 2, 6, 7, 8] rfl rfl rfl (by decide) (by decide) (fun H locs hB J hS => ?_)
                  have hT1 := hB
                  have hT := J _ hT1
                  have hT : TP D A [(h1, aI (k 0) 36 anI), (h5, aJ (k 1) 9 anJ), (h6, aJ (k 1) 9 anJ), (h11, aI (k 0) 100 anI), (h12, aI (k 0) 100 anI), (h13, aI (k 0) 100 anI), (h0, ob 8 [.int h0f0, .int h0f1, .int h0f2, .int h0f3, .int h0f4, .int h0f5, .ref h1, .ref h2, .int h0f8, .int h0f9, .ref h3, .ref h4, .ref h5, .ref h6, .ref h7, .ref h8, .ref h9, .int h0f17, .int h0f18, .int h0f19, .ref h10, .ref h11, .ref h12, .ref h13, .int y92, .int h0f25, .ref h14, .ref h15, .ref h16, .ref h17, .int h0f30, .int h0f31, .ref h18, .ref h19, .ref h20, .ref h21]), (h4, aJ (k 1) 9 anJ), (h10, aJ (k 1) 900 (l1P ))] _ := hT
                  refine lv_aload_n hx hb dX11_findList_71 rfl (lv_at hl 0 rfl) ?_
                  refine lv_iload_n hx hb dX11_findList_72 rfl (lv_at hl 2 rfl) ?_
                  refine lv_aload_n hx hb dX11_findList_73 rfl (lv_at hl 0 rfl) ?_
                  refine tz_get (ci := 8) (v := .ref h5) (C := RX11) (F := TX11) (N := 36) hx hb hU iX11 hown hK hT 6 rfl rfl 12 (by decide) w797 (fun _ h9 => h9) rfl dX11_findList_74 ?_
                  refine tcV (Tc := [(h0, ob 8 [.int h0f0, .int h0f1, .int h0f2, .int h0f3, .int h0f4, .int h0f5, .ref h1, .ref h2, .int h0f8, .int h0f9, .ref h3, .ref h4, .ref h5, .ref h6, .ref h7, .ref h8, .ref h9, .int h0f17, .int h0f18, .int h0f19, .ref h10, .ref h11, .ref h12, .ref h13, .int y92, .int h0f25, .ref h14, .ref h15, .ref h16, .ref h17, .int h0f30, .int h0f31, .ref h18, .ref h19, .ref h20, .ref h21]), (h5, aJ (k 1) 9 anJ), (h1, aI (k 0) 36 anI)]) (Tr := [(h6, aJ (k 1) 9 anJ), (h11, aI (k 0) 100 anI), (h12, aI (k 0) 100 anI), (h13, aI (k 0) 100 anI), (h4, aJ (k 1) 9 anJ), (h10, aJ (k 1) 900 (l1P ))]) (as := [h0, h5, h1]) (zcV (q0 := 6) (ci := 8) (As := [.int y91, .ref h5]) (rest := []) (Tc := [(h0, ob 8 [.int h0f0, .int h0f1, .int h0f2, .int h0f3, .int h0f4, .int h0f5, .ref h1, .ref h2, .int h0f8, .int h0f9, .ref h3, .ref h4, .ref h5, .ref h6, .ref h7, .ref h8, .ref h9, .int h0f17, .int h0f18, .int h0f19, .ref h10, .ref h11, .ref h12, .ref h13, .int y92, .int h0f25, .ref h14, .ref h15, .ref h16, .ref h17, .int h0f30, .int h0f31, .ref h18, .ref h19, .ref h20, .ref h21]), (h5, aJ (k 1) 9 anJ), (h1, aI (k 0) 36 anI)]) hx hb hml hown hU hK hT rfl rfl [6, 1, 0] rfl (by decide) (cX11_takes_73548 l D k _ h0 h5 h1 h2 h3 h4 h6 h7 h8 h9 h10 h11 h12 h13 h14 h15 h16 h17 h18 h19 h20 h21 y91 h0f0 h0f1 h0f2 h0f3 h0f4 h0f5 h0f8 h0f9 h0f17 h0f18 h0f19 y92 h0f25 h0f30 h0f31 (by omega) (by omega) (by omega) (by omega) (by omega) (by omega) (by omega) (by omega) (by omega) (by omega) (by omega) (by omega) (by omega) (by omega) (by omega) (by omega)) w939 w936 w938 w32 w72 hdX11_takes ⟨rfl, rfl⟩ ⟨Nat.le_of_ble_eq_true rfl, Nat.le_of_ble_eq_true rfl⟩ rfl hl.1 (Nat.le_of_ble_eq_true rfl) dX11_findList_77 ⟨Nat.le_of_ble_eq_true rfl, Nat.le_of_ble_eq_true rfl⟩) hT hS hA [6, 1, 0] [2, 3, 4, 5, 7, 8] rfl rfl rfl (by decide) (by decide) (fun H locs hB J hS => ?_)
                  have hT1 := hB
                  have hT := J _ hT1
                  have hT : TP D A [(h6, aJ (k 1) 9 anJ), (h11, aI (k 0) 100 anI), (h12, aI (k 0) 100 anI), (h13, aI (k 0) 100 anI), (h4, aJ (k 1) 9 anJ), (h10, aJ (k 1) 900 (l1P )), (h0, ob 8 [.int h0f0, .int h0f1, .int h0f2, .int h0f3, .int h0f4, .int h0f5, .ref h1, .ref h2, .int h0f8, .int h0f9, .ref h3, .ref h4, .ref h5, .ref h6, .ref h7, .ref h8, .ref h9, .int h0f17, .int h0f18, .int h0f19, .ref h10, .ref h11, .ref h12, .ref h13, .int y92, .int h0f25, .ref h14, .ref h15, .ref h16, .ref h17, .int h0f30, .int h0f31, .ref h18, .ref h19, .ref h20, .ref h21]), (h5, aJ (k 1) 9 anJ), (h1, aI (k 0) 36 anI)] _ := hT
                  refine lv_aload_n hx hb dX11_findList_80 rfl (lv_at hl 0 rfl) ?_
                  refine lv_aload_n hx hb dX11_findList_81 rfl (lv_at hl 0 rfl) ?_
                  refine tz_get (ci := 8) (v := .ref h4) (C := RX11) (F := TX11) (N := 36) hx hb hU iX11 hown hK hT 6 rfl rfl 11 (by decide) w796 (fun _ h9 => h9) rfl dX11_findList_82 ?_
                  refine lv_aload_n hx hb dX11_findList_85 rfl (lv_at hl 0 rfl) ?_
                  refine tz_get (ci := 8) (v := .ref h5) (C := RX11) (F := TX11) (N := 36) hx hb hU iX11 hown hK hT 6 rfl rfl 12 (by decide) w797 (fun _ h9 => h9) rfl dX11_findList_86 ?_
                  refine lv_aload_n hx hb dX11_findList_89 rfl (lv_at hl 0 rfl) ?_
                  refine tz_get (ci := 8) (v := .ref h6) (C := RX11) (F := TX11) (N := 36) hx hb hU iX11 hown hK hT 6 rfl rfl 13 (by decide) w798 (fun _ h9 => h9) rfl dX11_findList_90 ?_
                  refine tcV (Tc := [(h0, ob 8 [.int h0f0, .int h0f1, .int h0f2, .int h0f3, .int h0f4, .int h0f5, .ref h1, .ref h2, .int h0f8, .int h0f9, .ref h3, .ref h4, .ref h5, .ref h6, .ref h7, .ref h8, .ref h9, .int h0f17, .int h0f18, .int h0f19, .ref h10, .ref h11, .ref h12, .ref h13, .int y92, .int h0f25, .ref h14, .ref h15, .ref h16, .ref h17, .int h0f30, .int h0f31, .ref h18, .ref h19, .ref h20, .ref h21]), (h4, aJ (k 1) 9 anJ), (h5, aJ (k 1) 9 anJ), (h6, aJ (k 1) 9 anJ)]) (Tr := [(h11, aI (k 0) 100 anI), (h12, aI (k 0) 100 anI), (h13, aI (k 0) 100 anI), (h10, aJ (k 1) 900 (l1P )), (h1, aI (k 0) 36 anI)]) (as := [h0, h4, h5, h6]) (zcV (q0 := 6) (ci := 8) (As := [.ref h4, .ref h5, .ref h6]) (rest := []) (Tc := [(h0, ob 8 [.int h0f0, .int h0f1, .int h0f2, .int h0f3, .int h0f4, .int h0f5, .ref h1, .ref h2, .int h0f8, .int h0f9, .ref h3, .ref h4, .ref h5, .ref h6, .ref h7, .ref h8, .ref h9, .int h0f17, .int h0f18, .int h0f19, .ref h10, .ref h11, .ref h12, .ref h13, .int y92, .int h0f25, .ref h14, .ref h15, .ref h16, .ref h17, .int h0f30, .int h0f31, .ref h18, .ref h19, .ref h20, .ref h21]), (h4, aJ (k 1) 9 anJ), (h5, aJ (k 1) 9 anJ), (h6, aJ (k 1) 9 anJ)]) hx hb hml hown hU hK hT rfl rfl [6, 4, 7, 0] rfl (by decide) (cX11_times_50a35 l D k _ h0 h4 h5 h6 h1 h2 h3 h7 h8 h9 h10 h11 h12 h13 h14 h15 h16 h17 h18 h19 h20 h21 h0f0 h0f1 h0f2 h0f3 h0f4 h0f5 h0f8 h0f9 h0f17 h0f18 h0f19 y92 h0f25 h0f30 h0f31 (by omega) (by omega) (by omega) (by omega) (by omega) (by omega) (by omega) (by omega) (by omega) (by omega) (by omega) (by omega) (by omega) (by omega) (by omega)) w943 w940 w942 w33 w72 hdX11_times ⟨rfl, rfl⟩ ⟨Nat.le_of_ble_eq_true rfl, Nat.le_of_ble_eq_true rfl⟩ rfl hl.1 (Nat.le_of_ble_eq_true rfl) dX11_findList_93 ⟨Nat.le_of_ble_eq_true rfl, Nat.le_of_ble_eq_true rfl⟩) hT hS hA [6, 4, 7, 0] [1, 2, 3, 5, 8] rfl rfl rfl (by decide) (by decide) (fun H locs hB J hS => ?_)
                  have hT1 := hB
                  have hT := J _ hT1
                  have hT : TP D A [(h11, aI (k 0) 100 anI), (h12, aI (k 0) 100 anI), (h13, aI (k 0) 100 anI), (h10, aJ (k 1) 900 (l1P )), (h1, aI (k 0) 36 anI), (h0, ob 8 [.int h0f0, .int h0f1, .int h0f2, .int h0f3, .int h0f4, .int h0f5, .ref h1, .ref h2, .int h0f8, .int h0f9, .ref h3, .ref h4, .ref h5, .ref h6, .ref h7, .ref h8, .ref h9, .int h0f17, .int h0f18, .int h0f19, .ref h10, .ref h11, .ref h12, .ref h13, .int y92, .int h0f25, .ref h14, .ref h15, .ref h16, .ref h17, .int h0f30, .int h0f31, .ref h18, .ref h19, .ref h20, .ref h21]), (h4, aJ (k 1) 9 anJ), (h5, aJ (k 1) 9 anJ), (h6, aJ (k 1) 9 anJ)] _ := hT
                  refine lv_aload_n hx hb dX11_findList_96 rfl (lv_at hl 0 rfl) ?_
                  refine lv_aload_n hx hb dX11_findList_97 rfl (lv_at hl 0 rfl) ?_
                  refine tz_get (ci := 8) (v := .ref h6) (C := RX11) (F := TX11) (N := 36) hx hb hU iX11 hown hK hT 5 rfl rfl 13 (by decide) w798 (fun _ h9 => h9) rfl dX11_findList_98 ?_
                  refine tcI (Tc := [(h0, ob 8 [.int h0f0, .int h0f1, .int h0f2, .int h0f3, .int h0f4, .int h0f5, .ref h1, .ref h2, .int h0f8, .int h0f9, .ref h3, .ref h4, .ref h5, .ref h6, .ref h7, .ref h8, .ref h9, .int h0f17, .int h0f18, .int h0f19, .ref h10, .ref h11, .ref h12, .ref h13, .int y92, .int h0f25, .ref h14, .ref h15, .ref h16, .ref h17, .int h0f30, .int h0f31, .ref h18, .ref h19, .ref h20, .ref h21]), (h6, aJ (k 1) 9 anJ), (h10, aJ (k 1) 900 (l1P ))]) (Tr := [(h11, aI (k 0) 100 anI), (h12, aI (k 0) 100 anI), (h13, aI (k 0) 100 anI), (h1, aI (k 0) 36 anI), (h4, aJ (k 1) 9 anJ), (h5, aJ (k 1) 9 anJ)]) (as := [h0, h6, h10]) (zcV (q0 := 5) (ci := 8) (As := [.ref h6]) (rest := []) (Tc := [(h0, ob 8 [.int h0f0, .int h0f1, .int h0f2, .int h0f3, .int h0f4, .int h0f5, .ref h1, .ref h2, .int h0f8, .int h0f9, .ref h3, .ref h4, .ref h5, .ref h6, .ref h7, .ref h8, .ref h9, .int h0f17, .int h0f18, .int h0f19, .ref h10, .ref h11, .ref h12, .ref h13, .int y92, .int h0f25, .ref h14, .ref h15, .ref h16, .ref h17, .int h0f30, .int h0f31, .ref h18, .ref h19, .ref h20, .ref h21]), (h6, aJ (k 1) 9 anJ), (h10, aJ (k 1) 900 (l1P ))]) hx hb hml hown hU hK hT rfl rfl [5, 8, 3] rfl (by decide) (cX11_placeOf_8624f l D k _ h0 h6 h10 h1 h2 h3 h4 h5 h7 h8 h9 h11 h12 h13 h14 h15 h16 h17 h18 h19 h20 h21 h0f0 h0f1 h0f2 h0f3 h0f4 h0f5 h0f8 h0f9 h0f17 h0f18 h0f19 y92 h0f25 h0f30 h0f31 (by omega) (by omega) (by omega) (by omega) (by omega) (by omega) (by omega) (by omega) (by omega) (by omega) (by omega) (by omega) (by omega) (by omega) (by omega)) w1051 w1048 w1050 w50 w72 hdX11_placeOf ⟨rfl, rfl⟩ ⟨Nat.le_of_ble_eq_true rfl, Nat.le_of_ble_eq_true rfl⟩ rfl hl.1 (Nat.le_of_ble_eq_true rfl) dX11_findList_101 ⟨Nat.le_of_ble_eq_true rfl, Nat.le_of_ble_eq_true rfl⟩) hT hS hA [5, 8, 3] [0, 1, 2, 4, 6, 7] rfl rfl rfl (by decide) (by decide) (fun r101 H locs hB J hS => ?_)
                  obtain ⟨b_r101, hT1⟩ := hB
                  have hT := J _ hT1
                  have hT : TP D A [(h11, aI (k 0) 100 anI), (h12, aI (k 0) 100 anI), (h13, aI (k 0) 100 anI), (h1, aI (k 0) 36 anI), (h4, aJ (k 1) 9 anJ), (h5, aJ (k 1) 9 anJ), (h0, ob 8 [.int h0f0, .int h0f1, .int h0f2, .int h0f3, .int h0f4, .int h0f5, .ref h1, .ref h2, .int h0f8, .int h0f9, .ref h3, .ref h4, .ref h5, .ref h6, .ref h7, .ref h8, .ref h9, .int h0f17, .int h0f18, .int h0f19, .ref h10, .ref h11, .ref h12, .ref h13, .int y92, .int h0f25, .ref h14, .ref h15, .ref h16, .ref h17, .int h0f30, .int h0f31, .ref h18, .ref h19, .ref h20, .ref h21]), (h6, aJ (k 1) 9 anJ), (h10, aJ (k 1) 900 (l1P ))] _ := hT
                  refine lv_if_ge (tgt := 128) hx hb dX11_findList_104 (by decide) (fun c_102 => ?_) (fun c_102 => ?_)
                  · skip
                    have c_102 := ni_le c_102 li_0 rfl
                    obtain ⟨v103, e_v103⟩ : ∃ x : Int32, x = y91 + Int32.ofInt 1 := ⟨_, rfl⟩
                    have f_v103 := e_v103.symm
                    have e_v103 : v103.toInt = y91.toInt + 1 := ai_add e_v103 rfl (show (Int32.ofInt 1).toInt = 1 from (by decide +kernel)) (by omega)
                    refine lv_iinc (v := v103) (lv' := [(2, .int v103), (0, .ref h0), (1, .int y33)]) hx hb dX11_findList_128 hl (k := 2) rfl f_v103 (by decide) rfl (fun ls hl => ?_)
                    refine lv_goto (tgt := 45) hx hb dX11_findList_131 (by decide) ?_
                    exact ih45_93 v103 y92 _ _ _ (by omega) (by omega)  (by omega) (hT.sub [3, 5, 7, 6, 4, 8, 0, 1, 2] (by decide) rfl) hS (lv_sub hl [1, 2, 0] rfl)
                  · skip
                    have c_102 := ni_nle c_102 li_0 rfl
                    refine lv_aload_n hx hb dX11_findList_107 rfl (lv_at hl 0 rfl) ?_
                    refine lv_aload_n hx hb dX11_findList_108 rfl (lv_at hl 0 rfl) ?_
                    refine tz_get (ci := 8) (v := .ref h6) (C := RX11) (F := TX11) (N := 36) hx hb hU iX11 hown hK hT 6 rfl rfl 13 (by decide) w798 (fun _ h9 => h9) rfl dX11_findList_109 ?_
                    refine tcI (Tc := [(h0, ob 8 [.int h0f0, .int h0f1, .int h0f2, .int h0f3, .int h0f4, .int h0f5, .ref h1, .ref h2, .int h0f8, .int h0f9, .ref h3, .ref h4, .ref h5, .ref h6, .ref h7, .ref h8, .ref h9, .int h0f17, .int h0f18, .int h0f19, .ref h10, .ref h11, .ref h12, .ref h13, .int y92, .int h0f25, .ref h14, .ref h15, .ref h16, .ref h17, .int h0f30, .int h0f31, .ref h18, .ref h19, .ref h20, .ref h21]), (h6, aJ (k 1) 9 anJ)]) (Tr := [(h11, aI (k 0) 100 anI), (h12, aI (k 0) 100 anI), (h13, aI (k 0) 100 anI), (h1, aI (k 0) 36 anI), (h4, aJ (k 1) 9 anJ), (h5, aJ (k 1) 9 anJ), (h10, aJ (k 1) 900 (l1P ))]) (as := [h0, h6]) (zcV (q0 := 6) (ci := 8) (As := [.ref h6]) (rest := []) (Tc := [(h0, ob 8 [.int h0f0, .int h0f1, .int h0f2, .int h0f3, .int h0f4, .int h0f5, .ref h1, .ref h2, .int h0f8, .int h0f9, .ref h3, .ref h4, .ref h5, .ref h6, .ref h7, .ref h8, .ref h9, .int h0f17, .int h0f18, .int h0f19, .ref h10, .ref h11, .ref h12, .ref h13, .int y92, .int h0f25, .ref h14, .ref h15, .ref h16, .ref h17, .int h0f30, .int h0f31, .ref h18, .ref h19, .ref h20, .ref h21]), (h6, aJ (k 1) 9 anJ)]) hx hb hml hown hU hK hT rfl rfl [6, 7] rfl (by decide) (cX11_isGreat_b90c4 l D k _ h0 h6 h1 h2 h3 h4 h5 h7 h8 h9 h10 h11 h12 h13 h14 h15 h16 h17 h18 h19 h20 h21 h0f0 h0f1 h0f2 h0f3 h0f4 h0f5 h0f8 h0f9 h0f17 h0f18 h0f19 y92 h0f25 h0f30 h0f31 (by omega) (by omega) (by omega) (by omega) (by omega) (by omega) (by omega) (by omega) (by omega) (by omega) (by omega) (by omega) (by omega) (by omega) (by omega)) w980 w977 w979 w39 w72 hdX11_isGreat ⟨rfl, rfl⟩ ⟨Nat.le_of_ble_eq_true rfl, Nat.le_of_ble_eq_true rfl⟩ rfl hl.1 (Nat.le_of_ble_eq_true rfl) dX11_findList_112 ⟨Nat.le_of_ble_eq_true rfl, Nat.le_of_ble_eq_true rfl⟩) hT hS hA [6, 7] [0, 1, 2, 3, 4, 5, 8] rfl rfl rfl (by decide) (by decide) (fun r104 H locs hB J hS => ?_)
                    rcases hB with ⟨v105, v106, b_v105, b_v106, c_107, c_108, c_109, c_110, rfl, hT1⟩ | ⟨v111, v112, b_v111, b_v112, c_113, c_114, c_115, c_116, rfl, hT1⟩
                    · skip
                      have hT := J _ hT1
                      have hT : TP D A [(h11, aI (k 0) 100 anI), (h12, aI (k 0) 100 anI), (h13, aI (k 0) 100 anI), (h1, aI (k 0) 36 anI), (h4, aJ (k 1) 9 anJ), (h5, aJ (k 1) 9 anJ), (h10, aJ (k 1) 900 (l1P )), (h0, ob 8 [.int h0f0, .int h0f1, .int h0f2, .int h0f3, .int h0f4, .int h0f5, .ref h1, .ref h2, .int h0f8, .int h0f9, .ref h3, .ref h4, .ref h5, .ref h6, .ref h7, .ref h8, .ref h9, .int h0f17, .int h0f18, .int h0f19, .ref h10, .ref h11, .ref h12, .ref h13, .int y92, .int h0f25, .ref h14, .ref h15, .ref h16, .ref h17, .int h0f30, .int h0f31, .ref h18, .ref h19, .ref h20, .ref h21]), (h6, aJ (k 1) 9 (b9P ))] _ := hT
                      refine lv_if_ne (tgt := 128) hx hb dX11_findList_115 (by decide) (fun c_117 => ?_) (fun c_117 => ?_)
                      · skip
                        have c_117 := ni_ne c_117 rfl li_0
                        exfalso; omega
                      · skip
                        have c_117 := ni_eq c_117 rfl li_0
                        refine lv_aload_n hx hb dX11_findList_118 rfl (lv_at hl 0 rfl) ?_
                        refine lv_aload_n hx hb dX11_findList_119 rfl (lv_at hl 0 rfl) ?_
                        refine tz_get (ci := 8) (v := .ref h6) (C := RX11) (F := TX11) (N := 36) hx hb hU iX11 hown hK hT 7 rfl rfl 13 (by decide) w798 (fun _ h9 => h9) rfl dX11_findList_120 ?_
                        refine lv_iload_n hx hb dX11_findList_123 rfl (lv_at hl 1 rfl) ?_
                        refine lv_iload_n hx hb dX11_findList_124 rfl (lv_at hl 2 rfl) ?_
                        refine tcV (Tc := [(h0, ob 8 [.int h0f0, .int h0f1, .int h0f2, .int h0f3, .int h0f4, .int h0f5, .ref h1, .ref h2, .int h0f8, .int h0f9, .ref h3, .ref h4, .ref h5, .ref h6, .ref h7, .ref h8, .ref h9, .int h0f17, .int h0f18, .int h0f19, .ref h10, .ref h11, .ref h12, .ref h13, .int y92, .int h0f25, .ref h14, .ref h15, .ref h16, .ref h17, .int h0f30, .int h0f31, .ref h18, .ref h19, .ref h20, .ref h21]), (h6, aJ (k 1) 9 (b9P )), (h10, aJ (k 1) 900 (l1P )), (h11, aI (k 0) 100 anI), (h12, aI (k 0) 100 anI), (h13, aI (k 0) 100 anI)]) (Tr := [(h1, aI (k 0) 36 anI), (h4, aJ (k 1) 9 anJ), (h5, aJ (k 1) 9 anJ)]) (as := [h0, h6, h10, h11, h12, h13]) (zcV (q0 := 7) (ci := 8) (As := [.ref h6, .int y33, .int y91]) (rest := []) (Tc := [(h0, ob 8 [.int h0f0, .int h0f1, .int h0f2, .int h0f3, .int h0f4, .int h0f5, .ref h1, .ref h2, .int h0f8, .int h0f9, .ref h3, .ref h4, .ref h5, .ref h6, .ref h7, .ref h8, .ref h9, .int h0f17, .int h0f18, .int h0f19, .ref h10, .ref h11, .ref h12, .ref h13, .int y92, .int h0f25, .ref h14, .ref h15, .ref h16, .ref h17, .int h0f30, .int h0f31, .ref h18, .ref h19, .ref h20, .ref h21]), (h6, aJ (k 1) 9 (b9P )), (h10, aJ (k 1) 900 (l1P )), (h11, aI (k 0) 100 anI), (h12, aI (k 0) 100 anI), (h13, aI (k 0) 100 anI)]) hx hb hml hown hU hK hT rfl rfl [7, 8, 6, 0, 1, 2] rfl (by decide) (cX11_lists_5410c l D k _ h0 h6 h10 h11 h12 h13 h1 h2 h3 h4 h5 h7 h8 h9 h14 h15 h16 h17 h18 h19 h20 h21 y33 y91 h0f0 h0f1 h0f2 h0f3 h0f4 h0f5 h0f8 h0f9 h0f17 h0f18 h0f19 y92 h0f25 h0f30 h0f31 (by omega) (by omega) (by omega) (by omega) (by omega) (by omega) (by omega) (by omega) (by omega) (by omega) (by omega) (by omega) (by omega) (by omega) (by omega) (by omega) (by omega)) w1043 w1040 w1042 w48 w72 hdX11_lists ⟨rfl, rfl⟩ ⟨Nat.le_of_ble_eq_true rfl, Nat.le_of_ble_eq_true rfl⟩ rfl hl.1 (Nat.le_of_ble_eq_true rfl) dX11_findList_125 ⟨Nat.le_of_ble_eq_true rfl, Nat.le_of_ble_eq_true rfl⟩) hT hS hA [7, 8, 6, 0, 1, 2] [3, 4, 5] rfl rfl rfl (by decide) (by decide) (fun H locs hB J hS => ?_)
                        obtain ⟨v119, b_v119, hT1⟩ := hB
                        have hT := J _ hT1
                        have hT : TP D A [(h1, aI (k 0) 36 anI), (h4, aJ (k 1) 9 anJ), (h5, aJ (k 1) 9 anJ), (h0, ob 8 [.int h0f0, .int h0f1, .int h0f2, .int h0f3, .int h0f4, .int h0f5, .ref h1, .ref h2, .int h0f8, .int h0f9, .ref h3, .ref h4, .ref h5, .ref h6, .ref h7, .ref h8, .ref h9, .int h0f17, .int h0f18, .int h0f19, .ref h10, .ref h11, .ref h12, .ref h13, .int v119, .int h0f25, .ref h14, .ref h15, .ref h16, .ref h17, .int h0f30, .int h0f31, .ref h18, .ref h19, .ref h20, .ref h21]), (h6, aJ (k 1) 9 (b9P )), (h10, aJ (k 1) 900 (l1P )), (h11, aI (k 0) 100 anI), (h12, aI (k 0) 100 anI), (h13, aI (k 0) 100 anI)] _ := hT
                        obtain ⟨v120, e_v120⟩ : ∃ x : Int32, x = y91 + Int32.ofInt 1 := ⟨_, rfl⟩
                        have f_v120 := e_v120.symm
                        have e_v120 : v120.toInt = y91.toInt + 1 := ai_add e_v120 rfl (show (Int32.ofInt 1).toInt = 1 from (by decide +kernel)) (by omega)
                        refine lv_iinc (v := v120) (lv' := [(2, .int v120), (0, .ref h0), (1, .int y33)]) hx hb dX11_findList_128 hl (k := 2) rfl f_v120 (by decide) rfl (fun ls hl => ?_)
                        refine lv_goto (tgt := 45) hx hb dX11_findList_131 (by decide) ?_
                        have hT := hT.wk (q := 4) (P' := aJ (k 1) 9 anJ) rfl (an_J)
                        have hT : TP D A [(h1, aI (k 0) 36 anI), (h4, aJ (k 1) 9 anJ), (h5, aJ (k 1) 9 anJ), (h0, ob 8 [.int h0f0, .int h0f1, .int h0f2, .int h0f3, .int h0f4, .int h0f5, .ref h1, .ref h2, .int h0f8, .int h0f9, .ref h3, .ref h4, .ref h5, .ref h6, .ref h7, .ref h8, .ref h9, .int h0f17, .int h0f18, .int h0f19, .ref h10, .ref h11, .ref h12, .ref h13, .int v119, .int h0f25, .ref h14, .ref h15, .ref h16, .ref h17, .int h0f30, .int h0f31, .ref h18, .ref h19, .ref h20, .ref h21]), (h6, aJ (k 1) 9 anJ), (h10, aJ (k 1) 900 (l1P )), (h11, aI (k 0) 100 anI), (h12, aI (k 0) 100 anI), (h13, aI (k 0) 100 anI)] _ := hT
                        exact ih45_93 v120 v119 _ _ _ (by omega) (by omega)  (by omega) (hT.sub [0, 2, 4, 3, 1, 5, 6, 7, 8] (by decide) rfl) hS (lv_sub hl [1, 2, 0] rfl)
                    · skip
                      have hT := J _ hT1
                      have hT : TP D A [(h11, aI (k 0) 100 anI), (h12, aI (k 0) 100 anI), (h13, aI (k 0) 100 anI), (h1, aI (k 0) 36 anI), (h4, aJ (k 1) 9 anJ), (h5, aJ (k 1) 9 anJ), (h10, aJ (k 1) 900 (l1P )), (h0, ob 8 [.int h0f0, .int h0f1, .int h0f2, .int h0f3, .int h0f4, .int h0f5, .ref h1, .ref h2, .int h0f8, .int h0f9, .ref h3, .ref h4, .ref h5, .ref h6, .ref h7, .ref h8, .ref h9, .int h0f17, .int h0f18, .int h0f19, .ref h10, .ref h11, .ref h12, .ref h13, .int y92, .int h0f25, .ref h14, .ref h15, .ref h16, .ref h17, .int h0f30, .int h0f31, .ref h18, .ref h19, .ref h20, .ref h21]), (h6, aJ (k 1) 9 anJ)] _ := hT
                      refine lv_if_ne (tgt := 128) hx hb dX11_findList_115 (by decide) (fun c_121 => ?_) (fun c_121 => ?_)
                      · skip
                        have c_121 := ni_ne c_121 rfl li_0
                        obtain ⟨v122, e_v122⟩ : ∃ x : Int32, x = y91 + Int32.ofInt 1 := ⟨_, rfl⟩
                        have f_v122 := e_v122.symm
                        have e_v122 : v122.toInt = y91.toInt + 1 := ai_add e_v122 rfl (show (Int32.ofInt 1).toInt = 1 from (by decide +kernel)) (by omega)
                        refine lv_iinc (v := v122) (lv' := [(2, .int v122), (0, .ref h0), (1, .int y33)]) hx hb dX11_findList_128 hl (k := 2) rfl f_v122 (by decide) rfl (fun ls hl => ?_)
                        refine lv_goto (tgt := 45) hx hb dX11_findList_131 (by decide) ?_
                        exact ih45_93 v122 y92 _ _ _ (by omega) (by omega)  (by omega) (hT.sub [3, 5, 8, 7, 4, 6, 0, 1, 2] (by decide) rfl) hS (lv_sub hl [1, 2, 0] rfl)
                      · skip
                        have c_121 := ni_eq c_121 rfl li_0
                        exfalso; omega
          exact lp45_93 ((h0f1.toInt + (-1) * (0 : Int32).toInt + 1).toNat + 1) (0) y34 _ _ _ (by have := li_0; omega) (by have := li_0; omega)  (Nat.lt_succ_self _) hT hS (lv_sub hl [1, 2, 0] rfl)
    exact lp35_35 ((100 - (0 : Int32).toInt).toNat + 1) (0) v8 _ _ _ (by have := li_0; omega) (by have := li_0; omega)  (Nat.lt_succ_self _) hT hS (lv_sub hl [1, 0] rfl)
  · skip
    have c_1 := ni_ne c_1 rfl li_0
    exact tz_retV (B := B_cX11_findList_9a1c7 D k h0 h1 h4 h5 h6 h10 h11 h12 h13 h2 h3 h7 h8 h9 h14 h15 h16 h17 h18 h19 h20 h21 h0f0 h0f1 h0f2 h0f3 h0f4 h0f5 h0f8 h0f9 h0f17 h0f18 h0f19 h0f24 h0f25 h0f30 h0f31) hQ hx hb hr hlocks hS (Nat.le_of_ble_eq_true rfl) (Nat.le_of_ble_eq_true rfl) dX11_findList_7 (⟨h0f9, h0f24, h0f25, (by omega), (by omega), (by omega), hT⟩)
abbrev Rm_cX11_listed_affb8 : Room := { frames := 3, cells := 0, slots := 0, locals := 70 }
abbrev B_cX11_listed_affb8 (D : va_G) (k : Nat → ClassId) (h0 h1 h4 h5 h6 h10 h11 h12 h13 h2 h3 h7 h8 h9 h14 h15 h16 h17 h18 h19 h20 h21 : Nat) (h0f0 : Int32) (h0f1 : Int32) (h0f2 : Int32) (h0f3 : Int32) (h0f4 : Int32) (h0f5 : Int32) (h0f8 : Int32) (h0f9 : Int32) (h0f17 : Int32) (h0f18 : Int32) (h0f19 : Int32) (h0f24 : Int32) (h0f25 : Int32) (h0f30 : Int32) (h0f31 : Int32) (A : Nat → Prop) (r : Int32) (H : Heap) : Prop := ∃ o0 : Int32, ∃ o1 : Int32, ∃ o2 : Int32, (1 ≤ o0.toInt ∧ o0.toInt ≤ 1) ∧ (1 ≤ o1.toInt ∧ o1.toInt ≤ 100) ∧ (0 ≤ o2.toInt ∧ o2.toInt ≤ 1) ∧ (1 ≤ r.toInt ∧ r.toInt ≤ 100) ∧ TP D A [(h0, ob 8 [.int h0f0, .int h0f1, .int h0f2, .int h0f3, .int h0f4, .int h0f5, .ref h1, .ref h2, .int h0f8, .int o0, .ref h3, .ref h4, .ref h5, .ref h6, .ref h7, .ref h8, .ref h9, .int h0f17, .int h0f18, .int h0f19, .ref h10, .ref h11, .ref h12, .ref h13, .int o1, .int o2, .ref h14, .ref h15, .ref h16, .ref h17, .int h0f30, .int h0f31, .ref h18, .ref h19, .ref h20, .ref h21]), (h1, aI (k 0) 36 anI), (h4, aJ (k 1) 9 anJ), (h5, aJ (k 1) 9 anJ), (h6, aJ (k 1) 9 anJ), (h10, aJ (k 1) 900 (lsP (o0.toInt))), (h11, aI (k 0) 100 anI), (h12, aI (k 0) 100 anI), (h13, aI (k 0) 100 anI)] H
set_option maxHeartbeats 4000000 in
set_option maxRecDepth 100000 in
theorem cX11_listed_affb8 (l : Launch) (D : va_G) (k : Nat → ClassId) (sz : Nat) (h0 h1 h4 h5 h6 h10 h11 h12 h13 h2 h3 h7 h8 h9 h14 h15 h16 h17 h18 h19 h20 h21 : Nat) (h0f0 : Int32) (h0f1 : Int32) (h0f2 : Int32) (h0f3 : Int32) (h0f4 : Int32) (h0f5 : Int32) (h0f8 : Int32) (h0f9 : Int32) (h0f17 : Int32) (h0f18 : Int32) (h0f19 : Int32) (h0f24 : Int32) (h0f25 : Int32) (h0f30 : Int32) (h0f31 : Int32) (b_h0f0 : 1 ≤ h0f0.toInt ∧ h0f0.toInt ≤ 3) (b_h0f1 : 0 ≤ h0f1.toInt ∧ h0f1.toInt ≤ 4) (b_h0f3 : 0 ≤ h0f3.toInt ∧ h0f3.toInt ≤ 3) (b_h0f4 : 0 ≤ h0f4.toInt ∧ h0f4.toInt ≤ 4) (b_h0f8 : 0 ≤ h0f8.toInt ∧ h0f8.toInt ≤ 1) (b_h0f9 : 0 ≤ h0f9.toInt ∧ h0f9.toInt ≤ 1) (b_h0f17 : 0 ≤ h0f17.toInt ∧ h0f17.toInt ≤ 120) (b_h0f18 : 0 ≤ h0f18.toInt ∧ h0f18.toInt ≤ 120) (b_h0f19 : 0 ≤ h0f19.toInt ∧ h0f19.toInt ≤ 4) (b_h0f24 : 0 ≤ h0f24.toInt ∧ h0f24.toInt ≤ 100) (b_h0f25 : 0 ≤ h0f25.toInt ∧ h0f25.toInt ≤ 1) (b_h0f30 : 0 ≤ h0f30.toInt ∧ h0f30.toInt ≤ 60) (b_h0f31 : 0 ≤ h0f31.toInt ∧ h0f31.toInt ≤ 1) (i_0 : h0f8.toInt ≤ h0f3.toInt) (i_1 : h0f9.toInt ≤ h0f24.toInt) : Met l yX11_listed (Cond.code yX11_listed cX11_listed 1 (some .int) :: uw) Rm_cX11_listed_affb8 (pT D k sz [.ref h0] [(h0, ob 8 [.int h0f0, .int h0f1, .int h0f2, .int h0f3, .int h0f4, .int h0f5, .ref h1, .ref h2, .int h0f8, .int h0f9, .ref h3, .ref h4, .ref h5, .ref h6, .ref h7, .ref h8, .ref h9, .int h0f17, .int h0f18, .int h0f19, .ref h10, .ref h11, .ref h12, .ref h13, .int h0f24, .int h0f25, .ref h14, .ref h15, .ref h16, .ref h17, .int h0f30, .int h0f31, .ref h18, .ref h19, .ref h20, .ref h21]), (h1, aI (k 0) 36 anI), (h4, aJ (k 1) 9 anJ), (h5, aJ (k 1) 9 anJ), (h6, aJ (k 1) 9 anJ), (h10, aJ (k 1) 900 (lsP (h0f9.toInt))), (h11, aI (k 0) 100 anI), (h12, aI (k 0) 100 anI), (h13, aI (k 0) 100 anI)]) (qI (B_cX11_listed_affb8 D k h0 h1 h4 h5 h6 h10 h11 h12 h13 h2 h3 h7 h8 h9 h14 h15 h16 h17 h18 h19 h20 h21 h0f0 h0f1 h0f2 h0f3 h0f4 h0f5 h0f8 h0f9 h0f17 h0f18 h0f19 h0f24 h0f25 h0f30 h0f31 (zA [h0, h1, h4, h5, h6, h10, h11, h12, h13] sz)) (zA [h0, h1, h4, h5, h6, h10, h11, h12, h13] sz)) 0 0 (zA [h0, h1, h4, h5, h6, h10, h11, h12, h13] sz) := by
  refine tz_begin (as := [h0, h1, h4, h5, h6, h10, h11, h12, h13]) (Qc := fun A => qI (B_cX11_listed_affb8 D k h0 h1 h4 h5 h6 h10 h11 h12 h13 h2 h3 h7 h8 h9 h14 h15 h16 h17 h18 h19 h20 h21 h0f0 h0f1 h0f2 h0f3 h0f4 h0f5 h0f8 h0f9 h0f17 h0f18 h0f19 h0f24 h0f25 h0f30 h0f31 A) A) (by decide +kernel) rfl (Nat.le_of_ble_eq_true rfl) ?_
  intro p e s m args below meth c ls A Q hx hb hr hml hown hlocks hin hU hK hT hS hA hl hQ
  have hl : lv_has ls 1 [(0, .ref h0)] := hl
  have hT : TP D A [(h0, ob 8 [.int h0f0, .int h0f1, .int h0f2, .int h0f3, .int h0f4, .int h0f5, .ref h1, .ref h2, .int h0f8, .int h0f9, .ref h3, .ref h4, .ref h5, .ref h6, .ref h7, .ref h8, .ref h9, .int h0f17, .int h0f18, .int h0f19, .ref h10, .ref h11, .ref h12, .ref h13, .int h0f24, .int h0f25, .ref h14, .ref h15, .ref h16, .ref h17, .int h0f30, .int h0f31, .ref h18, .ref h19, .ref h20, .ref h21]), (h1, aI (k 0) 36 anI), (h4, aJ (k 1) 9 anJ), (h5, aJ (k 1) 9 anJ), (h6, aJ (k 1) 9 anJ), (h10, aJ (k 1) 900 (lsP (h0f9.toInt))), (h11, aI (k 0) 100 anI), (h12, aI (k 0) 100 anI), (h13, aI (k 0) 100 anI)] s.heap := hT
  refine lv_aload_n hx hb dX11_listed_0 rfl (lv_at hl 0 rfl) ?_
  refine tcV (Tc := [(h0, ob 8 [.int h0f0, .int h0f1, .int h0f2, .int h0f3, .int h0f4, .int h0f5, .ref h1, .ref h2, .int h0f8, .int h0f9, .ref h3, .ref h4, .ref h5, .ref h6, .ref h7, .ref h8, .ref h9, .int h0f17, .int h0f18, .int h0f19, .ref h10, .ref h11, .ref h12, .ref h13, .int h0f24, .int h0f25, .ref h14, .ref h15, .ref h16, .ref h17, .int h0f30, .int h0f31, .ref h18, .ref h19, .ref h20, .ref h21]), (h1, aI (k 0) 36 anI), (h4, aJ (k 1) 9 anJ), (h5, aJ (k 1) 9 anJ), (h6, aJ (k 1) 9 anJ), (h10, aJ (k 1) 900 (lsP (h0f9.toInt))), (h11, aI (k 0) 100 anI), (h12, aI (k 0) 100 anI), (h13, aI (k 0) 100 anI)]) (Tr := []) (as := [h0, h1, h4, h5, h6, h10, h11, h12, h13]) (zcV (q0 := 0) (ci := 8) (As := []) (rest := []) (Tc := [(h0, ob 8 [.int h0f0, .int h0f1, .int h0f2, .int h0f3, .int h0f4, .int h0f5, .ref h1, .ref h2, .int h0f8, .int h0f9, .ref h3, .ref h4, .ref h5, .ref h6, .ref h7, .ref h8, .ref h9, .int h0f17, .int h0f18, .int h0f19, .ref h10, .ref h11, .ref h12, .ref h13, .int h0f24, .int h0f25, .ref h14, .ref h15, .ref h16, .ref h17, .int h0f30, .int h0f31, .ref h18, .ref h19, .ref h20, .ref h21]), (h1, aI (k 0) 36 anI), (h4, aJ (k 1) 9 anJ), (h5, aJ (k 1) 9 anJ), (h6, aJ (k 1) 9 anJ), (h10, aJ (k 1) 900 (lsP (h0f9.toInt))), (h11, aI (k 0) 100 anI), (h12, aI (k 0) 100 anI), (h13, aI (k 0) 100 anI)]) hx hb hml hown hU hK hT rfl rfl [0, 1, 2, 3, 4, 5, 6, 7, 8] rfl (by decide) (cX11_findList_9a1c7 l D k _ h0 h1 h4 h5 h6 h10 h11 h12 h13 h2 h3 h7 h8 h9 h14 h15 h16 h17 h18 h19 h20 h21 h0f0 h0f1 h0f2 h0f3 h0f4 h0f5 h0f8 h0f9 h0f17 h0f18 h0f19 h0f24 h0f25 h0f30 h0f31 (by omega) (by omega) (by omega) (by omega) (by omega) (by omega) (by omega) (by omega) (by omega) (by omega) (by omega) (by omega) (by omega) (by omega) (by omega)) w1039 w1036 w1038 w47 w72 hdX11_findList ⟨rfl, rfl⟩ ⟨Nat.le_of_ble_eq_true rfl, Nat.le_of_ble_eq_true rfl⟩ rfl hl.1 (Nat.le_of_ble_eq_true rfl) dX11_listed_1 ⟨Nat.le_of_ble_eq_true rfl, Nat.le_of_ble_eq_true rfl⟩) hT hS hA [0, 1, 2, 3, 4, 5, 6, 7, 8] [] rfl rfl rfl (by decide) (by decide) (fun H locs hB J hS => ?_)
  obtain ⟨v2, v3, v4, b_v2, b_v3, b_v4, hT1⟩ := hB
  have hT := J _ hT1
  have hT : TP D A [(h0, ob 8 [.int h0f0, .int h0f1, .int h0f2, .int h0f3, .int h0f4, .int h0f5, .ref h1, .ref h2, .int h0f8, .int v2, .ref h3, .ref h4, .ref h5, .ref h6, .ref h7, .ref h8, .ref h9, .int h0f17, .int h0f18, .int h0f19, .ref h10, .ref h11, .ref h12, .ref h13, .int v3, .int v4, .ref h14, .ref h15, .ref h16, .ref h17, .int h0f30, .int h0f31, .ref h18, .ref h19, .ref h20, .ref h21]), (h1, aI (k 0) 36 anI), (h4, aJ (k 1) 9 anJ), (h5, aJ (k 1) 9 anJ), (h6, aJ (k 1) 9 anJ), (h10, aJ (k 1) 900 (lsP (v2.toInt))), (h11, aI (k 0) 100 anI), (h12, aI (k 0) 100 anI), (h13, aI (k 0) 100 anI)] _ := hT
  refine lv_aload_n hx hb dX11_listed_4 rfl (lv_at hl 0 rfl) ?_
  refine tz_get (ci := 8) (v := .int v3) (C := RX11) (F := TX11) (N := 36) hx hb hU iX11 hown hK hT 0 rfl rfl 24 (by decide) w809 (fun _ h9 => h9) rfl dX11_listed_5 ?_
  exact tz_retI (B := B_cX11_listed_affb8 D k h0 h1 h4 h5 h6 h10 h11 h12 h13 h2 h3 h7 h8 h9 h14 h15 h16 h17 h18 h19 h20 h21 h0f0 h0f1 h0f2 h0f3 h0f4 h0f5 h0f8 h0f9 h0f17 h0f18 h0f19 h0f24 h0f25 h0f30 h0f31) (v := v3) hQ hx hb hr hlocks hS (Nat.le_of_ble_eq_true rfl) (Nat.le_of_ble_eq_true rfl) dX11_listed_8 (⟨v2, v3, v4, (by omega), (by omega), (by omega), (by omega), hT⟩)
abbrev Rm_cX10_whole_a61d1 : Room := { frames := 6, cells := 0, slots := 0, locals := 149 }
abbrev B_cX10_whole_a61d1 (D : va_G) (k : Nat → ClassId) (h0 h1 h5 h8 h11 h13 h21 h22 h23 h24 h25 h26 h27 h28 h2 h3 h4 h6 h7 h9 h10 h12 : Nat) (h0f2 : Int32) (h0f6 : Int32) (h0f8 : Int32) (h0f11 : Int32) (h1f0 : Int32) (h1f1 : Int32) (h1f2 : Int32) (h5f8 : Int32) (h5f9 : Int32) (h5f10 : Int32) (h5f11 : Int32) (h8f1 : Int32) (A : Nat → Prop) (r : Int32) (H : Heap) : Prop := ∃ o0 : Int32, ∃ o1 : Int32, ∃ o2 : Int32, ∃ o3 : Int32, ∃ o4 : Int32, ∃ o5 : Int32, (1 ≤ o0.toInt ∧ o0.toInt ≤ 1) ∧ (0 ≤ o1.toInt ∧ o1.toInt ≤ 9) ∧ (0 ≤ o2.toInt ∧ o2.toInt ≤ 100) ∧ (0 ≤ o3.toInt ∧ o3.toInt ≤ 100) ∧ (0 ≤ o4.toInt ∧ o4.toInt ≤ 1) ∧ (0 ≤ o5.toInt ∧ o5.toInt ≤ 7) ∧ (0 ≤ r.toInt ∧ r.toInt ≤ 1) ∧ TP D A [(h0, ob 7 [.ref h1, .ref h2, .int h0f2, .ref h3, .ref h4, .ref h5, .int o0, .ref h6, .int h0f8, .null, .ref h7, .int h0f11, .ref h8, .ref h9, .ref h10, .ref h11, .ref h12]), (h1, ob 4 [.int h1f0, .int h1f1, .int h1f2, .ref h13]), (h5, ob 3 [.ref h21, .ref h22, .ref h23, .ref h24, .ref h25, .ref h26, .ref h27, .ref h28, .int o1, .int o2, .int o3, .int o4]), (h8, ob 2 [.ref h1, .int o5]), (h11, aJ (k 1) 9 anJ), (h13, aJ (k 1) 36 anJ), (h21, aJ (k 1) 900 anJ), (h22, aI (k 0) 100 anI), (h23, aI (k 0) 100 anI), (h24, aI (k 0) 100 anI), (h25, aI (k 0) 400 anI), (h26, aI (k 0) 256 (rgI (-1) 99)), (h27, aI (k 0) 100 (rgI (-1) 99)), (h28, aJ (k 1) 60 anJ)] H
set_option maxHeartbeats 4000000 in
set_option maxRecDepth 100000 in
theorem cX10_whole_a61d1 (l : Launch) (D : va_G) (k : Nat → ClassId) (sz : Nat) (h0 h1 h5 h8 h11 h13 h21 h22 h23 h24 h25 h26 h27 h28 h2 h3 h4 h6 h7 h9 h10 h12 : Nat) (h0f2 : Int32) (h0f6 : Int32) (h0f8 : Int32) (h0f11 : Int32) (h1f0 : Int32) (h1f1 : Int32) (h1f2 : Int32) (h5f8 : Int32) (h5f9 : Int32) (h5f10 : Int32) (h5f11 : Int32) (h8f1 : Int32) (b_h0f2 : 0 ≤ h0f2.toInt ∧ h0f2.toInt ≤ 1) (b_h0f6 : 0 ≤ h0f6.toInt ∧ h0f6.toInt ≤ 1) (b_h0f8 : 0 ≤ h0f8.toInt ∧ h0f8.toInt ≤ 1) (b_h0f11 : 0 ≤ h0f11.toInt ∧ h0f11.toInt ≤ 200) (b_h1f0 : 1 ≤ h1f0.toInt ∧ h1f0.toInt ≤ 3) (b_h1f1 : 0 ≤ h1f1.toInt ∧ h1f1.toInt ≤ 4) (b_h5f8 : 0 ≤ h5f8.toInt ∧ h5f8.toInt ≤ 9) (b_h5f9 : 0 ≤ h5f9.toInt ∧ h5f9.toInt ≤ 100) (b_h5f10 : 0 ≤ h5f10.toInt ∧ h5f10.toInt ≤ 100) (b_h5f11 : 0 ≤ h5f11.toInt ∧ h5f11.toInt ≤ 1) (b_h8f1 : 0 ≤ h8f1.toInt ∧ h8f1.toInt ≤ 7) : Met l yX10_whole (Cond.code yX10_whole cX10_whole 1 (some .int) :: uw) Rm_cX10_whole_a61d1 (pT D k sz [.ref h0] [(h0, ob 7 [.ref h1, .ref h2, .int h0f2, .ref h3, .ref h4, .ref h5, .int h0f6, .ref h6, .int h0f8, .null, .ref h7, .int h0f11, .ref h8, .ref h9, .ref h10, .ref h11, .ref h12]), (h1, ob 4 [.int h1f0, .int h1f1, .int h1f2, .ref h13]), (h5, ob 3 [.ref h21, .ref h22, .ref h23, .ref h24, .ref h25, .ref h26, .ref h27, .ref h28, .int h5f8, .int h5f9, .int h5f10, .int h5f11]), (h8, ob 2 [.ref h1, .int h8f1]), (h11, aJ (k 1) 9 anJ), (h13, aJ (k 1) 36 anJ), (h21, aJ (k 1) 900 anJ), (h22, aI (k 0) 100 anI), (h23, aI (k 0) 100 anI), (h24, aI (k 0) 100 anI), (h25, aI (k 0) 400 anI), (h26, aI (k 0) 256 (rgI (-1) 99)), (h27, aI (k 0) 100 (rgI (-1) 99)), (h28, aJ (k 1) 60 anJ)]) (qI (B_cX10_whole_a61d1 D k h0 h1 h5 h8 h11 h13 h21 h22 h23 h24 h25 h26 h27 h28 h2 h3 h4 h6 h7 h9 h10 h12 h0f2 h0f6 h0f8 h0f11 h1f0 h1f1 h1f2 h5f8 h5f9 h5f10 h5f11 h8f1 (zA [h0, h1, h5, h8, h11, h13, h21, h22, h23, h24, h25, h26, h27, h28] sz)) (zA [h0, h1, h5, h8, h11, h13, h21, h22, h23, h24, h25, h26, h27, h28] sz)) 0 0 (zA [h0, h1, h5, h8, h11, h13, h21, h22, h23, h24, h25, h26, h27, h28] sz) := by
  refine tz_begin (as := [h0, h1, h5, h8, h11, h13, h21, h22, h23, h24, h25, h26, h27, h28]) (Qc := fun A => qI (B_cX10_whole_a61d1 D k h0 h1 h5 h8 h11 h13 h21 h22 h23 h24 h25 h26 h27 h28 h2 h3 h4 h6 h7 h9 h10 h12 h0f2 h0f6 h0f8 h0f11 h1f0 h1f1 h1f2 h5f8 h5f9 h5f10 h5f11 h8f1 A) A) (by decide +kernel) rfl (Nat.le_of_ble_eq_true rfl) ?_
  intro p e s m args below meth c ls A Q hx hb hr hml hown hlocks hin hU hK hT hS hA hl hQ
  have hl : lv_has ls 1 [(0, .ref h0)] := hl
  have hT : TP D A [(h0, ob 7 [.ref h1, .ref h2, .int h0f2, .ref h3, .ref h4, .ref h5, .int h0f6, .ref h6, .int h0f8, .null, .ref h7, .int h0f11, .ref h8, .ref h9, .ref h10, .ref h11, .ref h12]), (h1, ob 4 [.int h1f0, .int h1f1, .int h1f2, .ref h13]), (h5, ob 3 [.ref h21, .ref h22, .ref h23, .ref h24, .ref h25, .ref h26, .ref h27, .ref h28, .int h5f8, .int h5f9, .int h5f10, .int h5f11]), (h8, ob 2 [.ref h1, .int h8f1]), (h11, aJ (k 1) 9 anJ), (h13, aJ (k 1) 36 anJ), (h21, aJ (k 1) 900 anJ), (h22, aI (k 0) 100 anI), (h23, aI (k 0) 100 anI), (h24, aI (k 0) 100 anI), (h25, aI (k 0) 400 anI), (h26, aI (k 0) 256 (rgI (-1) 99)), (h27, aI (k 0) 100 (rgI (-1) 99)), (h28, aJ (k 1) 60 anJ)] s.heap := hT
  refine lv_aload_n hx hb dX10_whole_0 rfl (lv_at hl 0 rfl) ?_
  refine tcV (Tc := [(h0, ob 7 [.ref h1, .ref h2, .int h0f2, .ref h3, .ref h4, .ref h5, .int h0f6, .ref h6, .int h0f8, .null, .ref h7, .int h0f11, .ref h8, .ref h9, .ref h10, .ref h11, .ref h12]), (h1, ob 4 [.int h1f0, .int h1f1, .int h1f2, .ref h13]), (h5, ob 3 [.ref h21, .ref h22, .ref h23, .ref h24, .ref h25, .ref h26, .ref h27, .ref h28, .int h5f8, .int h5f9, .int h5f10, .int h5f11]), (h8, ob 2 [.ref h1, .int h8f1]), (h11, aJ (k 1) 9 anJ), (h13, aJ (k 1) 36 anJ), (h21, aJ (k 1) 900 anJ), (h22, aI (k 0) 100 anI), (h23, aI (k 0) 100 anI), (h24, aI (k 0) 100 anI), (h25, aI (k 0) 400 anI), (h26, aI (k 0) 256 (rgI (-1) 99)), (h27, aI (k 0) 100 (rgI (-1) 99)), (h28, aJ (k 1) 60 anJ)]) (Tr := []) (as := [h0, h1, h5, h8, h11, h13, h21, h22, h23, h24, h25, h26, h27, h28]) (zcV (q0 := 0) (ci := 7) (As := []) (rest := []) (Tc := [(h0, ob 7 [.ref h1, .ref h2, .int h0f2, .ref h3, .ref h4, .ref h5, .int h0f6, .ref h6, .int h0f8, .null, .ref h7, .int h0f11, .ref h8, .ref h9, .ref h10, .ref h11, .ref h12]), (h1, ob 4 [.int h1f0, .int h1f1, .int h1f2, .ref h13]), (h5, ob 3 [.ref h21, .ref h22, .ref h23, .ref h24, .ref h25, .ref h26, .ref h27, .ref h28, .int h5f8, .int h5f9, .int h5f10, .int h5f11]), (h8, ob 2 [.ref h1, .int h8f1]), (h11, aJ (k 1) 9 anJ), (h13, aJ (k 1) 36 anJ), (h21, aJ (k 1) 900 anJ), (h22, aI (k 0) 100 anI), (h23, aI (k 0) 100 anI), (h24, aI (k 0) 100 anI), (h25, aI (k 0) 400 anI), (h26, aI (k 0) 256 (rgI (-1) 99)), (h27, aI (k 0) 100 (rgI (-1) 99)), (h28, aJ (k 1) 60 anJ)]) hx hb hml hown hU hK hT rfl rfl [0, 1, 2, 3, 4, 5, 6, 7, 8, 9, 10, 11, 12, 13] rfl (by decide) (cX10_listAll_fe300 l D k _ h0 h1 h5 h8 h11 h13 h21 h22 h23 h24 h25 h26 h27 h28 h2 h3 h4 h6 h7 h9 h10 h12 h0f2 h0f6 h0f8 h0f11 h1f0 h1f1 h1f2 h5f8 h5f9 h5f10 h5f11 h8f1 (by omega) (by omega) (by omega) (by omega) (by omega) (by omega) (by omega) (by omega) (by omega) (by omega) (by omega)) w492 w489 w491 w10 w63 hdX10_listAll ⟨rfl, rfl⟩ ⟨Nat.le_of_ble_eq_true rfl, Nat.le_of_ble_eq_true rfl⟩ rfl hl.1 (Nat.le_of_ble_eq_true rfl) dX10_whole_1 ⟨Nat.le_of_ble_eq_true rfl, Nat.le_of_ble_eq_true rfl⟩) hT hS hA [0, 1, 2, 3, 4, 5, 6, 7, 8, 9, 10, 11, 12, 13] [] rfl rfl rfl (by decide) (by decide) (fun H locs hB J hS => ?_)
  obtain ⟨v2, v3, v4, v5, v6, v7, b_v2, b_v3, b_v4, b_v5, b_v6, b_v7, hT1⟩ := hB
  have hT := J _ hT1
  have hT : TP D A [(h0, ob 7 [.ref h1, .ref h2, .int h0f2, .ref h3, .ref h4, .ref h5, .int v2, .ref h6, .int h0f8, .null, .ref h7, .int h0f11, .ref h8, .ref h9, .ref h10, .ref h11, .ref h12]), (h1, ob 4 [.int h1f0, .int h1f1, .int h1f2, .ref h13]), (h5, ob 3 [.ref h21, .ref h22, .ref h23, .ref h24, .ref h25, .ref h26, .ref h27, .ref h28, .int v3, .int v4, .int v5, .int v6]), (h8, ob 2 [.ref h1, .int v7]), (h11, aJ (k 1) 9 anJ), (h13, aJ (k 1) 36 anJ), (h21, aJ (k 1) 900 anJ), (h22, aI (k 0) 100 anI), (h23, aI (k 0) 100 anI), (h24, aI (k 0) 100 anI), (h25, aI (k 0) 400 anI), (h26, aI (k 0) 256 (rgI (-1) 99)), (h27, aI (k 0) 100 (rgI (-1) 99)), (h28, aJ (k 1) 60 anJ)] _ := hT
  refine lv_aload_n hx hb dX10_whole_4 rfl (lv_at hl 0 rfl) ?_
  refine tz_get (ci := 7) (v := .ref h5) (C := RX10) (F := TX10) (N := 17) hx hb hU iX10 hown hK hT 0 rfl rfl 5 (by decide) w254 (fun _ h9 => h9) rfl dX10_whole_5 ?_
  refine tz_get (ci := 3) (v := .int v6) (C := RX4) (F := TX4) (N := 12) hx hb hU iX4 hown hK hT 2 rfl rfl 11 (by decide) w168 (fun _ h9 => h9) rfl dX10_whole_8 ?_
  refine lv_if_eq (tgt := 18) hx hb dX10_whole_11 (by decide) (fun c_8 => ?_) (fun c_8 => ?_)
  · skip
    have c_8 := ni_eq c_8 rfl li_0
    refine lv_iconst (v := 0) hx hb dX10_whole_18 (by decide) ?_
    exact tz_retI (B := B_cX10_whole_a61d1 D k h0 h1 h5 h8 h11 h13 h21 h22 h23 h24 h25 h26 h27 h28 h2 h3 h4 h6 h7 h9 h10 h12 h0f2 h0f6 h0f8 h0f11 h1f0 h1f1 h1f2 h5f8 h5f9 h5f10 h5f11 h8f1) (v := 0) hQ hx hb hr hlocks hS (Nat.le_of_ble_eq_true rfl) (Nat.le_of_ble_eq_true rfl) dX10_whole_19 (⟨v2, v3, v4, v5, v6, v7, (by have := li_0; omega), (by have := li_0; omega), (by have := li_0; omega), (by have := li_0; omega), (by have := li_0; omega), (by have := li_0; omega), (by have := li_0; omega), hT⟩)
  · skip
    have c_8 := ni_ne c_8 rfl li_0
    refine lv_iconst (v := 1) hx hb dX10_whole_14 (by decide) ?_
    refine lv_goto (tgt := 19) hx hb dX10_whole_15 (by decide) ?_
    exact tz_retI (B := B_cX10_whole_a61d1 D k h0 h1 h5 h8 h11 h13 h21 h22 h23 h24 h25 h26 h27 h28 h2 h3 h4 h6 h7 h9 h10 h12 h0f2 h0f6 h0f8 h0f11 h1f0 h1f1 h1f2 h5f8 h5f9 h5f10 h5f11 h8f1) (v := 1) hQ hx hb hr hlocks hS (Nat.le_of_ble_eq_true rfl) (Nat.le_of_ble_eq_true rfl) dX10_whole_19 (⟨v2, v3, v4, v5, v6, v7, (by have := li_1; omega), (by have := li_1; omega), (by have := li_1; omega), (by have := li_1; omega), (by have := li_1; omega), (by have := li_1; omega), (by have := li_1; omega), hT⟩)
abbrev Rm_cX10_whole_b8f4d : Room := { frames := 6, cells := 0, slots := 0, locals := 149 }
abbrev B_cX10_whole_b8f4d (D : va_G) (k : Nat → ClassId) (h0 h1 h5 h9 h12 h14 h22 h23 h24 h25 h26 h27 h28 h29 h2 h3 h4 h6 h7 h8 h10 h11 h13 : Nat) (h0f2 : Int32) (h0f6 : Int32) (h0f8 : Int32) (h0f11 : Int32) (h1f0 : Int32) (h1f1 : Int32) (h1f2 : Int32) (h5f8 : Int32) (h5f9 : Int32) (h5f10 : Int32) (h5f11 : Int32) (h9f1 : Int32) (A : Nat → Prop) (r : Int32) (H : Heap) : Prop := ∃ o0 : Int32, ∃ o1 : Int32, ∃ o2 : Int32, ∃ o3 : Int32, ∃ o4 : Int32, ∃ o5 : Int32, (1 ≤ o0.toInt ∧ o0.toInt ≤ 1) ∧ (0 ≤ o1.toInt ∧ o1.toInt ≤ 9) ∧ (0 ≤ o2.toInt ∧ o2.toInt ≤ 100) ∧ (0 ≤ o3.toInt ∧ o3.toInt ≤ 100) ∧ (0 ≤ o4.toInt ∧ o4.toInt ≤ 1) ∧ (0 ≤ o5.toInt ∧ o5.toInt ≤ 7) ∧ (0 ≤ r.toInt ∧ r.toInt ≤ 1) ∧ TP D A [(h0, ob 7 [.ref h1, .ref h2, .int h0f2, .ref h3, .ref h4, .ref h5, .int o0, .ref h6, .int h0f8, .ref h7, .ref h8, .int h0f11, .ref h9, .ref h10, .ref h11, .ref h12, .ref h13]), (h1, ob 4 [.int h1f0, .int h1f1, .int h1f2, .ref h14]), (h5, ob 3 [.ref h22, .ref h23, .ref h24, .ref h25, .ref h26, .ref h27, .ref h28, .ref h29, .int o1, .int o2, .int o3, .int o4]), (h9, ob 2 [.ref h1, .int o5]), (h12, aJ (k 1) 9 anJ), (h14, aJ (k 1) 36 anJ), (h22, aJ (k 1) 900 anJ), (h23, aI (k 0) 100 anI), (h24, aI (k 0) 100 anI), (h25, aI (k 0) 100 anI), (h26, aI (k 0) 400 anI), (h27, aI (k 0) 256 (rgI (-1) 99)), (h28, aI (k 0) 100 (rgI (-1) 99)), (h29, aJ (k 1) 60 anJ)] H
set_option maxHeartbeats 4000000 in
set_option maxRecDepth 100000 in
theorem cX10_whole_b8f4d (l : Launch) (D : va_G) (k : Nat → ClassId) (sz : Nat) (h0 h1 h5 h9 h12 h14 h22 h23 h24 h25 h26 h27 h28 h29 h2 h3 h4 h6 h7 h8 h10 h11 h13 : Nat) (h0f2 : Int32) (h0f6 : Int32) (h0f8 : Int32) (h0f11 : Int32) (h1f0 : Int32) (h1f1 : Int32) (h1f2 : Int32) (h5f8 : Int32) (h5f9 : Int32) (h5f10 : Int32) (h5f11 : Int32) (h9f1 : Int32) (b_h0f2 : 0 ≤ h0f2.toInt ∧ h0f2.toInt ≤ 1) (b_h0f6 : 0 ≤ h0f6.toInt ∧ h0f6.toInt ≤ 1) (b_h0f8 : 0 ≤ h0f8.toInt ∧ h0f8.toInt ≤ 1) (b_h0f11 : 0 ≤ h0f11.toInt ∧ h0f11.toInt ≤ 200) (b_h1f0 : 1 ≤ h1f0.toInt ∧ h1f0.toInt ≤ 3) (b_h1f1 : 0 ≤ h1f1.toInt ∧ h1f1.toInt ≤ 4) (b_h5f8 : 0 ≤ h5f8.toInt ∧ h5f8.toInt ≤ 9) (b_h5f9 : 0 ≤ h5f9.toInt ∧ h5f9.toInt ≤ 100) (b_h5f10 : 0 ≤ h5f10.toInt ∧ h5f10.toInt ≤ 100) (b_h5f11 : 0 ≤ h5f11.toInt ∧ h5f11.toInt ≤ 1) (b_h9f1 : 0 ≤ h9f1.toInt ∧ h9f1.toInt ≤ 7) : Met l yX10_whole (Cond.code yX10_whole cX10_whole 1 (some .int) :: uw) Rm_cX10_whole_b8f4d (pT D k sz [.ref h0] [(h0, ob 7 [.ref h1, .ref h2, .int h0f2, .ref h3, .ref h4, .ref h5, .int h0f6, .ref h6, .int h0f8, .ref h7, .ref h8, .int h0f11, .ref h9, .ref h10, .ref h11, .ref h12, .ref h13]), (h1, ob 4 [.int h1f0, .int h1f1, .int h1f2, .ref h14]), (h5, ob 3 [.ref h22, .ref h23, .ref h24, .ref h25, .ref h26, .ref h27, .ref h28, .ref h29, .int h5f8, .int h5f9, .int h5f10, .int h5f11]), (h9, ob 2 [.ref h1, .int h9f1]), (h12, aJ (k 1) 9 anJ), (h14, aJ (k 1) 36 anJ), (h22, aJ (k 1) 900 anJ), (h23, aI (k 0) 100 anI), (h24, aI (k 0) 100 anI), (h25, aI (k 0) 100 anI), (h26, aI (k 0) 400 anI), (h27, aI (k 0) 256 (rgI (-1) 99)), (h28, aI (k 0) 100 (rgI (-1) 99)), (h29, aJ (k 1) 60 anJ)]) (qI (B_cX10_whole_b8f4d D k h0 h1 h5 h9 h12 h14 h22 h23 h24 h25 h26 h27 h28 h29 h2 h3 h4 h6 h7 h8 h10 h11 h13 h0f2 h0f6 h0f8 h0f11 h1f0 h1f1 h1f2 h5f8 h5f9 h5f10 h5f11 h9f1 (zA [h0, h1, h5, h9, h12, h14, h22, h23, h24, h25, h26, h27, h28, h29] sz)) (zA [h0, h1, h5, h9, h12, h14, h22, h23, h24, h25, h26, h27, h28, h29] sz)) 0 0 (zA [h0, h1, h5, h9, h12, h14, h22, h23, h24, h25, h26, h27, h28, h29] sz) := by
  refine tz_begin (as := [h0, h1, h5, h9, h12, h14, h22, h23, h24, h25, h26, h27, h28, h29]) (Qc := fun A => qI (B_cX10_whole_b8f4d D k h0 h1 h5 h9 h12 h14 h22 h23 h24 h25 h26 h27 h28 h29 h2 h3 h4 h6 h7 h8 h10 h11 h13 h0f2 h0f6 h0f8 h0f11 h1f0 h1f1 h1f2 h5f8 h5f9 h5f10 h5f11 h9f1 A) A) (by decide +kernel) rfl (Nat.le_of_ble_eq_true rfl) ?_
  intro p e s m args below meth c ls A Q hx hb hr hml hown hlocks hin hU hK hT hS hA hl hQ
  have hl : lv_has ls 1 [(0, .ref h0)] := hl
  have hT : TP D A [(h0, ob 7 [.ref h1, .ref h2, .int h0f2, .ref h3, .ref h4, .ref h5, .int h0f6, .ref h6, .int h0f8, .ref h7, .ref h8, .int h0f11, .ref h9, .ref h10, .ref h11, .ref h12, .ref h13]), (h1, ob 4 [.int h1f0, .int h1f1, .int h1f2, .ref h14]), (h5, ob 3 [.ref h22, .ref h23, .ref h24, .ref h25, .ref h26, .ref h27, .ref h28, .ref h29, .int h5f8, .int h5f9, .int h5f10, .int h5f11]), (h9, ob 2 [.ref h1, .int h9f1]), (h12, aJ (k 1) 9 anJ), (h14, aJ (k 1) 36 anJ), (h22, aJ (k 1) 900 anJ), (h23, aI (k 0) 100 anI), (h24, aI (k 0) 100 anI), (h25, aI (k 0) 100 anI), (h26, aI (k 0) 400 anI), (h27, aI (k 0) 256 (rgI (-1) 99)), (h28, aI (k 0) 100 (rgI (-1) 99)), (h29, aJ (k 1) 60 anJ)] s.heap := hT
  refine lv_aload_n hx hb dX10_whole_0 rfl (lv_at hl 0 rfl) ?_
  refine tcV (Tc := [(h0, ob 7 [.ref h1, .ref h2, .int h0f2, .ref h3, .ref h4, .ref h5, .int h0f6, .ref h6, .int h0f8, .ref h7, .ref h8, .int h0f11, .ref h9, .ref h10, .ref h11, .ref h12, .ref h13]), (h1, ob 4 [.int h1f0, .int h1f1, .int h1f2, .ref h14]), (h5, ob 3 [.ref h22, .ref h23, .ref h24, .ref h25, .ref h26, .ref h27, .ref h28, .ref h29, .int h5f8, .int h5f9, .int h5f10, .int h5f11]), (h9, ob 2 [.ref h1, .int h9f1]), (h12, aJ (k 1) 9 anJ), (h14, aJ (k 1) 36 anJ), (h22, aJ (k 1) 900 anJ), (h23, aI (k 0) 100 anI), (h24, aI (k 0) 100 anI), (h25, aI (k 0) 100 anI), (h26, aI (k 0) 400 anI), (h27, aI (k 0) 256 (rgI (-1) 99)), (h28, aI (k 0) 100 (rgI (-1) 99)), (h29, aJ (k 1) 60 anJ)]) (Tr := []) (as := [h0, h1, h5, h9, h12, h14, h22, h23, h24, h25, h26, h27, h28, h29]) (zcV (q0 := 0) (ci := 7) (As := []) (rest := []) (Tc := [(h0, ob 7 [.ref h1, .ref h2, .int h0f2, .ref h3, .ref h4, .ref h5, .int h0f6, .ref h6, .int h0f8, .ref h7, .ref h8, .int h0f11, .ref h9, .ref h10, .ref h11, .ref h12, .ref h13]), (h1, ob 4 [.int h1f0, .int h1f1, .int h1f2, .ref h14]), (h5, ob 3 [.ref h22, .ref h23, .ref h24, .ref h25, .ref h26, .ref h27, .ref h28, .ref h29, .int h5f8, .int h5f9, .int h5f10, .int h5f11]), (h9, ob 2 [.ref h1, .int h9f1]), (h12, aJ (k 1) 9 anJ), (h14, aJ (k 1) 36 anJ), (h22, aJ (k 1) 900 anJ), (h23, aI (k 0) 100 anI), (h24, aI (k 0) 100 anI), (h25, aI (k 0) 100 anI), (h26, aI (k 0) 400 anI), (h27, aI (k 0) 256 (rgI (-1) 99)), (h28, aI (k 0) 100 (rgI (-1) 99)), (h29, aJ (k 1) 60 anJ)]) hx hb hml hown hU hK hT rfl rfl [0, 1, 2, 3, 4, 5, 6, 7, 8, 9, 10, 11, 12, 13] rfl (by decide) (cX10_listAll_d24ec l D k _ h0 h1 h5 h9 h12 h14 h22 h23 h24 h25 h26 h27 h28 h29 h2 h3 h4 h6 h7 h8 h10 h11 h13 h0f2 h0f6 h0f8 h0f11 h1f0 h1f1 h1f2 h5f8 h5f9 h5f10 h5f11 h9f1 (by omega) (by omega) (by omega) (by omega) (by omega) (by omega) (by omega) (by omega) (by omega) (by omega) (by omega)) w492 w489 w491 w10 w63 hdX10_listAll ⟨rfl, rfl⟩ ⟨Nat.le_of_ble_eq_true rfl, Nat.le_of_ble_eq_true rfl⟩ rfl hl.1 (Nat.le_of_ble_eq_true rfl) dX10_whole_1 ⟨Nat.le_of_ble_eq_true rfl, Nat.le_of_ble_eq_true rfl⟩) hT hS hA [0, 1, 2, 3, 4, 5, 6, 7, 8, 9, 10, 11, 12, 13] [] rfl rfl rfl (by decide) (by decide) (fun H locs hB J hS => ?_)
  obtain ⟨v2, v3, v4, v5, v6, v7, b_v2, b_v3, b_v4, b_v5, b_v6, b_v7, hT1⟩ := hB
  have hT := J _ hT1
  have hT : TP D A [(h0, ob 7 [.ref h1, .ref h2, .int h0f2, .ref h3, .ref h4, .ref h5, .int v2, .ref h6, .int h0f8, .ref h7, .ref h8, .int h0f11, .ref h9, .ref h10, .ref h11, .ref h12, .ref h13]), (h1, ob 4 [.int h1f0, .int h1f1, .int h1f2, .ref h14]), (h5, ob 3 [.ref h22, .ref h23, .ref h24, .ref h25, .ref h26, .ref h27, .ref h28, .ref h29, .int v3, .int v4, .int v5, .int v6]), (h9, ob 2 [.ref h1, .int v7]), (h12, aJ (k 1) 9 anJ), (h14, aJ (k 1) 36 anJ), (h22, aJ (k 1) 900 anJ), (h23, aI (k 0) 100 anI), (h24, aI (k 0) 100 anI), (h25, aI (k 0) 100 anI), (h26, aI (k 0) 400 anI), (h27, aI (k 0) 256 (rgI (-1) 99)), (h28, aI (k 0) 100 (rgI (-1) 99)), (h29, aJ (k 1) 60 anJ)] _ := hT
  refine lv_aload_n hx hb dX10_whole_4 rfl (lv_at hl 0 rfl) ?_
  refine tz_get (ci := 7) (v := .ref h5) (C := RX10) (F := TX10) (N := 17) hx hb hU iX10 hown hK hT 0 rfl rfl 5 (by decide) w254 (fun _ h9 => h9) rfl dX10_whole_5 ?_
  refine tz_get (ci := 3) (v := .int v6) (C := RX4) (F := TX4) (N := 12) hx hb hU iX4 hown hK hT 2 rfl rfl 11 (by decide) w168 (fun _ h9 => h9) rfl dX10_whole_8 ?_
  refine lv_if_eq (tgt := 18) hx hb dX10_whole_11 (by decide) (fun c_8 => ?_) (fun c_8 => ?_)
  · skip
    have c_8 := ni_eq c_8 rfl li_0
    refine lv_iconst (v := 0) hx hb dX10_whole_18 (by decide) ?_
    exact tz_retI (B := B_cX10_whole_b8f4d D k h0 h1 h5 h9 h12 h14 h22 h23 h24 h25 h26 h27 h28 h29 h2 h3 h4 h6 h7 h8 h10 h11 h13 h0f2 h0f6 h0f8 h0f11 h1f0 h1f1 h1f2 h5f8 h5f9 h5f10 h5f11 h9f1) (v := 0) hQ hx hb hr hlocks hS (Nat.le_of_ble_eq_true rfl) (Nat.le_of_ble_eq_true rfl) dX10_whole_19 (⟨v2, v3, v4, v5, v6, v7, (by have := li_0; omega), (by have := li_0; omega), (by have := li_0; omega), (by have := li_0; omega), (by have := li_0; omega), (by have := li_0; omega), (by have := li_0; omega), hT⟩)
  · skip
    have c_8 := ni_ne c_8 rfl li_0
    refine lv_iconst (v := 1) hx hb dX10_whole_14 (by decide) ?_
    refine lv_goto (tgt := 19) hx hb dX10_whole_15 (by decide) ?_
    exact tz_retI (B := B_cX10_whole_b8f4d D k h0 h1 h5 h9 h12 h14 h22 h23 h24 h25 h26 h27 h28 h29 h2 h3 h4 h6 h7 h8 h10 h11 h13 h0f2 h0f6 h0f8 h0f11 h1f0 h1f1 h1f2 h5f8 h5f9 h5f10 h5f11 h9f1) (v := 1) hQ hx hb hr hlocks hS (Nat.le_of_ble_eq_true rfl) (Nat.le_of_ble_eq_true rfl) dX10_whole_19 (⟨v2, v3, v4, v5, v6, v7, (by have := li_1; omega), (by have := li_1; omega), (by have := li_1; omega), (by have := li_1; omega), (by have := li_1; omega), (by have := li_1; omega), (by have := li_1; omega), hT⟩)
abbrev Rm_cX11_whole_4c25b : Room := { frames := 3, cells := 0, slots := 0, locals := 70 }
abbrev B_cX11_whole_4c25b (D : va_G) (k : Nat → ClassId) (h0 h1 h4 h5 h6 h10 h11 h12 h13 h2 h3 h7 h8 h9 h14 h15 h16 h17 h18 h19 h20 h21 : Nat) (h0f0 : Int32) (h0f1 : Int32) (h0f2 : Int32) (h0f3 : Int32) (h0f4 : Int32) (h0f5 : Int32) (h0f8 : Int32) (h0f9 : Int32) (h0f17 : Int32) (h0f18 : Int32) (h0f19 : Int32) (h0f24 : Int32) (h0f25 : Int32) (h0f30 : Int32) (h0f31 : Int32) (A : Nat → Prop) (r : Int32) (H : Heap) : Prop := ∃ o0 : Int32, ∃ o1 : Int32, ∃ o2 : Int32, (1 ≤ o0.toInt ∧ o0.toInt ≤ 1) ∧ (1 ≤ o1.toInt ∧ o1.toInt ≤ 100) ∧ (0 ≤ o2.toInt ∧ o2.toInt ≤ 1) ∧ (0 ≤ r.toInt ∧ r.toInt ≤ 1) ∧ TP D A [(h0, ob 8 [.int h0f0, .int h0f1, .int h0f2, .int h0f3, .int h0f4, .int h0f5, .ref h1, .ref h2, .int h0f8, .int o0, .ref h3, .ref h4, .ref h5, .ref h6, .ref h7, .ref h8, .ref h9, .int h0f17, .int h0f18, .int h0f19, .ref h10, .ref h11, .ref h12, .ref h13, .int o1, .int o2, .ref h14, .ref h15, .ref h16, .ref h17, .int h0f30, .int h0f31, .ref h18, .ref h19, .ref h20, .ref h21]), (h1, aI (k 0) 36 anI), (h4, aJ (k 1) 9 anJ), (h5, aJ (k 1) 9 anJ), (h6, aJ (k 1) 9 anJ), (h10, aJ (k 1) 900 (lsP (o0.toInt))), (h11, aI (k 0) 100 anI), (h12, aI (k 0) 100 anI), (h13, aI (k 0) 100 anI)] H
set_option maxHeartbeats 4000000 in
set_option maxRecDepth 100000 in
theorem cX11_whole_4c25b (l : Launch) (D : va_G) (k : Nat → ClassId) (sz : Nat) (h0 h1 h4 h5 h6 h10 h11 h12 h13 h2 h3 h7 h8 h9 h14 h15 h16 h17 h18 h19 h20 h21 : Nat) (h0f0 : Int32) (h0f1 : Int32) (h0f2 : Int32) (h0f3 : Int32) (h0f4 : Int32) (h0f5 : Int32) (h0f8 : Int32) (h0f9 : Int32) (h0f17 : Int32) (h0f18 : Int32) (h0f19 : Int32) (h0f24 : Int32) (h0f25 : Int32) (h0f30 : Int32) (h0f31 : Int32) (b_h0f0 : 1 ≤ h0f0.toInt ∧ h0f0.toInt ≤ 3) (b_h0f1 : 0 ≤ h0f1.toInt ∧ h0f1.toInt ≤ 4) (b_h0f3 : 0 ≤ h0f3.toInt ∧ h0f3.toInt ≤ 3) (b_h0f4 : 0 ≤ h0f4.toInt ∧ h0f4.toInt ≤ 4) (b_h0f8 : 0 ≤ h0f8.toInt ∧ h0f8.toInt ≤ 1) (b_h0f9 : 0 ≤ h0f9.toInt ∧ h0f9.toInt ≤ 1) (b_h0f17 : 0 ≤ h0f17.toInt ∧ h0f17.toInt ≤ 120) (b_h0f18 : 0 ≤ h0f18.toInt ∧ h0f18.toInt ≤ 120) (b_h0f19 : 0 ≤ h0f19.toInt ∧ h0f19.toInt ≤ 4) (b_h0f24 : 0 ≤ h0f24.toInt ∧ h0f24.toInt ≤ 100) (b_h0f25 : 0 ≤ h0f25.toInt ∧ h0f25.toInt ≤ 1) (b_h0f30 : 0 ≤ h0f30.toInt ∧ h0f30.toInt ≤ 60) (b_h0f31 : 0 ≤ h0f31.toInt ∧ h0f31.toInt ≤ 1) (i_0 : h0f8.toInt ≤ h0f3.toInt) (i_1 : h0f9.toInt ≤ h0f24.toInt) : Met l yX11_whole (Cond.code yX11_whole cX11_whole 1 (some .int) :: uw) Rm_cX11_whole_4c25b (pT D k sz [.ref h0] [(h0, ob 8 [.int h0f0, .int h0f1, .int h0f2, .int h0f3, .int h0f4, .int h0f5, .ref h1, .ref h2, .int h0f8, .int h0f9, .ref h3, .ref h4, .ref h5, .ref h6, .ref h7, .ref h8, .ref h9, .int h0f17, .int h0f18, .int h0f19, .ref h10, .ref h11, .ref h12, .ref h13, .int h0f24, .int h0f25, .ref h14, .ref h15, .ref h16, .ref h17, .int h0f30, .int h0f31, .ref h18, .ref h19, .ref h20, .ref h21]), (h1, aI (k 0) 36 anI), (h4, aJ (k 1) 9 anJ), (h5, aJ (k 1) 9 anJ), (h6, aJ (k 1) 9 anJ), (h10, aJ (k 1) 900 (lsP (h0f9.toInt))), (h11, aI (k 0) 100 anI), (h12, aI (k 0) 100 anI), (h13, aI (k 0) 100 anI)]) (qI (B_cX11_whole_4c25b D k h0 h1 h4 h5 h6 h10 h11 h12 h13 h2 h3 h7 h8 h9 h14 h15 h16 h17 h18 h19 h20 h21 h0f0 h0f1 h0f2 h0f3 h0f4 h0f5 h0f8 h0f9 h0f17 h0f18 h0f19 h0f24 h0f25 h0f30 h0f31 (zA [h0, h1, h4, h5, h6, h10, h11, h12, h13] sz)) (zA [h0, h1, h4, h5, h6, h10, h11, h12, h13] sz)) 0 0 (zA [h0, h1, h4, h5, h6, h10, h11, h12, h13] sz) := by
  refine tz_begin (as := [h0, h1, h4, h5, h6, h10, h11, h12, h13]) (Qc := fun A => qI (B_cX11_whole_4c25b D k h0 h1 h4 h5 h6 h10 h11 h12 h13 h2 h3 h7 h8 h9 h14 h15 h16 h17 h18 h19 h20 h21 h0f0 h0f1 h0f2 h0f3 h0f4 h0f5 h0f8 h0f9 h0f17 h0f18 h0f19 h0f24 h0f25 h0f30 h0f31 A) A) (by decide +kernel) rfl (Nat.le_of_ble_eq_true rfl) ?_
  intro p e s m args below meth c ls A Q hx hb hr hml hown hlocks hin hU hK hT hS hA hl hQ
  have hl : lv_has ls 1 [(0, .ref h0)] := hl
  have hT : TP D A [(h0, ob 8 [.int h0f0, .int h0f1, .int h0f2, .int h0f3, .int h0f4, .int h0f5, .ref h1, .ref h2, .int h0f8, .int h0f9, .ref h3, .ref h4, .ref h5, .ref h6, .ref h7, .ref h8, .ref h9, .int h0f17, .int h0f18, .int h0f19, .ref h10, .ref h11, .ref h12, .ref h13, .int h0f24, .int h0f25, .ref h14, .ref h15, .ref h16, .ref h17, .int h0f30, .int h0f31, .ref h18, .ref h19, .ref h20, .ref h21]), (h1, aI (k 0) 36 anI), (h4, aJ (k 1) 9 anJ), (h5, aJ (k 1) 9 anJ), (h6, aJ (k 1) 9 anJ), (h10, aJ (k 1) 900 (lsP (h0f9.toInt))), (h11, aI (k 0) 100 anI), (h12, aI (k 0) 100 anI), (h13, aI (k 0) 100 anI)] s.heap := hT
  refine lv_aload_n hx hb dX11_whole_0 rfl (lv_at hl 0 rfl) ?_
  refine tcV (Tc := [(h0, ob 8 [.int h0f0, .int h0f1, .int h0f2, .int h0f3, .int h0f4, .int h0f5, .ref h1, .ref h2, .int h0f8, .int h0f9, .ref h3, .ref h4, .ref h5, .ref h6, .ref h7, .ref h8, .ref h9, .int h0f17, .int h0f18, .int h0f19, .ref h10, .ref h11, .ref h12, .ref h13, .int h0f24, .int h0f25, .ref h14, .ref h15, .ref h16, .ref h17, .int h0f30, .int h0f31, .ref h18, .ref h19, .ref h20, .ref h21]), (h1, aI (k 0) 36 anI), (h4, aJ (k 1) 9 anJ), (h5, aJ (k 1) 9 anJ), (h6, aJ (k 1) 9 anJ), (h10, aJ (k 1) 900 (lsP (h0f9.toInt))), (h11, aI (k 0) 100 anI), (h12, aI (k 0) 100 anI), (h13, aI (k 0) 100 anI)]) (Tr := []) (as := [h0, h1, h4, h5, h6, h10, h11, h12, h13]) (zcV (q0 := 0) (ci := 8) (As := []) (rest := []) (Tc := [(h0, ob 8 [.int h0f0, .int h0f1, .int h0f2, .int h0f3, .int h0f4, .int h0f5, .ref h1, .ref h2, .int h0f8, .int h0f9, .ref h3, .ref h4, .ref h5, .ref h6, .ref h7, .ref h8, .ref h9, .int h0f17, .int h0f18, .int h0f19, .ref h10, .ref h11, .ref h12, .ref h13, .int h0f24, .int h0f25, .ref h14, .ref h15, .ref h16, .ref h17, .int h0f30, .int h0f31, .ref h18, .ref h19, .ref h20, .ref h21]), (h1, aI (k 0) 36 anI), (h4, aJ (k 1) 9 anJ), (h5, aJ (k 1) 9 anJ), (h6, aJ (k 1) 9 anJ), (h10, aJ (k 1) 900 (lsP (h0f9.toInt))), (h11, aI (k 0) 100 anI), (h12, aI (k 0) 100 anI), (h13, aI (k 0) 100 anI)]) hx hb hml hown hU hK hT rfl rfl [0, 1, 2, 3, 4, 5, 6, 7, 8] rfl (by decide) (cX11_findList_9a1c7 l D k _ h0 h1 h4 h5 h6 h10 h11 h12 h13 h2 h3 h7 h8 h9 h14 h15 h16 h17 h18 h19 h20 h21 h0f0 h0f1 h0f2 h0f3 h0f4 h0f5 h0f8 h0f9 h0f17 h0f18 h0f19 h0f24 h0f25 h0f30 h0f31 (by omega) (by omega) (by omega) (by omega) (by omega) (by omega) (by omega) (by omega) (by omega) (by omega) (by omega) (by omega) (by omega) (by omega) (by omega)) w1039 w1036 w1038 w47 w72 hdX11_findList ⟨rfl, rfl⟩ ⟨Nat.le_of_ble_eq_true rfl, Nat.le_of_ble_eq_true rfl⟩ rfl hl.1 (Nat.le_of_ble_eq_true rfl) dX11_whole_1 ⟨Nat.le_of_ble_eq_true rfl, Nat.le_of_ble_eq_true rfl⟩) hT hS hA [0, 1, 2, 3, 4, 5, 6, 7, 8] [] rfl rfl rfl (by decide) (by decide) (fun H locs hB J hS => ?_)
  obtain ⟨v2, v3, v4, b_v2, b_v3, b_v4, hT1⟩ := hB
  have hT := J _ hT1
  have hT : TP D A [(h0, ob 8 [.int h0f0, .int h0f1, .int h0f2, .int h0f3, .int h0f4, .int h0f5, .ref h1, .ref h2, .int h0f8, .int v2, .ref h3, .ref h4, .ref h5, .ref h6, .ref h7, .ref h8, .ref h9, .int h0f17, .int h0f18, .int h0f19, .ref h10, .ref h11, .ref h12, .ref h13, .int v3, .int v4, .ref h14, .ref h15, .ref h16, .ref h17, .int h0f30, .int h0f31, .ref h18, .ref h19, .ref h20, .ref h21]), (h1, aI (k 0) 36 anI), (h4, aJ (k 1) 9 anJ), (h5, aJ (k 1) 9 anJ), (h6, aJ (k 1) 9 anJ), (h10, aJ (k 1) 900 (lsP (v2.toInt))), (h11, aI (k 0) 100 anI), (h12, aI (k 0) 100 anI), (h13, aI (k 0) 100 anI)] _ := hT
  refine lv_aload_n hx hb dX11_whole_4 rfl (lv_at hl 0 rfl) ?_
  refine tz_get (ci := 8) (v := .int v4) (C := RX11) (F := TX11) (N := 36) hx hb hU iX11 hown hK hT 0 rfl rfl 25 (by decide) w810 (fun _ h9 => h9) rfl dX11_whole_5 ?_
  refine lv_if_eq (tgt := 15) hx hb dX11_whole_8 (by decide) (fun c_5 => ?_) (fun c_5 => ?_)
  · skip
    have c_5 := ni_eq c_5 rfl li_0
    refine lv_iconst (v := 0) hx hb dX11_whole_15 (by decide) ?_
    exact tz_retI (B := B_cX11_whole_4c25b D k h0 h1 h4 h5 h6 h10 h11 h12 h13 h2 h3 h7 h8 h9 h14 h15 h16 h17 h18 h19 h20 h21 h0f0 h0f1 h0f2 h0f3 h0f4 h0f5 h0f8 h0f9 h0f17 h0f18 h0f19 h0f24 h0f25 h0f30 h0f31) (v := 0) hQ hx hb hr hlocks hS (Nat.le_of_ble_eq_true rfl) (Nat.le_of_ble_eq_true rfl) dX11_whole_16 (⟨v2, v3, v4, (by have := li_0; omega), (by have := li_0; omega), (by have := li_0; omega), (by have := li_0; omega), hT⟩)
  · skip
    have c_5 := ni_ne c_5 rfl li_0
    refine lv_iconst (v := 1) hx hb dX11_whole_11 (by decide) ?_
    refine lv_goto (tgt := 16) hx hb dX11_whole_12 (by decide) ?_
    exact tz_retI (B := B_cX11_whole_4c25b D k h0 h1 h4 h5 h6 h10 h11 h12 h13 h2 h3 h7 h8 h9 h14 h15 h16 h17 h18 h19 h20 h21 h0f0 h0f1 h0f2 h0f3 h0f4 h0f5 h0f8 h0f9 h0f17 h0f18 h0f19 h0f24 h0f25 h0f30 h0f31) (v := 1) hQ hx hb hr hlocks hS (Nat.le_of_ble_eq_true rfl) (Nat.le_of_ble_eq_true rfl) dX11_whole_16 (⟨v2, v3, v4, (by have := li_1; omega), (by have := li_1; omega), (by have := li_1; omega), (by have := li_1; omega), hT⟩)
abbrev Rm_cX10_asLong_5cc16 : Room := { frames := 0, cells := 0, slots := 0, locals := 0 }
abbrev B_cX10_asLong_5cc16 (D : va_G) (k : Nat → ClassId) (x0 : Int32) (A : Nat → Prop) (r : Int64) (H : Heap) : Prop := ((-4000000000000000016) ≤ r.toInt ∧ r.toInt ≤ (-4000000000000000001)) ∧ TP D A [] H
set_option maxHeartbeats 4000000 in
set_option maxRecDepth 100000 in
theorem cX10_asLong_5cc16 (l : Launch) (D : va_G) (k : Nat → ClassId) (sz : Nat) (x0 : Int32) (b_x0 : (-16) ≤ x0.toInt ∧ x0.toInt ≤ (-1)) : Met l yX10_asLong (Cond.code yX10_asLong cX10_asLong 1 (some .long) :: uw) Rm_cX10_asLong_5cc16 (pT D k sz [.int x0] []) (qL (B_cX10_asLong_5cc16 D k x0 (zA [] sz)) (zA [] sz)) 0 0 (zA [] sz) := by
  refine tz_begin (as := []) (Qc := fun A => qL (B_cX10_asLong_5cc16 D k x0 A) A) (by decide +kernel) rfl (Nat.le_of_ble_eq_true rfl) ?_
  intro p e s m args below meth c ls A Q hx hb hr hml hown hlocks hin hU hK hT hS hA hl hQ
  have hl : lv_has ls 1 [(0, .int x0)] := hl
  have hT : TP D A [] s.heap := hT
  refine lv_iload_n hx hb dX10_asLong_0 rfl (lv_at hl 0 rfl) ?_
  obtain ⟨v1, e_v1⟩ : ∃ x : Int64, x0.toInt64 = x := ⟨_, rfl⟩
  refine lv_i2l (v := v1) hx hb dX10_asLong_1 e_v1 ?_
  have e_v1 := ai_i2l e_v1 rfl
  refine lv_ldc2 hx hb hown (hU _ w573) dX10_asLong_2 ?_
  refine lv_lsub hx hb dX10_asLong_5 (lv_topl (fun v2 e_v2 => ?_))
  have e_v2 := al_sub e_v2 rfl ll_4000000000000000000 (by omega)
  exact tz_retL (B := B_cX10_asLong_5cc16 D k x0) (v := v2) hQ hx hb hr hlocks hS (Nat.le_of_ble_eq_true rfl) (Nat.le_of_ble_eq_true rfl) dX10_asLong_6 (⟨(by omega), hT⟩)
abbrev Rm_cX10_element_b701b : Room := { frames := 6, cells := 0, slots := 0, locals := 149 }
abbrev B_cX10_element_b701b (D : va_G) (k : Nat → ClassId) (h0 h1 h5 h8 h11 h13 h21 h22 h23 h24 h25 h26 h27 h28 h2 h3 h4 h6 h7 h9 h10 h12 : Nat) (x1 : Int32) (x2 : Int32) (x3 : Int32) (h0f2 : Int32) (h0f6 : Int32) (h0f8 : Int32) (h0f11 : Int32) (h1f0 : Int32) (h1f1 : Int32) (h1f2 : Int32) (h5f8 : Int32) (h5f9 : Int32) (h5f10 : Int32) (h5f11 : Int32) (h8f1 : Int32) (A : Nat → Prop) (r : Int64) (H : Heap) : Prop := ∃ o0 : Int32, ∃ o1 : Int32, ∃ o2 : Int32, ∃ o3 : Int32, ∃ o4 : Int32, ∃ o5 : Int32, (1 ≤ o0.toInt ∧ o0.toInt ≤ 1) ∧ (0 ≤ o1.toInt ∧ o1.toInt ≤ 9) ∧ (0 ≤ o2.toInt ∧ o2.toInt ≤ 100) ∧ (0 ≤ o3.toInt ∧ o3.toInt ≤ 100) ∧ (0 ≤ o4.toInt ∧ o4.toInt ≤ 1) ∧ (0 ≤ o5.toInt ∧ o5.toInt ≤ 7) ∧ TP D A [(h0, ob 7 [.ref h1, .ref h2, .int h0f2, .ref h3, .ref h4, .ref h5, .int o0, .ref h6, .int h0f8, .null, .ref h7, .int h0f11, .ref h8, .ref h9, .ref h10, .ref h11, .ref h12]), (h1, ob 4 [.int h1f0, .int h1f1, .int h1f2, .ref h13]), (h5, ob 3 [.ref h21, .ref h22, .ref h23, .ref h24, .ref h25, .ref h26, .ref h27, .ref h28, .int o1, .int o2, .int o3, .int o4]), (h8, ob 2 [.ref h1, .int o5]), (h11, aJ (k 1) 9 anJ), (h13, aJ (k 1) 36 anJ), (h21, aJ (k 1) 900 anJ), (h22, aI (k 0) 100 anI), (h23, aI (k 0) 100 anI), (h24, aI (k 0) 100 anI), (h25, aI (k 0) 400 anI), (h26, aI (k 0) 256 (rgI (-1) 99)), (h27, aI (k 0) 100 (rgI (-1) 99)), (h28, aJ (k 1) 60 anJ)] H
set_option maxHeartbeats 4000000 in
set_option maxRecDepth 100000 in
theorem cX10_element_b701b (l : Launch) (D : va_G) (k : Nat → ClassId) (sz : Nat) (h0 h1 h5 h8 h11 h13 h21 h22 h23 h24 h25 h26 h27 h28 h2 h3 h4 h6 h7 h9 h10 h12 : Nat) (x1 : Int32) (x2 : Int32) (x3 : Int32) (h0f2 : Int32) (h0f6 : Int32) (h0f8 : Int32) (h0f11 : Int32) (h1f0 : Int32) (h1f1 : Int32) (h1f2 : Int32) (h5f8 : Int32) (h5f9 : Int32) (h5f10 : Int32) (h5f11 : Int32) (h8f1 : Int32) (b_h0f2 : 0 ≤ h0f2.toInt ∧ h0f2.toInt ≤ 1) (b_h0f6 : 0 ≤ h0f6.toInt ∧ h0f6.toInt ≤ 1) (b_h0f8 : 0 ≤ h0f8.toInt ∧ h0f8.toInt ≤ 1) (b_h0f11 : 0 ≤ h0f11.toInt ∧ h0f11.toInt ≤ 200) (b_h1f0 : 1 ≤ h1f0.toInt ∧ h1f0.toInt ≤ 3) (b_h1f1 : 0 ≤ h1f1.toInt ∧ h1f1.toInt ≤ 4) (b_h5f8 : 0 ≤ h5f8.toInt ∧ h5f8.toInt ≤ 9) (b_h5f9 : 0 ≤ h5f9.toInt ∧ h5f9.toInt ≤ 100) (b_h5f10 : 0 ≤ h5f10.toInt ∧ h5f10.toInt ≤ 100) (b_h5f11 : 0 ≤ h5f11.toInt ∧ h5f11.toInt ≤ 1) (b_h8f1 : 0 ≤ h8f1.toInt ∧ h8f1.toInt ≤ 7) : Met l yX10_element (Cond.code yX10_element cX10_element 4 (some .long) :: uw) Rm_cX10_element_b701b (pT D k sz [.ref h0, .int x1, .int x2, .int x3] [(h0, ob 7 [.ref h1, .ref h2, .int h0f2, .ref h3, .ref h4, .ref h5, .int h0f6, .ref h6, .int h0f8, .null, .ref h7, .int h0f11, .ref h8, .ref h9, .ref h10, .ref h11, .ref h12]), (h1, ob 4 [.int h1f0, .int h1f1, .int h1f2, .ref h13]), (h5, ob 3 [.ref h21, .ref h22, .ref h23, .ref h24, .ref h25, .ref h26, .ref h27, .ref h28, .int h5f8, .int h5f9, .int h5f10, .int h5f11]), (h8, ob 2 [.ref h1, .int h8f1]), (h11, aJ (k 1) 9 anJ), (h13, aJ (k 1) 36 anJ), (h21, aJ (k 1) 900 anJ), (h22, aI (k 0) 100 anI), (h23, aI (k 0) 100 anI), (h24, aI (k 0) 100 anI), (h25, aI (k 0) 400 anI), (h26, aI (k 0) 256 (rgI (-1) 99)), (h27, aI (k 0) 100 (rgI (-1) 99)), (h28, aJ (k 1) 60 anJ)]) (qL (B_cX10_element_b701b D k h0 h1 h5 h8 h11 h13 h21 h22 h23 h24 h25 h26 h27 h28 h2 h3 h4 h6 h7 h9 h10 h12 x1 x2 x3 h0f2 h0f6 h0f8 h0f11 h1f0 h1f1 h1f2 h5f8 h5f9 h5f10 h5f11 h8f1 (zA [h0, h1, h5, h8, h11, h13, h21, h22, h23, h24, h25, h26, h27, h28] sz)) (zA [h0, h1, h5, h8, h11, h13, h21, h22, h23, h24, h25, h26, h27, h28] sz)) 0 0 (zA [h0, h1, h5, h8, h11, h13, h21, h22, h23, h24, h25, h26, h27, h28] sz) := by
  refine tz_begin (as := [h0, h1, h5, h8, h11, h13, h21, h22, h23, h24, h25, h26, h27, h28]) (Qc := fun A => qL (B_cX10_element_b701b D k h0 h1 h5 h8 h11 h13 h21 h22 h23 h24 h25 h26 h27 h28 h2 h3 h4 h6 h7 h9 h10 h12 x1 x2 x3 h0f2 h0f6 h0f8 h0f11 h1f0 h1f1 h1f2 h5f8 h5f9 h5f10 h5f11 h8f1 A) A) (by decide +kernel) rfl (Nat.le_of_ble_eq_true rfl) ?_
  intro p e s m args below meth c ls A Q hx hb hr hml hown hlocks hin hU hK hT hS hA hl hQ
  have hl : lv_has ls 4 [(0, .ref h0), (1, .int x1), (2, .int x2), (3, .int x3)] := hl
  have hT : TP D A [(h0, ob 7 [.ref h1, .ref h2, .int h0f2, .ref h3, .ref h4, .ref h5, .int h0f6, .ref h6, .int h0f8, .null, .ref h7, .int h0f11, .ref h8, .ref h9, .ref h10, .ref h11, .ref h12]), (h1, ob 4 [.int h1f0, .int h1f1, .int h1f2, .ref h13]), (h5, ob 3 [.ref h21, .ref h22, .ref h23, .ref h24, .ref h25, .ref h26, .ref h27, .ref h28, .int h5f8, .int h5f9, .int h5f10, .int h5f11]), (h8, ob 2 [.ref h1, .int h8f1]), (h11, aJ (k 1) 9 anJ), (h13, aJ (k 1) 36 anJ), (h21, aJ (k 1) 900 anJ), (h22, aI (k 0) 100 anI), (h23, aI (k 0) 100 anI), (h24, aI (k 0) 100 anI), (h25, aI (k 0) 400 anI), (h26, aI (k 0) 256 (rgI (-1) 99)), (h27, aI (k 0) 100 (rgI (-1) 99)), (h28, aJ (k 1) 60 anJ)] s.heap := hT
  refine lv_aload_n hx hb dX10_element_0 rfl (lv_at hl 0 rfl) ?_
  refine tcV (Tc := [(h0, ob 7 [.ref h1, .ref h2, .int h0f2, .ref h3, .ref h4, .ref h5, .int h0f6, .ref h6, .int h0f8, .null, .ref h7, .int h0f11, .ref h8, .ref h9, .ref h10, .ref h11, .ref h12]), (h1, ob 4 [.int h1f0, .int h1f1, .int h1f2, .ref h13]), (h5, ob 3 [.ref h21, .ref h22, .ref h23, .ref h24, .ref h25, .ref h26, .ref h27, .ref h28, .int h5f8, .int h5f9, .int h5f10, .int h5f11]), (h8, ob 2 [.ref h1, .int h8f1]), (h11, aJ (k 1) 9 anJ), (h13, aJ (k 1) 36 anJ), (h21, aJ (k 1) 900 anJ), (h22, aI (k 0) 100 anI), (h23, aI (k 0) 100 anI), (h24, aI (k 0) 100 anI), (h25, aI (k 0) 400 anI), (h26, aI (k 0) 256 (rgI (-1) 99)), (h27, aI (k 0) 100 (rgI (-1) 99)), (h28, aJ (k 1) 60 anJ)]) (Tr := []) (as := [h0, h1, h5, h8, h11, h13, h21, h22, h23, h24, h25, h26, h27, h28]) (zcV (q0 := 0) (ci := 7) (As := []) (rest := []) (Tc := [(h0, ob 7 [.ref h1, .ref h2, .int h0f2, .ref h3, .ref h4, .ref h5, .int h0f6, .ref h6, .int h0f8, .null, .ref h7, .int h0f11, .ref h8, .ref h9, .ref h10, .ref h11, .ref h12]), (h1, ob 4 [.int h1f0, .int h1f1, .int h1f2, .ref h13]), (h5, ob 3 [.ref h21, .ref h22, .ref h23, .ref h24, .ref h25, .ref h26, .ref h27, .ref h28, .int h5f8, .int h5f9, .int h5f10, .int h5f11]), (h8, ob 2 [.ref h1, .int h8f1]), (h11, aJ (k 1) 9 anJ), (h13, aJ (k 1) 36 anJ), (h21, aJ (k 1) 900 anJ), (h22, aI (k 0) 100 anI), (h23, aI (k 0) 100 anI), (h24, aI (k 0) 100 anI), (h25, aI (k 0) 400 anI), (h26, aI (k 0) 256 (rgI (-1) 99)), (h27, aI (k 0) 100 (rgI (-1) 99)), (h28, aJ (k 1) 60 anJ)]) hx hb hml hown hU hK hT rfl rfl [0, 1, 2, 3, 4, 5, 6, 7, 8, 9, 10, 11, 12, 13] rfl (by decide) (cX10_listAll_fe300 l D k _ h0 h1 h5 h8 h11 h13 h21 h22 h23 h24 h25 h26 h27 h28 h2 h3 h4 h6 h7 h9 h10 h12 h0f2 h0f6 h0f8 h0f11 h1f0 h1f1 h1f2 h5f8 h5f9 h5f10 h5f11 h8f1 (by omega) (by omega) (by omega) (by omega) (by omega) (by omega) (by omega) (by omega) (by omega) (by omega) (by omega)) w492 w489 w491 w10 w63 hdX10_listAll ⟨rfl, rfl⟩ ⟨Nat.le_of_ble_eq_true rfl, Nat.le_of_ble_eq_true rfl⟩ rfl hl.1 (Nat.le_of_ble_eq_true rfl) dX10_element_1 ⟨Nat.le_of_ble_eq_true rfl, Nat.le_of_ble_eq_true rfl⟩) hT hS hA [0, 1, 2, 3, 4, 5, 6, 7, 8, 9, 10, 11, 12, 13] [] rfl rfl rfl (by decide) (by decide) (fun H locs hB J hS => ?_)
  obtain ⟨v2, v3, v4, v5, v6, v7, b_v2, b_v3, b_v4, b_v5, b_v6, b_v7, hT1⟩ := hB
  have hT := J _ hT1
  have hT : TP D A [(h0, ob 7 [.ref h1, .ref h2, .int h0f2, .ref h3, .ref h4, .ref h5, .int v2, .ref h6, .int h0f8, .null, .ref h7, .int h0f11, .ref h8, .ref h9, .ref h10, .ref h11, .ref h12]), (h1, ob 4 [.int h1f0, .int h1f1, .int h1f2, .ref h13]), (h5, ob 3 [.ref h21, .ref h22, .ref h23, .ref h24, .ref h25, .ref h26, .ref h27, .ref h28, .int v3, .int v4, .int v5, .int v6]), (h8, ob 2 [.ref h1, .int v7]), (h11, aJ (k 1) 9 anJ), (h13, aJ (k 1) 36 anJ), (h21, aJ (k 1) 900 anJ), (h22, aI (k 0) 100 anI), (h23, aI (k 0) 100 anI), (h24, aI (k 0) 100 anI), (h25, aI (k 0) 400 anI), (h26, aI (k 0) 256 (rgI (-1) 99)), (h27, aI (k 0) 100 (rgI (-1) 99)), (h28, aJ (k 1) 60 anJ)] _ := hT
  refine lv_aload_n hx hb dX10_element_4 rfl (lv_at hl 0 rfl) ?_
  refine tz_get (ci := 7) (v := .ref h5) (C := RX10) (F := TX10) (N := 17) hx hb hU iX10 hown hK hT 0 rfl rfl 5 (by decide) w254 (fun _ h9 => h9) rfl dX10_element_5 ?_
  refine lv_iload_n hx hb dX10_element_8 rfl (lv_at hl 1 rfl) ?_
  refine tcI (Tc := [(h5, ob 3 [.ref h21, .ref h22, .ref h23, .ref h24, .ref h25, .ref h26, .ref h27, .ref h28, .int v3, .int v4, .int v5, .int v6])]) (Tr := [(h0, ob 7 [.ref h1, .ref h2, .int h0f2, .ref h3, .ref h4, .ref h5, .int v2, .ref h6, .int h0f8, .null, .ref h7, .int h0f11, .ref h8, .ref h9, .ref h10, .ref h11, .ref h12]), (h1, ob 4 [.int h1f0, .int h1f1, .int h1f2, .ref h13]), (h8, ob 2 [.ref h1, .int v7]), (h11, aJ (k 1) 9 anJ), (h13, aJ (k 1) 36 anJ), (h21, aJ (k 1) 900 anJ), (h22, aI (k 0) 100 anI), (h23, aI (k 0) 100 anI), (h24, aI (k 0) 100 anI), (h25, aI (k 0) 400 anI), (h26, aI (k 0) 256 (rgI (-1) 99)), (h27, aI (k 0) 100 (rgI (-1) 99)), (h28, aJ (k 1) 60 anJ)]) (as := [h5]) (zcV (q0 := 2) (ci := 3) (As := [.int x1]) (rest := []) (Tc := [(h5, ob 3 [.ref h21, .ref h22, .ref h23, .ref h24, .ref h25, .ref h26, .ref h27, .ref h28, .int v3, .int v4, .int v5, .int v6])]) hx hb hml hown hU hK hT rfl rfl [2] rfl (by decide) (cX4_has_a7dbf l D k _ h5 h21 h22 h23 h24 h25 h26 h27 h28 x1 v3 v4 v5 v6 (by omega) (by omega) (by omega) (by omega)) w510 w569 w508 w509 w66 hdX4_has ⟨rfl, rfl⟩ ⟨Nat.le_of_ble_eq_true rfl, Nat.le_of_ble_eq_true rfl⟩ rfl hl.1 (Nat.le_of_ble_eq_true rfl) dX10_element_9 ⟨Nat.le_of_ble_eq_true rfl, Nat.le_of_ble_eq_true rfl⟩) hT hS hA [2] [0, 1, 3, 4, 5, 6, 7, 8, 9, 10, 11, 12, 13] rfl rfl rfl (by decide) (by decide) (fun r8 H locs hB J hS => ?_)
  rcases hB with ⟨rfl, hT1⟩ | ⟨c_9, c_10, rfl, hT1⟩
  · skip
    have hT := J _ hT1
    have hT : TP D A [(h0, ob 7 [.ref h1, .ref h2, .int h0f2, .ref h3, .ref h4, .ref h5, .int v2, .ref h6, .int h0f8, .null, .ref h7, .int h0f11, .ref h8, .ref h9, .ref h10, .ref h11, .ref h12]), (h1, ob 4 [.int h1f0, .int h1f1, .int h1f2, .ref h13]), (h8, ob 2 [.ref h1, .int v7]), (h11, aJ (k 1) 9 anJ), (h13, aJ (k 1) 36 anJ), (h21, aJ (k 1) 900 anJ), (h22, aI (k 0) 100 anI), (h23, aI (k 0) 100 anI), (h24, aI (k 0) 100 anI), (h25, aI (k 0) 400 anI), (h26, aI (k 0) 256 (rgI (-1) 99)), (h27, aI (k 0) 100 (rgI (-1) 99)), (h28, aJ (k 1) 60 anJ), (h5, ob 3 [.ref h21, .ref h22, .ref h23, .ref h24, .ref h25, .ref h26, .ref h27, .ref h28, .int v3, .int v4, .int v5, .int v6])] _ := hT
    refine lv_if_eq (tgt := 27) hx hb dX10_element_12 (by decide) (fun _ => ?_) (fun cc => absurd (by decide +kernel) cc)
    refine lv_iconst (v := (-1)) hx hb dX10_element_27 (by decide) ?_
    have q_q12 := li_m1
    refine tcL (Tc := []) (Tr := [(h0, ob 7 [.ref h1, .ref h2, .int h0f2, .ref h3, .ref h4, .ref h5, .int v2, .ref h6, .int h0f8, .null, .ref h7, .int h0f11, .ref h8, .ref h9, .ref h10, .ref h11, .ref h12]), (h1, ob 4 [.int h1f0, .int h1f1, .int h1f2, .ref h13]), (h8, ob 2 [.ref h1, .int v7]), (h11, aJ (k 1) 9 anJ), (h13, aJ (k 1) 36 anJ), (h21, aJ (k 1) 900 anJ), (h22, aI (k 0) 100 anI), (h23, aI (k 0) 100 anI), (h24, aI (k 0) 100 anI), (h25, aI (k 0) 400 anI), (h26, aI (k 0) 256 (rgI (-1) 99)), (h27, aI (k 0) 100 (rgI (-1) 99)), (h28, aJ (k 1) 60 anJ), (h5, ob 3 [.ref h21, .ref h22, .ref h23, .ref h24, .ref h25, .ref h26, .ref h27, .ref h28, .int v3, .int v4, .int v5, .int v6])]) (as := []) (zcS (As := [.int (-1)]) (rest := []) (Tc := []) hx hb hml hown hU hK hT [] rfl (by decide) (cX10_asLong_5cc16 l D k _ ((-1)) (by have := li_m1; omega)) w572 w570 w571 w63 hdX10_asLong ⟨rfl, rfl⟩ ⟨Nat.le_of_ble_eq_true rfl, Nat.le_of_ble_eq_true rfl⟩ rfl hl.1 (Nat.le_of_ble_eq_true rfl) dX10_element_28 ⟨Nat.le_of_ble_eq_true rfl, Nat.le_of_ble_eq_true rfl⟩) hT hS hA [] [0, 1, 2, 3, 4, 5, 6, 7, 8, 9, 10, 11, 12, 13] rfl rfl rfl (by decide) (by decide) (fun r11 H locs hB J hS => ?_)
    obtain ⟨b_r11, hT1⟩ := hB
    have hT := J _ hT1
    have hT : TP D A [(h0, ob 7 [.ref h1, .ref h2, .int h0f2, .ref h3, .ref h4, .ref h5, .int v2, .ref h6, .int h0f8, .null, .ref h7, .int h0f11, .ref h8, .ref h9, .ref h10, .ref h11, .ref h12]), (h1, ob 4 [.int h1f0, .int h1f1, .int h1f2, .ref h13]), (h8, ob 2 [.ref h1, .int v7]), (h11, aJ (k 1) 9 anJ), (h13, aJ (k 1) 36 anJ), (h21, aJ (k 1) 900 anJ), (h22, aI (k 0) 100 anI), (h23, aI (k 0) 100 anI), (h24, aI (k 0) 100 anI), (h25, aI (k 0) 400 anI), (h26, aI (k 0) 256 (rgI (-1) 99)), (h27, aI (k 0) 100 (rgI (-1) 99)), (h28, aJ (k 1) 60 anJ), (h5, ob 3 [.ref h21, .ref h22, .ref h23, .ref h24, .ref h25, .ref h26, .ref h27, .ref h28, .int v3, .int v4, .int v5, .int v6])] _ := hT
    exact tz_retL (B := B_cX10_element_b701b D k h0 h1 h5 h8 h11 h13 h21 h22 h23 h24 h25 h26 h27 h28 h2 h3 h4 h6 h7 h9 h10 h12 x1 x2 x3 h0f2 h0f6 h0f8 h0f11 h1f0 h1f1 h1f2 h5f8 h5f9 h5f10 h5f11 h8f1) (v := r11) hQ hx hb hr hlocks hS (Nat.le_of_ble_eq_true rfl) (Nat.le_of_ble_eq_true rfl) dX10_element_31 (⟨v2, v3, v4, v5, v6, v7, (by omega), (by omega), (by omega), (by omega), (by omega), (by omega), (hT.sub [0, 1, 13, 2, 3, 4, 5, 6, 7, 8, 9, 10, 11, 12] (by decide) rfl)⟩)
  · skip
    have hT := J _ hT1
    have hT : TP D A [(h0, ob 7 [.ref h1, .ref h2, .int h0f2, .ref h3, .ref h4, .ref h5, .int v2, .ref h6, .int h0f8, .null, .ref h7, .int h0f11, .ref h8, .ref h9, .ref h10, .ref h11, .ref h12]), (h1, ob 4 [.int h1f0, .int h1f1, .int h1f2, .ref h13]), (h8, ob 2 [.ref h1, .int v7]), (h11, aJ (k 1) 9 anJ), (h13, aJ (k 1) 36 anJ), (h21, aJ (k 1) 900 anJ), (h22, aI (k 0) 100 anI), (h23, aI (k 0) 100 anI), (h24, aI (k 0) 100 anI), (h25, aI (k 0) 400 anI), (h26, aI (k 0) 256 (rgI (-1) 99)), (h27, aI (k 0) 100 (rgI (-1) 99)), (h28, aJ (k 1) 60 anJ), (h5, ob 3 [.ref h21, .ref h22, .ref h23, .ref h24, .ref h25, .ref h26, .ref h27, .ref h28, .int v3, .int v4, .int v5, .int v6])] _ := hT
    refine lv_if_eq (tgt := 27) hx hb dX10_element_12 (by decide) (fun cc => absurd cc (by decide +kernel)) (fun _ => ?_)
    refine lv_aload_n hx hb dX10_element_15 rfl (lv_at hl 0 rfl) ?_
    refine tz_get (ci := 7) (v := .ref h1) (C := RX10) (F := TX10) (N := 17) hx hb hU iX10 hown hK hT 0 rfl rfl 0 (by decide) w249 (fun _ h9 => h9) rfl dX10_element_16 ?_
    refine lv_iload_n hx hb dX10_element_19 rfl (lv_at hl 2 rfl) ?_
    refine lv_iload_n hx hb dX10_element_20 rfl (lv_at hl 3 rfl) ?_
    refine tcI (Tc := [(h1, ob 4 [.int h1f0, .int h1f1, .int h1f2, .ref h13])]) (Tr := [(h0, ob 7 [.ref h1, .ref h2, .int h0f2, .ref h3, .ref h4, .ref h5, .int v2, .ref h6, .int h0f8, .null, .ref h7, .int h0f11, .ref h8, .ref h9, .ref h10, .ref h11, .ref h12]), (h8, ob 2 [.ref h1, .int v7]), (h11, aJ (k 1) 9 anJ), (h13, aJ (k 1) 36 anJ), (h21, aJ (k 1) 900 anJ), (h22, aI (k 0) 100 anI), (h23, aI (k 0) 100 anI), (h24, aI (k 0) 100 anI), (h25, aI (k 0) 400 anI), (h26, aI (k 0) 256 (rgI (-1) 99)), (h27, aI (k 0) 100 (rgI (-1) 99)), (h28, aJ (k 1) 60 anJ), (h5, ob 3 [.ref h21, .ref h22, .ref h23, .ref h24, .ref h25, .ref h26, .ref h27, .ref h28, .int v3, .int v4, .int v5, .int v6])]) (as := [h1]) (zcV (q0 := 1) (ci := 4) (As := [.int x2, .int x3]) (rest := []) (Tc := [(h1, ob 4 [.int h1f0, .int h1f1, .int h1f2, .ref h13])]) hx hb hml hown hU hK hT rfl rfl [1] rfl (by decide) (cX5_isPlace_ce953 l D k _ h1 h13 x2 x3 h1f0 h1f1 h1f2 (by omega) (by omega)) w319 w316 w317 w318 w64 hdX5_isPlace ⟨rfl, rfl⟩ ⟨Nat.le_of_ble_eq_true rfl, Nat.le_of_ble_eq_true rfl⟩ rfl hl.1 (Nat.le_of_ble_eq_true rfl) dX10_element_21 ⟨Nat.le_of_ble_eq_true rfl, Nat.le_of_ble_eq_true rfl⟩) hT hS hA [1] [0, 2, 3, 4, 5, 6, 7, 8, 9, 10, 11, 12, 13] rfl rfl rfl (by decide) (by decide) (fun r13 H locs hB J hS => ?_)
    rcases hB with ⟨rfl, hT1⟩ | ⟨c_14, c_15, c_16, c_17, rfl, hT1⟩
    · skip
      have hT := J _ hT1
      have hT : TP D A [(h0, ob 7 [.ref h1, .ref h2, .int h0f2, .ref h3, .ref h4, .ref h5, .int v2, .ref h6, .int h0f8, .null, .ref h7, .int h0f11, .ref h8, .ref h9, .ref h10, .ref h11, .ref h12]), (h8, ob 2 [.ref h1, .int v7]), (h11, aJ (k 1) 9 anJ), (h13, aJ (k 1) 36 anJ), (h21, aJ (k 1) 900 anJ), (h22, aI (k 0) 100 anI), (h23, aI (k 0) 100 anI), (h24, aI (k 0) 100 anI), (h25, aI (k 0) 400 anI), (h26, aI (k 0) 256 (rgI (-1) 99)), (h27, aI (k 0) 100 (rgI (-1) 99)), (h28, aJ (k 1) 60 anJ), (h5, ob 3 [.ref h21, .ref h22, .ref h23, .ref h24, .ref h25, .ref h26, .ref h27, .ref h28, .int v3, .int v4, .int v5, .int v6]), (h1, ob 4 [.int h1f0, .int h1f1, .int h1f2, .ref h13])] _ := hT
      refine lv_if_ne (tgt := 32) hx hb dX10_element_24 (by decide) (fun cc => absurd (by decide +kernel) cc) (fun _ => ?_)
      refine lv_iconst (v := (-1)) hx hb dX10_element_27 (by decide) ?_
      have q_q19 := li_m1
      refine tcL (Tc := []) (Tr := [(h0, ob 7 [.ref h1, .ref h2, .int h0f2, .ref h3, .ref h4, .ref h5, .int v2, .ref h6, .int h0f8, .null, .ref h7, .int h0f11, .ref h8, .ref h9, .ref h10, .ref h11, .ref h12]), (h8, ob 2 [.ref h1, .int v7]), (h11, aJ (k 1) 9 anJ), (h13, aJ (k 1) 36 anJ), (h21, aJ (k 1) 900 anJ), (h22, aI (k 0) 100 anI), (h23, aI (k 0) 100 anI), (h24, aI (k 0) 100 anI), (h25, aI (k 0) 400 anI), (h26, aI (k 0) 256 (rgI (-1) 99)), (h27, aI (k 0) 100 (rgI (-1) 99)), (h28, aJ (k 1) 60 anJ), (h5, ob 3 [.ref h21, .ref h22, .ref h23, .ref h24, .ref h25, .ref h26, .ref h27, .ref h28, .int v3, .int v4, .int v5, .int v6]), (h1, ob 4 [.int h1f0, .int h1f1, .int h1f2, .ref h13])]) (as := []) (zcS (As := [.int (-1)]) (rest := []) (Tc := []) hx hb hml hown hU hK hT [] rfl (by decide) (cX10_asLong_5cc16 l D k _ ((-1)) (by have := li_m1; omega)) w572 w570 w571 w63 hdX10_asLong ⟨rfl, rfl⟩ ⟨Nat.le_of_ble_eq_true rfl, Nat.le_of_ble_eq_true rfl⟩ rfl hl.1 (Nat.le_of_ble_eq_true rfl) dX10_element_28 ⟨Nat.le_of_ble_eq_true rfl, Nat.le_of_ble_eq_true rfl⟩) hT hS hA [] [0, 1, 2, 3, 4, 5, 6, 7, 8, 9, 10, 11, 12, 13] rfl rfl rfl (by decide) (by decide) (fun r18 H locs hB J hS => ?_)
      obtain ⟨b_r18, hT1⟩ := hB
      have hT := J _ hT1
      have hT : TP D A [(h0, ob 7 [.ref h1, .ref h2, .int h0f2, .ref h3, .ref h4, .ref h5, .int v2, .ref h6, .int h0f8, .null, .ref h7, .int h0f11, .ref h8, .ref h9, .ref h10, .ref h11, .ref h12]), (h8, ob 2 [.ref h1, .int v7]), (h11, aJ (k 1) 9 anJ), (h13, aJ (k 1) 36 anJ), (h21, aJ (k 1) 900 anJ), (h22, aI (k 0) 100 anI), (h23, aI (k 0) 100 anI), (h24, aI (k 0) 100 anI), (h25, aI (k 0) 400 anI), (h26, aI (k 0) 256 (rgI (-1) 99)), (h27, aI (k 0) 100 (rgI (-1) 99)), (h28, aJ (k 1) 60 anJ), (h5, ob 3 [.ref h21, .ref h22, .ref h23, .ref h24, .ref h25, .ref h26, .ref h27, .ref h28, .int v3, .int v4, .int v5, .int v6]), (h1, ob 4 [.int h1f0, .int h1f1, .int h1f2, .ref h13])] _ := hT
      exact tz_retL (B := B_cX10_element_b701b D k h0 h1 h5 h8 h11 h13 h21 h22 h23 h24 h25 h26 h27 h28 h2 h3 h4 h6 h7 h9 h10 h12 x1 x2 x3 h0f2 h0f6 h0f8 h0f11 h1f0 h1f1 h1f2 h5f8 h5f9 h5f10 h5f11 h8f1) (v := r18) hQ hx hb hr hlocks hS (Nat.le_of_ble_eq_true rfl) (Nat.le_of_ble_eq_true rfl) dX10_element_31 (⟨v2, v3, v4, v5, v6, v7, (by omega), (by omega), (by omega), (by omega), (by omega), (by omega), (hT.sub [0, 13, 12, 1, 2, 3, 4, 5, 6, 7, 8, 9, 10, 11] (by decide) rfl)⟩)
    · skip
      have hT := J _ hT1
      have hT : TP D A [(h0, ob 7 [.ref h1, .ref h2, .int h0f2, .ref h3, .ref h4, .ref h5, .int v2, .ref h6, .int h0f8, .null, .ref h7, .int h0f11, .ref h8, .ref h9, .ref h10, .ref h11, .ref h12]), (h8, ob 2 [.ref h1, .int v7]), (h11, aJ (k 1) 9 anJ), (h13, aJ (k 1) 36 anJ), (h21, aJ (k 1) 900 anJ), (h22, aI (k 0) 100 anI), (h23, aI (k 0) 100 anI), (h24, aI (k 0) 100 anI), (h25, aI (k 0) 400 anI), (h26, aI (k 0) 256 (rgI (-1) 99)), (h27, aI (k 0) 100 (rgI (-1) 99)), (h28, aJ (k 1) 60 anJ), (h5, ob 3 [.ref h21, .ref h22, .ref h23, .ref h24, .ref h25, .ref h26, .ref h27, .ref h28, .int v3, .int v4, .int v5, .int v6]), (h1, ob 4 [.int h1f0, .int h1f1, .int h1f2, .ref h13])] _ := hT
      refine lv_if_ne (tgt := 32) hx hb dX10_element_24 (by decide) (fun _ => ?_) (fun cc => absurd cc (by decide +kernel))
      refine lv_aload_n hx hb dX10_element_32 rfl (lv_at hl 0 rfl) ?_
      refine tz_get (ci := 7) (v := .ref h5) (C := RX10) (F := TX10) (N := 17) hx hb hU iX10 hown hK hT 0 rfl rfl 5 (by decide) w254 (fun _ h9 => h9) rfl dX10_element_33 ?_
      refine tz_get (ci := 3) (v := .ref h21) (C := RX4) (F := TX4) (N := 12) hx hb hU iX4 hown hK hT 12 rfl rfl 0 (by decide) w150 (fun _ h9 => h9) rfl dX10_element_36 ?_
      refine lv_aload_n hx hb dX10_element_39 rfl (lv_at hl 0 rfl) ?_
      refine tz_get (ci := 7) (v := .ref h5) (C := RX10) (F := TX10) (N := 17) hx hb hU iX10 hown hK hT 0 rfl rfl 5 (by decide) w254 (fun _ h9 => h9) rfl dX10_element_40 ?_
      refine lv_iload_n hx hb dX10_element_43 rfl (lv_at hl 1 rfl) ?_
      refine tcI (Tc := [(h5, ob 3 [.ref h21, .ref h22, .ref h23, .ref h24, .ref h25, .ref h26, .ref h27, .ref h28, .int v3, .int v4, .int v5, .int v6])]) (Tr := [(h0, ob 7 [.ref h1, .ref h2, .int h0f2, .ref h3, .ref h4, .ref h5, .int v2, .ref h6, .int h0f8, .null, .ref h7, .int h0f11, .ref h8, .ref h9, .ref h10, .ref h11, .ref h12]), (h8, ob 2 [.ref h1, .int v7]), (h11, aJ (k 1) 9 anJ), (h13, aJ (k 1) 36 anJ), (h21, aJ (k 1) 900 anJ), (h22, aI (k 0) 100 anI), (h23, aI (k 0) 100 anI), (h24, aI (k 0) 100 anI), (h25, aI (k 0) 400 anI), (h26, aI (k 0) 256 (rgI (-1) 99)), (h27, aI (k 0) 100 (rgI (-1) 99)), (h28, aJ (k 1) 60 anJ), (h1, ob 4 [.int h1f0, .int h1f1, .int h1f2, .ref h13])]) (as := [h5]) (zcV (q0 := 12) (ci := 3) (As := [.int x1]) (rest := [.ref h21]) (Tc := [(h5, ob 3 [.ref h21, .ref h22, .ref h23, .ref h24, .ref h25, .ref h26, .ref h27, .ref h28, .int v3, .int v4, .int v5, .int v6])]) hx hb hml hown hU hK hT rfl rfl [12] rfl (by decide) (cX4_start_d01b0 l D k _ h5 h21 h22 h23 h24 h25 h26 h27 h28 x1 v3 v4 v5 v6 (by omega) (by omega) (by omega) (by omega) (by omega)) w505 w574 w503 w504 w66 hdX4_start ⟨rfl, rfl⟩ ⟨Nat.le_of_ble_eq_true rfl, Nat.le_of_ble_eq_true rfl⟩ rfl hl.1 (Nat.le_of_ble_eq_true rfl) dX10_element_44 ⟨Nat.le_of_ble_eq_true rfl, Nat.le_of_ble_eq_true rfl⟩) hT hS hA [12] [0, 1, 2, 3, 4, 5, 6, 7, 8, 9, 10, 11, 13] rfl rfl rfl (by decide) (by decide) (fun r20 H locs hB J hS => ?_)
      obtain ⟨b_r20, hT1⟩ := hB
      have hT := J _ hT1
      have hT : TP D A [(h0, ob 7 [.ref h1, .ref h2, .int h0f2, .ref h3, .ref h4, .ref h5, .int v2, .ref h6, .int h0f8, .null, .ref h7, .int h0f11, .ref h8, .ref h9, .ref h10, .ref h11, .ref h12]), (h8, ob 2 [.ref h1, .int v7]), (h11, aJ (k 1) 9 anJ), (h13, aJ (k 1) 36 anJ), (h21, aJ (k 1) 900 anJ), (h22, aI (k 0) 100 anI), (h23, aI (k 0) 100 anI), (h24, aI (k 0) 100 anI), (h25, aI (k 0) 400 anI), (h26, aI (k 0) 256 (rgI (-1) 99)), (h27, aI (k 0) 100 (rgI (-1) 99)), (h28, aJ (k 1) 60 anJ), (h1, ob 4 [.int h1f0, .int h1f1, .int h1f2, .ref h13]), (h5, ob 3 [.ref h21, .ref h22, .ref h23, .ref h24, .ref h25, .ref h26, .ref h27, .ref h28, .int v3, .int v4, .int v5, .int v6])] _ := hT
      refine lv_iload_n hx hb dX10_element_47 rfl (lv_at hl 2 rfl) ?_
      refine lv_aload_n hx hb dX10_element_48 rfl (lv_at hl 0 rfl) ?_
      refine tz_get (ci := 7) (v := .ref h1) (C := RX10) (F := TX10) (N := 17) hx hb hU iX10 hown hK hT 0 rfl rfl 0 (by decide) w249 (fun _ h9 => h9) rfl dX10_element_49 ?_
      refine tz_get (ci := 4) (v := .int h1f0) (C := RX5) (F := TX5) (N := 4) hx hb hU iX5 hown hK hT 12 rfl rfl 0 (by decide) w93 (fun _ h9 => h9) rfl dX10_element_52 ?_
      refine lv_imul hx hb dX10_element_55 (lv_topi (fun v21 e_v21 => ?_))
      have e_v21 := ai_mm (la := 0) (ua := 2) (lb := 1) (ub := 3) e_v21 rfl rfl (by omega) (by decide)
      refine lv_iadd hx hb dX10_element_56 (lv_topi (fun v22 e_v22 => ?_))
      have e_v22 := ai_add e_v22 rfl rfl (by omega)
      refine lv_iload_n hx hb dX10_element_57 rfl (lv_at hl 3 rfl) ?_
      refine lv_iadd hx hb dX10_element_58 (lv_topi (fun v23 e_v23 => ?_))
      have e_v23 := ai_add e_v23 rfl rfl (by omega)
      refine tz_lald hx hb hK hT 4 rfl (by omega) dX10_element_59 (fun v24 e_v24 => ?_)
      clear e_v24
      exact tz_retL (B := B_cX10_element_b701b D k h0 h1 h5 h8 h11 h13 h21 h22 h23 h24 h25 h26 h27 h28 h2 h3 h4 h6 h7 h9 h10 h12 x1 x2 x3 h0f2 h0f6 h0f8 h0f11 h1f0 h1f1 h1f2 h5f8 h5f9 h5f10 h5f11 h8f1) (v := v24) hQ hx hb hr hlocks hS (Nat.le_of_ble_eq_true rfl) (Nat.le_of_ble_eq_true rfl) dX10_element_60 (⟨v2, v3, v4, v5, v6, v7, (by omega), (by omega), (by omega), (by omega), (by omega), (by omega), (hT.sub [0, 12, 13, 1, 2, 3, 4, 5, 6, 7, 8, 9, 10, 11] (by decide) rfl)⟩)
abbrev Rm_cX10_element_547b3 : Room := { frames := 6, cells := 0, slots := 0, locals := 149 }
abbrev B_cX10_element_547b3 (D : va_G) (k : Nat → ClassId) (h0 h1 h5 h9 h12 h14 h22 h23 h24 h25 h26 h27 h28 h29 h2 h3 h4 h6 h7 h8 h10 h11 h13 : Nat) (x1 : Int32) (x2 : Int32) (x3 : Int32) (h0f2 : Int32) (h0f6 : Int32) (h0f8 : Int32) (h0f11 : Int32) (h1f0 : Int32) (h1f1 : Int32) (h1f2 : Int32) (h5f8 : Int32) (h5f9 : Int32) (h5f10 : Int32) (h5f11 : Int32) (h9f1 : Int32) (A : Nat → Prop) (r : Int64) (H : Heap) : Prop := ∃ o0 : Int32, ∃ o1 : Int32, ∃ o2 : Int32, ∃ o3 : Int32, ∃ o4 : Int32, ∃ o5 : Int32, (1 ≤ o0.toInt ∧ o0.toInt ≤ 1) ∧ (0 ≤ o1.toInt ∧ o1.toInt ≤ 9) ∧ (0 ≤ o2.toInt ∧ o2.toInt ≤ 100) ∧ (0 ≤ o3.toInt ∧ o3.toInt ≤ 100) ∧ (0 ≤ o4.toInt ∧ o4.toInt ≤ 1) ∧ (0 ≤ o5.toInt ∧ o5.toInt ≤ 7) ∧ TP D A [(h0, ob 7 [.ref h1, .ref h2, .int h0f2, .ref h3, .ref h4, .ref h5, .int o0, .ref h6, .int h0f8, .ref h7, .ref h8, .int h0f11, .ref h9, .ref h10, .ref h11, .ref h12, .ref h13]), (h1, ob 4 [.int h1f0, .int h1f1, .int h1f2, .ref h14]), (h5, ob 3 [.ref h22, .ref h23, .ref h24, .ref h25, .ref h26, .ref h27, .ref h28, .ref h29, .int o1, .int o2, .int o3, .int o4]), (h9, ob 2 [.ref h1, .int o5]), (h12, aJ (k 1) 9 anJ), (h14, aJ (k 1) 36 anJ), (h22, aJ (k 1) 900 anJ), (h23, aI (k 0) 100 anI), (h24, aI (k 0) 100 anI), (h25, aI (k 0) 100 anI), (h26, aI (k 0) 400 anI), (h27, aI (k 0) 256 (rgI (-1) 99)), (h28, aI (k 0) 100 (rgI (-1) 99)), (h29, aJ (k 1) 60 anJ)] H
set_option maxHeartbeats 4000000 in
set_option maxRecDepth 100000 in
theorem cX10_element_547b3 (l : Launch) (D : va_G) (k : Nat → ClassId) (sz : Nat) (h0 h1 h5 h9 h12 h14 h22 h23 h24 h25 h26 h27 h28 h29 h2 h3 h4 h6 h7 h8 h10 h11 h13 : Nat) (x1 : Int32) (x2 : Int32) (x3 : Int32) (h0f2 : Int32) (h0f6 : Int32) (h0f8 : Int32) (h0f11 : Int32) (h1f0 : Int32) (h1f1 : Int32) (h1f2 : Int32) (h5f8 : Int32) (h5f9 : Int32) (h5f10 : Int32) (h5f11 : Int32) (h9f1 : Int32) (b_h0f2 : 0 ≤ h0f2.toInt ∧ h0f2.toInt ≤ 1) (b_h0f6 : 0 ≤ h0f6.toInt ∧ h0f6.toInt ≤ 1) (b_h0f8 : 0 ≤ h0f8.toInt ∧ h0f8.toInt ≤ 1) (b_h0f11 : 0 ≤ h0f11.toInt ∧ h0f11.toInt ≤ 200) (b_h1f0 : 1 ≤ h1f0.toInt ∧ h1f0.toInt ≤ 3) (b_h1f1 : 0 ≤ h1f1.toInt ∧ h1f1.toInt ≤ 4) (b_h5f8 : 0 ≤ h5f8.toInt ∧ h5f8.toInt ≤ 9) (b_h5f9 : 0 ≤ h5f9.toInt ∧ h5f9.toInt ≤ 100) (b_h5f10 : 0 ≤ h5f10.toInt ∧ h5f10.toInt ≤ 100) (b_h5f11 : 0 ≤ h5f11.toInt ∧ h5f11.toInt ≤ 1) (b_h9f1 : 0 ≤ h9f1.toInt ∧ h9f1.toInt ≤ 7) : Met l yX10_element (Cond.code yX10_element cX10_element 4 (some .long) :: uw) Rm_cX10_element_547b3 (pT D k sz [.ref h0, .int x1, .int x2, .int x3] [(h0, ob 7 [.ref h1, .ref h2, .int h0f2, .ref h3, .ref h4, .ref h5, .int h0f6, .ref h6, .int h0f8, .ref h7, .ref h8, .int h0f11, .ref h9, .ref h10, .ref h11, .ref h12, .ref h13]), (h1, ob 4 [.int h1f0, .int h1f1, .int h1f2, .ref h14]), (h5, ob 3 [.ref h22, .ref h23, .ref h24, .ref h25, .ref h26, .ref h27, .ref h28, .ref h29, .int h5f8, .int h5f9, .int h5f10, .int h5f11]), (h9, ob 2 [.ref h1, .int h9f1]), (h12, aJ (k 1) 9 anJ), (h14, aJ (k 1) 36 anJ), (h22, aJ (k 1) 900 anJ), (h23, aI (k 0) 100 anI), (h24, aI (k 0) 100 anI), (h25, aI (k 0) 100 anI), (h26, aI (k 0) 400 anI), (h27, aI (k 0) 256 (rgI (-1) 99)), (h28, aI (k 0) 100 (rgI (-1) 99)), (h29, aJ (k 1) 60 anJ)]) (qL (B_cX10_element_547b3 D k h0 h1 h5 h9 h12 h14 h22 h23 h24 h25 h26 h27 h28 h29 h2 h3 h4 h6 h7 h8 h10 h11 h13 x1 x2 x3 h0f2 h0f6 h0f8 h0f11 h1f0 h1f1 h1f2 h5f8 h5f9 h5f10 h5f11 h9f1 (zA [h0, h1, h5, h9, h12, h14, h22, h23, h24, h25, h26, h27, h28, h29] sz)) (zA [h0, h1, h5, h9, h12, h14, h22, h23, h24, h25, h26, h27, h28, h29] sz)) 0 0 (zA [h0, h1, h5, h9, h12, h14, h22, h23, h24, h25, h26, h27, h28, h29] sz) := by
  refine tz_begin (as := [h0, h1, h5, h9, h12, h14, h22, h23, h24, h25, h26, h27, h28, h29]) (Qc := fun A => qL (B_cX10_element_547b3 D k h0 h1 h5 h9 h12 h14 h22 h23 h24 h25 h26 h27 h28 h29 h2 h3 h4 h6 h7 h8 h10 h11 h13 x1 x2 x3 h0f2 h0f6 h0f8 h0f11 h1f0 h1f1 h1f2 h5f8 h5f9 h5f10 h5f11 h9f1 A) A) (by decide +kernel) rfl (Nat.le_of_ble_eq_true rfl) ?_
  intro p e s m args below meth c ls A Q hx hb hr hml hown hlocks hin hU hK hT hS hA hl hQ
  have hl : lv_has ls 4 [(0, .ref h0), (1, .int x1), (2, .int x2), (3, .int x3)] := hl
  have hT : TP D A [(h0, ob 7 [.ref h1, .ref h2, .int h0f2, .ref h3, .ref h4, .ref h5, .int h0f6, .ref h6, .int h0f8, .ref h7, .ref h8, .int h0f11, .ref h9, .ref h10, .ref h11, .ref h12, .ref h13]), (h1, ob 4 [.int h1f0, .int h1f1, .int h1f2, .ref h14]), (h5, ob 3 [.ref h22, .ref h23, .ref h24, .ref h25, .ref h26, .ref h27, .ref h28, .ref h29, .int h5f8, .int h5f9, .int h5f10, .int h5f11]), (h9, ob 2 [.ref h1, .int h9f1]), (h12, aJ (k 1) 9 anJ), (h14, aJ (k 1) 36 anJ), (h22, aJ (k 1) 900 anJ), (h23, aI (k 0) 100 anI), (h24, aI (k 0) 100 anI), (h25, aI (k 0) 100 anI), (h26, aI (k 0) 400 anI), (h27, aI (k 0) 256 (rgI (-1) 99)), (h28, aI (k 0) 100 (rgI (-1) 99)), (h29, aJ (k 1) 60 anJ)] s.heap := hT
  refine lv_aload_n hx hb dX10_element_0 rfl (lv_at hl 0 rfl) ?_
  refine tcV (Tc := [(h0, ob 7 [.ref h1, .ref h2, .int h0f2, .ref h3, .ref h4, .ref h5, .int h0f6, .ref h6, .int h0f8, .ref h7, .ref h8, .int h0f11, .ref h9, .ref h10, .ref h11, .ref h12, .ref h13]), (h1, ob 4 [.int h1f0, .int h1f1, .int h1f2, .ref h14]), (h5, ob 3 [.ref h22, .ref h23, .ref h24, .ref h25, .ref h26, .ref h27, .ref h28, .ref h29, .int h5f8, .int h5f9, .int h5f10, .int h5f11]), (h9, ob 2 [.ref h1, .int h9f1]), (h12, aJ (k 1) 9 anJ), (h14, aJ (k 1) 36 anJ), (h22, aJ (k 1) 900 anJ), (h23, aI (k 0) 100 anI), (h24, aI (k 0) 100 anI), (h25, aI (k 0) 100 anI), (h26, aI (k 0) 400 anI), (h27, aI (k 0) 256 (rgI (-1) 99)), (h28, aI (k 0) 100 (rgI (-1) 99)), (h29, aJ (k 1) 60 anJ)]) (Tr := []) (as := [h0, h1, h5, h9, h12, h14, h22, h23, h24, h25, h26, h27, h28, h29]) (zcV (q0 := 0) (ci := 7) (As := []) (rest := []) (Tc := [(h0, ob 7 [.ref h1, .ref h2, .int h0f2, .ref h3, .ref h4, .ref h5, .int h0f6, .ref h6, .int h0f8, .ref h7, .ref h8, .int h0f11, .ref h9, .ref h10, .ref h11, .ref h12, .ref h13]), (h1, ob 4 [.int h1f0, .int h1f1, .int h1f2, .ref h14]), (h5, ob 3 [.ref h22, .ref h23, .ref h24, .ref h25, .ref h26, .ref h27, .ref h28, .ref h29, .int h5f8, .int h5f9, .int h5f10, .int h5f11]), (h9, ob 2 [.ref h1, .int h9f1]), (h12, aJ (k 1) 9 anJ), (h14, aJ (k 1) 36 anJ), (h22, aJ (k 1) 900 anJ), (h23, aI (k 0) 100 anI), (h24, aI (k 0) 100 anI), (h25, aI (k 0) 100 anI), (h26, aI (k 0) 400 anI), (h27, aI (k 0) 256 (rgI (-1) 99)), (h28, aI (k 0) 100 (rgI (-1) 99)), (h29, aJ (k 1) 60 anJ)]) hx hb hml hown hU hK hT rfl rfl [0, 1, 2, 3, 4, 5, 6, 7, 8, 9, 10, 11, 12, 13] rfl (by decide) (cX10_listAll_d24ec l D k _ h0 h1 h5 h9 h12 h14 h22 h23 h24 h25 h26 h27 h28 h29 h2 h3 h4 h6 h7 h8 h10 h11 h13 h0f2 h0f6 h0f8 h0f11 h1f0 h1f1 h1f2 h5f8 h5f9 h5f10 h5f11 h9f1 (by omega) (by omega) (by omega) (by omega) (by omega) (by omega) (by omega) (by omega) (by omega) (by omega) (by omega)) w492 w489 w491 w10 w63 hdX10_listAll ⟨rfl, rfl⟩ ⟨Nat.le_of_ble_eq_true rfl, Nat.le_of_ble_eq_true rfl⟩ rfl hl.1 (Nat.le_of_ble_eq_true rfl) dX10_element_1 ⟨Nat.le_of_ble_eq_true rfl, Nat.le_of_ble_eq_true rfl⟩) hT hS hA [0, 1, 2, 3, 4, 5, 6, 7, 8, 9, 10, 11, 12, 13] [] rfl rfl rfl (by decide) (by decide) (fun H locs hB J hS => ?_)
  obtain ⟨v2, v3, v4, v5, v6, v7, b_v2, b_v3, b_v4, b_v5, b_v6, b_v7, hT1⟩ := hB
  have hT := J _ hT1
  have hT : TP D A [(h0, ob 7 [.ref h1, .ref h2, .int h0f2, .ref h3, .ref h4, .ref h5, .int v2, .ref h6, .int h0f8, .ref h7, .ref h8, .int h0f11, .ref h9, .ref h10, .ref h11, .ref h12, .ref h13]), (h1, ob 4 [.int h1f0, .int h1f1, .int h1f2, .ref h14]), (h5, ob 3 [.ref h22, .ref h23, .ref h24, .ref h25, .ref h26, .ref h27, .ref h28, .ref h29, .int v3, .int v4, .int v5, .int v6]), (h9, ob 2 [.ref h1, .int v7]), (h12, aJ (k 1) 9 anJ), (h14, aJ (k 1) 36 anJ), (h22, aJ (k 1) 900 anJ), (h23, aI (k 0) 100 anI), (h24, aI (k 0) 100 anI), (h25, aI (k 0) 100 anI), (h26, aI (k 0) 400 anI), (h27, aI (k 0) 256 (rgI (-1) 99)), (h28, aI (k 0) 100 (rgI (-1) 99)), (h29, aJ (k 1) 60 anJ)] _ := hT
  refine lv_aload_n hx hb dX10_element_4 rfl (lv_at hl 0 rfl) ?_
  refine tz_get (ci := 7) (v := .ref h5) (C := RX10) (F := TX10) (N := 17) hx hb hU iX10 hown hK hT 0 rfl rfl 5 (by decide) w254 (fun _ h9 => h9) rfl dX10_element_5 ?_
  refine lv_iload_n hx hb dX10_element_8 rfl (lv_at hl 1 rfl) ?_
  refine tcI (Tc := [(h5, ob 3 [.ref h22, .ref h23, .ref h24, .ref h25, .ref h26, .ref h27, .ref h28, .ref h29, .int v3, .int v4, .int v5, .int v6])]) (Tr := [(h0, ob 7 [.ref h1, .ref h2, .int h0f2, .ref h3, .ref h4, .ref h5, .int v2, .ref h6, .int h0f8, .ref h7, .ref h8, .int h0f11, .ref h9, .ref h10, .ref h11, .ref h12, .ref h13]), (h1, ob 4 [.int h1f0, .int h1f1, .int h1f2, .ref h14]), (h9, ob 2 [.ref h1, .int v7]), (h12, aJ (k 1) 9 anJ), (h14, aJ (k 1) 36 anJ), (h22, aJ (k 1) 900 anJ), (h23, aI (k 0) 100 anI), (h24, aI (k 0) 100 anI), (h25, aI (k 0) 100 anI), (h26, aI (k 0) 400 anI), (h27, aI (k 0) 256 (rgI (-1) 99)), (h28, aI (k 0) 100 (rgI (-1) 99)), (h29, aJ (k 1) 60 anJ)]) (as := [h5]) (zcV (q0 := 2) (ci := 3) (As := [.int x1]) (rest := []) (Tc := [(h5, ob 3 [.ref h22, .ref h23, .ref h24, .ref h25, .ref h26, .ref h27, .ref h28, .ref h29, .int v3, .int v4, .int v5, .int v6])]) hx hb hml hown hU hK hT rfl rfl [2] rfl (by decide) (cX4_has_a7dbf l D k _ h5 h22 h23 h24 h25 h26 h27 h28 h29 x1 v3 v4 v5 v6 (by omega) (by omega) (by omega) (by omega)) w510 w569 w508 w509 w66 hdX4_has ⟨rfl, rfl⟩ ⟨Nat.le_of_ble_eq_true rfl, Nat.le_of_ble_eq_true rfl⟩ rfl hl.1 (Nat.le_of_ble_eq_true rfl) dX10_element_9 ⟨Nat.le_of_ble_eq_true rfl, Nat.le_of_ble_eq_true rfl⟩) hT hS hA [2] [0, 1, 3, 4, 5, 6, 7, 8, 9, 10, 11, 12, 13] rfl rfl rfl (by decide) (by decide) (fun r8 H locs hB J hS => ?_)
  rcases hB with ⟨rfl, hT1⟩ | ⟨c_9, c_10, rfl, hT1⟩
  · skip
    have hT := J _ hT1
    have hT : TP D A [(h0, ob 7 [.ref h1, .ref h2, .int h0f2, .ref h3, .ref h4, .ref h5, .int v2, .ref h6, .int h0f8, .ref h7, .ref h8, .int h0f11, .ref h9, .ref h10, .ref h11, .ref h12, .ref h13]), (h1, ob 4 [.int h1f0, .int h1f1, .int h1f2, .ref h14]), (h9, ob 2 [.ref h1, .int v7]), (h12, aJ (k 1) 9 anJ), (h14, aJ (k 1) 36 anJ), (h22, aJ (k 1) 900 anJ), (h23, aI (k 0) 100 anI), (h24, aI (k 0) 100 anI), (h25, aI (k 0) 100 anI), (h26, aI (k 0) 400 anI), (h27, aI (k 0) 256 (rgI (-1) 99)), (h28, aI (k 0) 100 (rgI (-1) 99)), (h29, aJ (k 1) 60 anJ), (h5, ob 3 [.ref h22, .ref h23, .ref h24, .ref h25, .ref h26, .ref h27, .ref h28, .ref h29, .int v3, .int v4, .int v5, .int v6])] _ := hT
    refine lv_if_eq (tgt := 27) hx hb dX10_element_12 (by decide) (fun _ => ?_) (fun cc => absurd (by decide +kernel) cc)
    refine lv_iconst (v := (-1)) hx hb dX10_element_27 (by decide) ?_
    have q_q12 := li_m1
    refine tcL (Tc := []) (Tr := [(h0, ob 7 [.ref h1, .ref h2, .int h0f2, .ref h3, .ref h4, .ref h5, .int v2, .ref h6, .int h0f8, .ref h7, .ref h8, .int h0f11, .ref h9, .ref h10, .ref h11, .ref h12, .ref h13]), (h1, ob 4 [.int h1f0, .int h1f1, .int h1f2, .ref h14]), (h9, ob 2 [.ref h1, .int v7]), (h12, aJ (k 1) 9 anJ), (h14, aJ (k 1) 36 anJ), (h22, aJ (k 1) 900 anJ), (h23, aI (k 0) 100 anI), (h24, aI (k 0) 100 anI), (h25, aI (k 0) 100 anI), (h26, aI (k 0) 400 anI), (h27, aI (k 0) 256 (rgI (-1) 99)), (h28, aI (k 0) 100 (rgI (-1) 99)), (h29, aJ (k 1) 60 anJ), (h5, ob 3 [.ref h22, .ref h23, .ref h24, .ref h25, .ref h26, .ref h27, .ref h28, .ref h29, .int v3, .int v4, .int v5, .int v6])]) (as := []) (zcS (As := [.int (-1)]) (rest := []) (Tc := []) hx hb hml hown hU hK hT [] rfl (by decide) (cX10_asLong_5cc16 l D k _ ((-1)) (by have := li_m1; omega)) w572 w570 w571 w63 hdX10_asLong ⟨rfl, rfl⟩ ⟨Nat.le_of_ble_eq_true rfl, Nat.le_of_ble_eq_true rfl⟩ rfl hl.1 (Nat.le_of_ble_eq_true rfl) dX10_element_28 ⟨Nat.le_of_ble_eq_true rfl, Nat.le_of_ble_eq_true rfl⟩) hT hS hA [] [0, 1, 2, 3, 4, 5, 6, 7, 8, 9, 10, 11, 12, 13] rfl rfl rfl (by decide) (by decide) (fun r11 H locs hB J hS => ?_)
    obtain ⟨b_r11, hT1⟩ := hB
    have hT := J _ hT1
    have hT : TP D A [(h0, ob 7 [.ref h1, .ref h2, .int h0f2, .ref h3, .ref h4, .ref h5, .int v2, .ref h6, .int h0f8, .ref h7, .ref h8, .int h0f11, .ref h9, .ref h10, .ref h11, .ref h12, .ref h13]), (h1, ob 4 [.int h1f0, .int h1f1, .int h1f2, .ref h14]), (h9, ob 2 [.ref h1, .int v7]), (h12, aJ (k 1) 9 anJ), (h14, aJ (k 1) 36 anJ), (h22, aJ (k 1) 900 anJ), (h23, aI (k 0) 100 anI), (h24, aI (k 0) 100 anI), (h25, aI (k 0) 100 anI), (h26, aI (k 0) 400 anI), (h27, aI (k 0) 256 (rgI (-1) 99)), (h28, aI (k 0) 100 (rgI (-1) 99)), (h29, aJ (k 1) 60 anJ), (h5, ob 3 [.ref h22, .ref h23, .ref h24, .ref h25, .ref h26, .ref h27, .ref h28, .ref h29, .int v3, .int v4, .int v5, .int v6])] _ := hT
    exact tz_retL (B := B_cX10_element_547b3 D k h0 h1 h5 h9 h12 h14 h22 h23 h24 h25 h26 h27 h28 h29 h2 h3 h4 h6 h7 h8 h10 h11 h13 x1 x2 x3 h0f2 h0f6 h0f8 h0f11 h1f0 h1f1 h1f2 h5f8 h5f9 h5f10 h5f11 h9f1) (v := r11) hQ hx hb hr hlocks hS (Nat.le_of_ble_eq_true rfl) (Nat.le_of_ble_eq_true rfl) dX10_element_31 (⟨v2, v3, v4, v5, v6, v7, (by omega), (by omega), (by omega), (by omega), (by omega), (by omega), (hT.sub [0, 1, 13, 2, 3, 4, 5, 6, 7, 8, 9, 10, 11, 12] (by decide) rfl)⟩)
  · skip
    have hT := J _ hT1
    have hT : TP D A [(h0, ob 7 [.ref h1, .ref h2, .int h0f2, .ref h3, .ref h4, .ref h5, .int v2, .ref h6, .int h0f8, .ref h7, .ref h8, .int h0f11, .ref h9, .ref h10, .ref h11, .ref h12, .ref h13]), (h1, ob 4 [.int h1f0, .int h1f1, .int h1f2, .ref h14]), (h9, ob 2 [.ref h1, .int v7]), (h12, aJ (k 1) 9 anJ), (h14, aJ (k 1) 36 anJ), (h22, aJ (k 1) 900 anJ), (h23, aI (k 0) 100 anI), (h24, aI (k 0) 100 anI), (h25, aI (k 0) 100 anI), (h26, aI (k 0) 400 anI), (h27, aI (k 0) 256 (rgI (-1) 99)), (h28, aI (k 0) 100 (rgI (-1) 99)), (h29, aJ (k 1) 60 anJ), (h5, ob 3 [.ref h22, .ref h23, .ref h24, .ref h25, .ref h26, .ref h27, .ref h28, .ref h29, .int v3, .int v4, .int v5, .int v6])] _ := hT
    refine lv_if_eq (tgt := 27) hx hb dX10_element_12 (by decide) (fun cc => absurd cc (by decide +kernel)) (fun _ => ?_)
    refine lv_aload_n hx hb dX10_element_15 rfl (lv_at hl 0 rfl) ?_
    refine tz_get (ci := 7) (v := .ref h1) (C := RX10) (F := TX10) (N := 17) hx hb hU iX10 hown hK hT 0 rfl rfl 0 (by decide) w249 (fun _ h9 => h9) rfl dX10_element_16 ?_
    refine lv_iload_n hx hb dX10_element_19 rfl (lv_at hl 2 rfl) ?_
    refine lv_iload_n hx hb dX10_element_20 rfl (lv_at hl 3 rfl) ?_
    refine tcI (Tc := [(h1, ob 4 [.int h1f0, .int h1f1, .int h1f2, .ref h14])]) (Tr := [(h0, ob 7 [.ref h1, .ref h2, .int h0f2, .ref h3, .ref h4, .ref h5, .int v2, .ref h6, .int h0f8, .ref h7, .ref h8, .int h0f11, .ref h9, .ref h10, .ref h11, .ref h12, .ref h13]), (h9, ob 2 [.ref h1, .int v7]), (h12, aJ (k 1) 9 anJ), (h14, aJ (k 1) 36 anJ), (h22, aJ (k 1) 900 anJ), (h23, aI (k 0) 100 anI), (h24, aI (k 0) 100 anI), (h25, aI (k 0) 100 anI), (h26, aI (k 0) 400 anI), (h27, aI (k 0) 256 (rgI (-1) 99)), (h28, aI (k 0) 100 (rgI (-1) 99)), (h29, aJ (k 1) 60 anJ), (h5, ob 3 [.ref h22, .ref h23, .ref h24, .ref h25, .ref h26, .ref h27, .ref h28, .ref h29, .int v3, .int v4, .int v5, .int v6])]) (as := [h1]) (zcV (q0 := 1) (ci := 4) (As := [.int x2, .int x3]) (rest := []) (Tc := [(h1, ob 4 [.int h1f0, .int h1f1, .int h1f2, .ref h14])]) hx hb hml hown hU hK hT rfl rfl [1] rfl (by decide) (cX5_isPlace_ce953 l D k _ h1 h14 x2 x3 h1f0 h1f1 h1f2 (by omega) (by omega)) w319 w316 w317 w318 w64 hdX5_isPlace ⟨rfl, rfl⟩ ⟨Nat.le_of_ble_eq_true rfl, Nat.le_of_ble_eq_true rfl⟩ rfl hl.1 (Nat.le_of_ble_eq_true rfl) dX10_element_21 ⟨Nat.le_of_ble_eq_true rfl, Nat.le_of_ble_eq_true rfl⟩) hT hS hA [1] [0, 2, 3, 4, 5, 6, 7, 8, 9, 10, 11, 12, 13] rfl rfl rfl (by decide) (by decide) (fun r13 H locs hB J hS => ?_)
    rcases hB with ⟨rfl, hT1⟩ | ⟨c_14, c_15, c_16, c_17, rfl, hT1⟩
    · skip
      have hT := J _ hT1
      have hT : TP D A [(h0, ob 7 [.ref h1, .ref h2, .int h0f2, .ref h3, .ref h4, .ref h5, .int v2, .ref h6, .int h0f8, .ref h7, .ref h8, .int h0f11, .ref h9, .ref h10, .ref h11, .ref h12, .ref h13]), (h9, ob 2 [.ref h1, .int v7]), (h12, aJ (k 1) 9 anJ), (h14, aJ (k 1) 36 anJ), (h22, aJ (k 1) 900 anJ), (h23, aI (k 0) 100 anI), (h24, aI (k 0) 100 anI), (h25, aI (k 0) 100 anI), (h26, aI (k 0) 400 anI), (h27, aI (k 0) 256 (rgI (-1) 99)), (h28, aI (k 0) 100 (rgI (-1) 99)), (h29, aJ (k 1) 60 anJ), (h5, ob 3 [.ref h22, .ref h23, .ref h24, .ref h25, .ref h26, .ref h27, .ref h28, .ref h29, .int v3, .int v4, .int v5, .int v6]), (h1, ob 4 [.int h1f0, .int h1f1, .int h1f2, .ref h14])] _ := hT
      refine lv_if_ne (tgt := 32) hx hb dX10_element_24 (by decide) (fun cc => absurd (by decide +kernel) cc) (fun _ => ?_)
      refine lv_iconst (v := (-1)) hx hb dX10_element_27 (by decide) ?_
      have q_q19 := li_m1
      refine tcL (Tc := []) (Tr := [(h0, ob 7 [.ref h1, .ref h2, .int h0f2, .ref h3, .ref h4, .ref h5, .int v2, .ref h6, .int h0f8, .ref h7, .ref h8, .int h0f11, .ref h9, .ref h10, .ref h11, .ref h12, .ref h13]), (h9, ob 2 [.ref h1, .int v7]), (h12, aJ (k 1) 9 anJ), (h14, aJ (k 1) 36 anJ), (h22, aJ (k 1) 900 anJ), (h23, aI (k 0) 100 anI), (h24, aI (k 0) 100 anI), (h25, aI (k 0) 100 anI), (h26, aI (k 0) 400 anI), (h27, aI (k 0) 256 (rgI (-1) 99)), (h28, aI (k 0) 100 (rgI (-1) 99)), (h29, aJ (k 1) 60 anJ), (h5, ob 3 [.ref h22, .ref h23, .ref h24, .ref h25, .ref h26, .ref h27, .ref h28, .ref h29, .int v3, .int v4, .int v5, .int v6]), (h1, ob 4 [.int h1f0, .int h1f1, .int h1f2, .ref h14])]) (as := []) (zcS (As := [.int (-1)]) (rest := []) (Tc := []) hx hb hml hown hU hK hT [] rfl (by decide) (cX10_asLong_5cc16 l D k _ ((-1)) (by have := li_m1; omega)) w572 w570 w571 w63 hdX10_asLong ⟨rfl, rfl⟩ ⟨Nat.le_of_ble_eq_true rfl, Nat.le_of_ble_eq_true rfl⟩ rfl hl.1 (Nat.le_of_ble_eq_true rfl) dX10_element_28 ⟨Nat.le_of_ble_eq_true rfl, Nat.le_of_ble_eq_true rfl⟩) hT hS hA [] [0, 1, 2, 3, 4, 5, 6, 7, 8, 9, 10, 11, 12, 13] rfl rfl rfl (by decide) (by decide) (fun r18 H locs hB J hS => ?_)
      obtain ⟨b_r18, hT1⟩ := hB
      have hT := J _ hT1
      have hT : TP D A [(h0, ob 7 [.ref h1, .ref h2, .int h0f2, .ref h3, .ref h4, .ref h5, .int v2, .ref h6, .int h0f8, .ref h7, .ref h8, .int h0f11, .ref h9, .ref h10, .ref h11, .ref h12, .ref h13]), (h9, ob 2 [.ref h1, .int v7]), (h12, aJ (k 1) 9 anJ), (h14, aJ (k 1) 36 anJ), (h22, aJ (k 1) 900 anJ), (h23, aI (k 0) 100 anI), (h24, aI (k 0) 100 anI), (h25, aI (k 0) 100 anI), (h26, aI (k 0) 400 anI), (h27, aI (k 0) 256 (rgI (-1) 99)), (h28, aI (k 0) 100 (rgI (-1) 99)), (h29, aJ (k 1) 60 anJ), (h5, ob 3 [.ref h22, .ref h23, .ref h24, .ref h25, .ref h26, .ref h27, .ref h28, .ref h29, .int v3, .int v4, .int v5, .int v6]), (h1, ob 4 [.int h1f0, .int h1f1, .int h1f2, .ref h14])] _ := hT
      exact tz_retL (B := B_cX10_element_547b3 D k h0 h1 h5 h9 h12 h14 h22 h23 h24 h25 h26 h27 h28 h29 h2 h3 h4 h6 h7 h8 h10 h11 h13 x1 x2 x3 h0f2 h0f6 h0f8 h0f11 h1f0 h1f1 h1f2 h5f8 h5f9 h5f10 h5f11 h9f1) (v := r18) hQ hx hb hr hlocks hS (Nat.le_of_ble_eq_true rfl) (Nat.le_of_ble_eq_true rfl) dX10_element_31 (⟨v2, v3, v4, v5, v6, v7, (by omega), (by omega), (by omega), (by omega), (by omega), (by omega), (hT.sub [0, 13, 12, 1, 2, 3, 4, 5, 6, 7, 8, 9, 10, 11] (by decide) rfl)⟩)
    · skip
      have hT := J _ hT1
      have hT : TP D A [(h0, ob 7 [.ref h1, .ref h2, .int h0f2, .ref h3, .ref h4, .ref h5, .int v2, .ref h6, .int h0f8, .ref h7, .ref h8, .int h0f11, .ref h9, .ref h10, .ref h11, .ref h12, .ref h13]), (h9, ob 2 [.ref h1, .int v7]), (h12, aJ (k 1) 9 anJ), (h14, aJ (k 1) 36 anJ), (h22, aJ (k 1) 900 anJ), (h23, aI (k 0) 100 anI), (h24, aI (k 0) 100 anI), (h25, aI (k 0) 100 anI), (h26, aI (k 0) 400 anI), (h27, aI (k 0) 256 (rgI (-1) 99)), (h28, aI (k 0) 100 (rgI (-1) 99)), (h29, aJ (k 1) 60 anJ), (h5, ob 3 [.ref h22, .ref h23, .ref h24, .ref h25, .ref h26, .ref h27, .ref h28, .ref h29, .int v3, .int v4, .int v5, .int v6]), (h1, ob 4 [.int h1f0, .int h1f1, .int h1f2, .ref h14])] _ := hT
      refine lv_if_ne (tgt := 32) hx hb dX10_element_24 (by decide) (fun _ => ?_) (fun cc => absurd cc (by decide +kernel))
      refine lv_aload_n hx hb dX10_element_32 rfl (lv_at hl 0 rfl) ?_
      refine tz_get (ci := 7) (v := .ref h5) (C := RX10) (F := TX10) (N := 17) hx hb hU iX10 hown hK hT 0 rfl rfl 5 (by decide) w254 (fun _ h9 => h9) rfl dX10_element_33 ?_
      refine tz_get (ci := 3) (v := .ref h22) (C := RX4) (F := TX4) (N := 12) hx hb hU iX4 hown hK hT 12 rfl rfl 0 (by decide) w150 (fun _ h9 => h9) rfl dX10_element_36 ?_
      refine lv_aload_n hx hb dX10_element_39 rfl (lv_at hl 0 rfl) ?_
      refine tz_get (ci := 7) (v := .ref h5) (C := RX10) (F := TX10) (N := 17) hx hb hU iX10 hown hK hT 0 rfl rfl 5 (by decide) w254 (fun _ h9 => h9) rfl dX10_element_40 ?_
      refine lv_iload_n hx hb dX10_element_43 rfl (lv_at hl 1 rfl) ?_
      refine tcI (Tc := [(h5, ob 3 [.ref h22, .ref h23, .ref h24, .ref h25, .ref h26, .ref h27, .ref h28, .ref h29, .int v3, .int v4, .int v5, .int v6])]) (Tr := [(h0, ob 7 [.ref h1, .ref h2, .int h0f2, .ref h3, .ref h4, .ref h5, .int v2, .ref h6, .int h0f8, .ref h7, .ref h8, .int h0f11, .ref h9, .ref h10, .ref h11, .ref h12, .ref h13]), (h9, ob 2 [.ref h1, .int v7]), (h12, aJ (k 1) 9 anJ), (h14, aJ (k 1) 36 anJ), (h22, aJ (k 1) 900 anJ), (h23, aI (k 0) 100 anI), (h24, aI (k 0) 100 anI), (h25, aI (k 0) 100 anI), (h26, aI (k 0) 400 anI), (h27, aI (k 0) 256 (rgI (-1) 99)), (h28, aI (k 0) 100 (rgI (-1) 99)), (h29, aJ (k 1) 60 anJ), (h1, ob 4 [.int h1f0, .int h1f1, .int h1f2, .ref h14])]) (as := [h5]) (zcV (q0 := 12) (ci := 3) (As := [.int x1]) (rest := [.ref h22]) (Tc := [(h5, ob 3 [.ref h22, .ref h23, .ref h24, .ref h25, .ref h26, .ref h27, .ref h28, .ref h29, .int v3, .int v4, .int v5, .int v6])]) hx hb hml hown hU hK hT rfl rfl [12] rfl (by decide) (cX4_start_d01b0 l D k _ h5 h22 h23 h24 h25 h26 h27 h28 h29 x1 v3 v4 v5 v6 (by omega) (by omega) (by omega) (by omega) (by omega)) w505 w574 w503 w504 w66 hdX4_start ⟨rfl, rfl⟩ ⟨Nat.le_of_ble_eq_true rfl, Nat.le_of_ble_eq_true rfl⟩ rfl hl.1 (Nat.le_of_ble_eq_true rfl) dX10_element_44 ⟨Nat.le_of_ble_eq_true rfl, Nat.le_of_ble_eq_true rfl⟩) hT hS hA [12] [0, 1, 2, 3, 4, 5, 6, 7, 8, 9, 10, 11, 13] rfl rfl rfl (by decide) (by decide) (fun r20 H locs hB J hS => ?_)
      obtain ⟨b_r20, hT1⟩ := hB
      have hT := J _ hT1
      have hT : TP D A [(h0, ob 7 [.ref h1, .ref h2, .int h0f2, .ref h3, .ref h4, .ref h5, .int v2, .ref h6, .int h0f8, .ref h7, .ref h8, .int h0f11, .ref h9, .ref h10, .ref h11, .ref h12, .ref h13]), (h9, ob 2 [.ref h1, .int v7]), (h12, aJ (k 1) 9 anJ), (h14, aJ (k 1) 36 anJ), (h22, aJ (k 1) 900 anJ), (h23, aI (k 0) 100 anI), (h24, aI (k 0) 100 anI), (h25, aI (k 0) 100 anI), (h26, aI (k 0) 400 anI), (h27, aI (k 0) 256 (rgI (-1) 99)), (h28, aI (k 0) 100 (rgI (-1) 99)), (h29, aJ (k 1) 60 anJ), (h1, ob 4 [.int h1f0, .int h1f1, .int h1f2, .ref h14]), (h5, ob 3 [.ref h22, .ref h23, .ref h24, .ref h25, .ref h26, .ref h27, .ref h28, .ref h29, .int v3, .int v4, .int v5, .int v6])] _ := hT
      refine lv_iload_n hx hb dX10_element_47 rfl (lv_at hl 2 rfl) ?_
      refine lv_aload_n hx hb dX10_element_48 rfl (lv_at hl 0 rfl) ?_
      refine tz_get (ci := 7) (v := .ref h1) (C := RX10) (F := TX10) (N := 17) hx hb hU iX10 hown hK hT 0 rfl rfl 0 (by decide) w249 (fun _ h9 => h9) rfl dX10_element_49 ?_
      refine tz_get (ci := 4) (v := .int h1f0) (C := RX5) (F := TX5) (N := 4) hx hb hU iX5 hown hK hT 12 rfl rfl 0 (by decide) w93 (fun _ h9 => h9) rfl dX10_element_52 ?_
      refine lv_imul hx hb dX10_element_55 (lv_topi (fun v21 e_v21 => ?_))
      have e_v21 := ai_mm (la := 0) (ua := 2) (lb := 1) (ub := 3) e_v21 rfl rfl (by omega) (by decide)
      refine lv_iadd hx hb dX10_element_56 (lv_topi (fun v22 e_v22 => ?_))
      have e_v22 := ai_add e_v22 rfl rfl (by omega)
      refine lv_iload_n hx hb dX10_element_57 rfl (lv_at hl 3 rfl) ?_
      refine lv_iadd hx hb dX10_element_58 (lv_topi (fun v23 e_v23 => ?_))
      have e_v23 := ai_add e_v23 rfl rfl (by omega)
      refine tz_lald hx hb hK hT 4 rfl (by omega) dX10_element_59 (fun v24 e_v24 => ?_)
      clear e_v24
      exact tz_retL (B := B_cX10_element_547b3 D k h0 h1 h5 h9 h12 h14 h22 h23 h24 h25 h26 h27 h28 h29 h2 h3 h4 h6 h7 h8 h10 h11 h13 x1 x2 x3 h0f2 h0f6 h0f8 h0f11 h1f0 h1f1 h1f2 h5f8 h5f9 h5f10 h5f11 h9f1) (v := v24) hQ hx hb hr hlocks hS (Nat.le_of_ble_eq_true rfl) (Nat.le_of_ble_eq_true rfl) dX10_element_60 (⟨v2, v3, v4, v5, v6, v7, (by omega), (by omega), (by omega), (by omega), (by omega), (by omega), (hT.sub [0, 12, 13, 1, 2, 3, 4, 5, 6, 7, 8, 9, 10, 11] (by decide) rfl)⟩)
abbrev Rm_cX11_far_7dbca : Room := { frames := 0, cells := 0, slots := 0, locals := 0 }
abbrev B_cX11_far_7dbca (D : va_G) (k : Nat → ClassId) (x0 : Int32) (A : Nat → Prop) (r : Int64) (H : Heap) : Prop := ((-4000000000000000016) ≤ r.toInt ∧ r.toInt ≤ (-4000000000000000001)) ∧ TP D A [] H
set_option maxHeartbeats 4000000 in
set_option maxRecDepth 100000 in
theorem cX11_far_7dbca (l : Launch) (D : va_G) (k : Nat → ClassId) (sz : Nat) (x0 : Int32) (b_x0 : (-16) ≤ x0.toInt ∧ x0.toInt ≤ (-1)) : Met l yX11_far (Cond.code yX11_far cX11_far 1 (some .long) :: uw) Rm_cX11_far_7dbca (pT D k sz [.int x0] []) (qL (B_cX11_far_7dbca D k x0 (zA [] sz)) (zA [] sz)) 0 0 (zA [] sz) := by
  refine tz_begin (as := []) (Qc := fun A => qL (B_cX11_far_7dbca D k x0 A) A) (by decide +kernel) rfl (Nat.le_of_ble_eq_true rfl) ?_
  intro p e s m args below meth c ls A Q hx hb hr hml hown hlocks hin hU hK hT hS hA hl hQ
  have hl : lv_has ls 1 [(0, .int x0)] := hl
  have hT : TP D A [] s.heap := hT
  refine lv_ldc2 hx hb hown (hU _ w1063) dX11_far_0 ?_
  refine lv_iload_n hx hb dX11_far_3 rfl (lv_at hl 0 rfl) ?_
  obtain ⟨v1, e_v1⟩ : ∃ x : Int64, x0.toInt64 = x := ⟨_, rfl⟩
  refine lv_i2l (v := v1) hx hb dX11_far_4 e_v1 ?_
  have e_v1 := ai_i2l e_v1 rfl
  refine lv_ladd hx hb dX11_far_5 (lv_topl (fun v2 e_v2 => ?_))
  have e_v2 := al_add e_v2 ll_m4000000000000000000 rfl (by omega)
  exact tz_retL (B := B_cX11_far_7dbca D k x0) (v := v2) hQ hx hb hr hlocks hS (Nat.le_of_ble_eq_true rfl) (Nat.le_of_ble_eq_true rfl) dX11_far_6 (⟨(by omega), hT⟩)
abbrev Rm_cX11_element_2a0f1 : Room := { frames := 3, cells := 0, slots := 0, locals := 70 }
abbrev B_cX11_element_2a0f1 (D : va_G) (k : Nat → ClassId) (h0 h1 h4 h5 h6 h10 h11 h12 h13 h2 h3 h7 h8 h9 h14 h15 h16 h17 h18 h19 h20 h21 : Nat) (x1 : Int32) (x2 : Int32) (x3 : Int32) (h0f0 : Int32) (h0f1 : Int32) (h0f2 : Int32) (h0f3 : Int32) (h0f4 : Int32) (h0f5 : Int32) (h0f8 : Int32) (h0f9 : Int32) (h0f17 : Int32) (h0f18 : Int32) (h0f19 : Int32) (h0f24 : Int32) (h0f25 : Int32) (h0f30 : Int32) (h0f31 : Int32) (A : Nat → Prop) (r : Int64) (H : Heap) : Prop := ∃ o0 : Int32, ∃ o1 : Int32, ∃ o2 : Int32, (1 ≤ o0.toInt ∧ o0.toInt ≤ 1) ∧ (1 ≤ o1.toInt ∧ o1.toInt ≤ 100) ∧ (0 ≤ o2.toInt ∧ o2.toInt ≤ 1) ∧ TP D A [(h0, ob 8 [.int h0f0, .int h0f1, .int h0f2, .int h0f3, .int h0f4, .int h0f5, .ref h1, .ref h2, .int h0f8, .int o0, .ref h3, .ref h4, .ref h5, .ref h6, .ref h7, .ref h8, .ref h9, .int h0f17, .int h0f18, .int h0f19, .ref h10, .ref h11, .ref h12, .ref h13, .int o1, .int o2, .ref h14, .ref h15, .ref h16, .ref h17, .int h0f30, .int h0f31, .ref h18, .ref h19, .ref h20, .ref h21]), (h1, aI (k 0) 36 anI), (h4, aJ (k 1) 9 anJ), (h5, aJ (k 1) 9 anJ), (h6, aJ (k 1) 9 anJ), (h10, aJ (k 1) 900 (lsP (o0.toInt))), (h11, aI (k 0) 100 anI), (h12, aI (k 0) 100 anI), (h13, aI (k 0) 100 anI)] H
set_option maxHeartbeats 4000000 in
set_option maxRecDepth 100000 in
theorem cX11_element_2a0f1 (l : Launch) (D : va_G) (k : Nat → ClassId) (sz : Nat) (h0 h1 h4 h5 h6 h10 h11 h12 h13 h2 h3 h7 h8 h9 h14 h15 h16 h17 h18 h19 h20 h21 : Nat) (x1 : Int32) (x2 : Int32) (x3 : Int32) (h0f0 : Int32) (h0f1 : Int32) (h0f2 : Int32) (h0f3 : Int32) (h0f4 : Int32) (h0f5 : Int32) (h0f8 : Int32) (h0f9 : Int32) (h0f17 : Int32) (h0f18 : Int32) (h0f19 : Int32) (h0f24 : Int32) (h0f25 : Int32) (h0f30 : Int32) (h0f31 : Int32) (b_h0f0 : 1 ≤ h0f0.toInt ∧ h0f0.toInt ≤ 3) (b_h0f1 : 0 ≤ h0f1.toInt ∧ h0f1.toInt ≤ 4) (b_h0f3 : 0 ≤ h0f3.toInt ∧ h0f3.toInt ≤ 3) (b_h0f4 : 0 ≤ h0f4.toInt ∧ h0f4.toInt ≤ 4) (b_h0f8 : 0 ≤ h0f8.toInt ∧ h0f8.toInt ≤ 1) (b_h0f9 : 0 ≤ h0f9.toInt ∧ h0f9.toInt ≤ 1) (b_h0f17 : 0 ≤ h0f17.toInt ∧ h0f17.toInt ≤ 120) (b_h0f18 : 0 ≤ h0f18.toInt ∧ h0f18.toInt ≤ 120) (b_h0f19 : 0 ≤ h0f19.toInt ∧ h0f19.toInt ≤ 4) (b_h0f24 : 0 ≤ h0f24.toInt ∧ h0f24.toInt ≤ 100) (b_h0f25 : 0 ≤ h0f25.toInt ∧ h0f25.toInt ≤ 1) (b_h0f30 : 0 ≤ h0f30.toInt ∧ h0f30.toInt ≤ 60) (b_h0f31 : 0 ≤ h0f31.toInt ∧ h0f31.toInt ≤ 1) (i_0 : h0f8.toInt ≤ h0f3.toInt) (i_1 : h0f9.toInt ≤ h0f24.toInt) : Met l yX11_element (Cond.code yX11_element cX11_element 4 (some .long) :: uw) Rm_cX11_element_2a0f1 (pT D k sz [.ref h0, .int x1, .int x2, .int x3] [(h0, ob 8 [.int h0f0, .int h0f1, .int h0f2, .int h0f3, .int h0f4, .int h0f5, .ref h1, .ref h2, .int h0f8, .int h0f9, .ref h3, .ref h4, .ref h5, .ref h6, .ref h7, .ref h8, .ref h9, .int h0f17, .int h0f18, .int h0f19, .ref h10, .ref h11, .ref h12, .ref h13, .int h0f24, .int h0f25, .ref h14, .ref h15, .ref h16, .ref h17, .int h0f30, .int h0f31, .ref h18, .ref h19, .ref h20, .ref h21]), (h1, aI (k 0) 36 anI), (h4, aJ (k 1) 9 anJ), (h5, aJ (k 1) 9 anJ), (h6, aJ (k 1) 9 anJ), (h10, aJ (k 1) 900 (lsP (h0f9.toInt))), (h11, aI (k 0) 100 anI), (h12, aI (k 0) 100 anI), (h13, aI (k 0) 100 anI)]) (qL (B_cX11_element_2a0f1 D k h0 h1 h4 h5 h6 h10 h11 h12 h13 h2 h3 h7 h8 h9 h14 h15 h16 h17 h18 h19 h20 h21 x1 x2 x3 h0f0 h0f1 h0f2 h0f3 h0f4 h0f5 h0f8 h0f9 h0f17 h0f18 h0f19 h0f24 h0f25 h0f30 h0f31 (zA [h0, h1, h4, h5, h6, h10, h11, h12, h13] sz)) (zA [h0, h1, h4, h5, h6, h10, h11, h12, h13] sz)) 0 0 (zA [h0, h1, h4, h5, h6, h10, h11, h12, h13] sz) := by
  refine tz_begin (as := [h0, h1, h4, h5, h6, h10, h11, h12, h13]) (Qc := fun A => qL (B_cX11_element_2a0f1 D k h0 h1 h4 h5 h6 h10 h11 h12 h13 h2 h3 h7 h8 h9 h14 h15 h16 h17 h18 h19 h20 h21 x1 x2 x3 h0f0 h0f1 h0f2 h0f3 h0f4 h0f5 h0f8 h0f9 h0f17 h0f18 h0f19 h0f24 h0f25 h0f30 h0f31 A) A) (by decide +kernel) rfl (Nat.le_of_ble_eq_true rfl) ?_
  intro p e s m args below meth c ls A Q hx hb hr hml hown hlocks hin hU hK hT hS hA hl hQ
  have hl : lv_has ls 4 [(0, .ref h0), (1, .int x1), (2, .int x2), (3, .int x3)] := hl
  have hT : TP D A [(h0, ob 8 [.int h0f0, .int h0f1, .int h0f2, .int h0f3, .int h0f4, .int h0f5, .ref h1, .ref h2, .int h0f8, .int h0f9, .ref h3, .ref h4, .ref h5, .ref h6, .ref h7, .ref h8, .ref h9, .int h0f17, .int h0f18, .int h0f19, .ref h10, .ref h11, .ref h12, .ref h13, .int h0f24, .int h0f25, .ref h14, .ref h15, .ref h16, .ref h17, .int h0f30, .int h0f31, .ref h18, .ref h19, .ref h20, .ref h21]), (h1, aI (k 0) 36 anI), (h4, aJ (k 1) 9 anJ), (h5, aJ (k 1) 9 anJ), (h6, aJ (k 1) 9 anJ), (h10, aJ (k 1) 900 (lsP (h0f9.toInt))), (h11, aI (k 0) 100 anI), (h12, aI (k 0) 100 anI), (h13, aI (k 0) 100 anI)] s.heap := hT
  refine lv_aload_n hx hb dX11_element_0 rfl (lv_at hl 0 rfl) ?_
  refine tcV (Tc := [(h0, ob 8 [.int h0f0, .int h0f1, .int h0f2, .int h0f3, .int h0f4, .int h0f5, .ref h1, .ref h2, .int h0f8, .int h0f9, .ref h3, .ref h4, .ref h5, .ref h6, .ref h7, .ref h8, .ref h9, .int h0f17, .int h0f18, .int h0f19, .ref h10, .ref h11, .ref h12, .ref h13, .int h0f24, .int h0f25, .ref h14, .ref h15, .ref h16, .ref h17, .int h0f30, .int h0f31, .ref h18, .ref h19, .ref h20, .ref h21]), (h1, aI (k 0) 36 anI), (h4, aJ (k 1) 9 anJ), (h5, aJ (k 1) 9 anJ), (h6, aJ (k 1) 9 anJ), (h10, aJ (k 1) 900 (lsP (h0f9.toInt))), (h11, aI (k 0) 100 anI), (h12, aI (k 0) 100 anI), (h13, aI (k 0) 100 anI)]) (Tr := []) (as := [h0, h1, h4, h5, h6, h10, h11, h12, h13]) (zcV (q0 := 0) (ci := 8) (As := []) (rest := []) (Tc := [(h0, ob 8 [.int h0f0, .int h0f1, .int h0f2, .int h0f3, .int h0f4, .int h0f5, .ref h1, .ref h2, .int h0f8, .int h0f9, .ref h3, .ref h4, .ref h5, .ref h6, .ref h7, .ref h8, .ref h9, .int h0f17, .int h0f18, .int h0f19, .ref h10, .ref h11, .ref h12, .ref h13, .int h0f24, .int h0f25, .ref h14, .ref h15, .ref h16, .ref h17, .int h0f30, .int h0f31, .ref h18, .ref h19, .ref h20, .ref h21]), (h1, aI (k 0) 36 anI), (h4, aJ (k 1) 9 anJ), (h5, aJ (k 1) 9 anJ), (h6, aJ (k 1) 9 anJ), (h10, aJ (k 1) 900 (lsP (h0f9.toInt))), (h11, aI (k 0) 100 anI), (h12, aI (k 0) 100 anI), (h13, aI (k 0) 100 anI)]) hx hb hml hown hU hK hT rfl rfl [0, 1, 2, 3, 4, 5, 6, 7, 8] rfl (by decide) (cX11_findList_9a1c7 l D k _ h0 h1 h4 h5 h6 h10 h11 h12 h13 h2 h3 h7 h8 h9 h14 h15 h16 h17 h18 h19 h20 h21 h0f0 h0f1 h0f2 h0f3 h0f4 h0f5 h0f8 h0f9 h0f17 h0f18 h0f19 h0f24 h0f25 h0f30 h0f31 (by omega) (by omega) (by omega) (by omega) (by omega) (by omega) (by omega) (by omega) (by omega) (by omega) (by omega) (by omega) (by omega) (by omega) (by omega)) w1039 w1036 w1038 w47 w72 hdX11_findList ⟨rfl, rfl⟩ ⟨Nat.le_of_ble_eq_true rfl, Nat.le_of_ble_eq_true rfl⟩ rfl hl.1 (Nat.le_of_ble_eq_true rfl) dX11_element_1 ⟨Nat.le_of_ble_eq_true rfl, Nat.le_of_ble_eq_true rfl⟩) hT hS hA [0, 1, 2, 3, 4, 5, 6, 7, 8] [] rfl rfl rfl (by decide) (by decide) (fun H locs hB J hS => ?_)
  obtain ⟨v2, v3, v4, b_v2, b_v3, b_v4, hT1⟩ := hB
  have hT := J _ hT1
  have hT : TP D A [(h0, ob 8 [.int h0f0, .int h0f1, .int h0f2, .int h0f3, .int h0f4, .int h0f5, .ref h1, .ref h2, .int h0f8, .int v2, .ref h3, .ref h4, .ref h5, .ref h6, .ref h7, .ref h8, .ref h9, .int h0f17, .int h0f18, .int h0f19, .ref h10, .ref h11, .ref h12, .ref h13, .int v3, .int v4, .ref h14, .ref h15, .ref h16, .ref h17, .int h0f30, .int h0f31, .ref h18, .ref h19, .ref h20, .ref h21]), (h1, aI (k 0) 36 anI), (h4, aJ (k 1) 9 anJ), (h5, aJ (k 1) 9 anJ), (h6, aJ (k 1) 9 anJ), (h10, aJ (k 1) 900 (lsP (v2.toInt))), (h11, aI (k 0) 100 anI), (h12, aI (k 0) 100 anI), (h13, aI (k 0) 100 anI)] _ := hT
  refine lv_iload_n hx hb dX11_element_4 rfl (lv_at hl 1 rfl) ?_
  have tb_x1 := i32b x1
  obtain ⟨v5, e_v5⟩ : ∃ x : Int64, x1.toInt64 = x := ⟨_, rfl⟩
  refine lv_i2l (v := v5) hx hb dX11_element_5 e_v5 ?_
  have e_v5 := ai_i2l e_v5 rfl
  refine lv_lconst (v := 0) hx hb dX11_element_6 (by decide) ?_
  refine lv_aload_n hx hb dX11_element_7 rfl (lv_at hl 0 rfl) ?_
  refine tz_get (ci := 8) (v := .int v3) (C := RX11) (F := TX11) (N := 36) hx hb hU iX11 hown hK hT 0 rfl rfl 24 (by decide) w809 (fun _ h9 => h9) rfl dX11_element_8 ?_
  refine lv_iconst (v := 1) hx hb dX11_element_11 (by decide) ?_
  refine lv_isub hx hb dX11_element_12 (lv_topi (fun v6 e_v6 => ?_))
  have e_v6 := ai_sub e_v6 rfl li_1 (by omega)
  obtain ⟨v7, e_v7⟩ : ∃ x : Int64, v6.toInt64 = x := ⟨_, rfl⟩
  refine lv_i2l (v := v7) hx hb dX11_element_13 e_v7 ?_
  have e_v7 := ai_i2l e_v7 rfl
  have q_q9 := ll_0
  refine tcI (Tc := []) (Tr := [(h0, ob 8 [.int h0f0, .int h0f1, .int h0f2, .int h0f3, .int h0f4, .int h0f5, .ref h1, .ref h2, .int h0f8, .int v2, .ref h3, .ref h4, .ref h5, .ref h6, .ref h7, .ref h8, .ref h9, .int h0f17, .int h0f18, .int h0f19, .ref h10, .ref h11, .ref h12, .ref h13, .int v3, .int v4, .ref h14, .ref h15, .ref h16, .ref h17, .int h0f30, .int h0f31, .ref h18, .ref h19, .ref h20, .ref h21]), (h1, aI (k 0) 36 anI), (h4, aJ (k 1) 9 anJ), (h5, aJ (k 1) 9 anJ), (h6, aJ (k 1) 9 anJ), (h10, aJ (k 1) 900 (lsP (v2.toInt))), (h11, aI (k 0) 100 anI), (h12, aI (k 0) 100 anI), (h13, aI (k 0) 100 anI)]) (as := []) (zcS (As := [.long v5, .long 0, .long v7]) (rest := []) (Tc := []) hx hb hml hown hU hK hT [] rfl (by decide) (cX11_in_ca3b9 l D k _ v5 (0) v7 (by have := ll_0; omega) (by omega)) w901 w899 w900 w72 hdX11_in ⟨rfl, rfl⟩ ⟨Nat.le_of_ble_eq_true rfl, Nat.le_of_ble_eq_true rfl⟩ rfl hl.1 (Nat.le_of_ble_eq_true rfl) dX11_element_14 ⟨Nat.le_of_ble_eq_true rfl, Nat.le_of_ble_eq_true rfl⟩) hT hS hA [] [0, 1, 2, 3, 4, 5, 6, 7, 8] rfl rfl rfl (by decide) (by decide) (fun r8 H locs hB J hS => ?_)
  rcases hB with ⟨rfl, hT1⟩ | ⟨c_10, c_11, rfl, hT1⟩
  · skip
    have hT := J _ hT1
    have hT : TP D A [(h0, ob 8 [.int h0f0, .int h0f1, .int h0f2, .int h0f3, .int h0f4, .int h0f5, .ref h1, .ref h2, .int h0f8, .int v2, .ref h3, .ref h4, .ref h5, .ref h6, .ref h7, .ref h8, .ref h9, .int h0f17, .int h0f18, .int h0f19, .ref h10, .ref h11, .ref h12, .ref h13, .int v3, .int v4, .ref h14, .ref h15, .ref h16, .ref h17, .int h0f30, .int h0f31, .ref h18, .ref h19, .ref h20, .ref h21]), (h1, aI (k 0) 36 anI), (h4, aJ (k 1) 9 anJ), (h5, aJ (k 1) 9 anJ), (h6, aJ (k 1) 9 anJ), (h10, aJ (k 1) 900 (lsP (v2.toInt))), (h11, aI (k 0) 100 anI), (h12, aI (k 0) 100 anI), (h13, aI (k 0) 100 anI)] _ := hT
    refine lv_if_eq (tgt := 54) hx hb dX11_element_17 (by decide) (fun _ => ?_) (fun cc => absurd (by decide +kernel) cc)
    refine lv_iconst (v := (-1)) hx hb dX11_element_54 (by decide) ?_
    have q_q13 := li_m1
    refine tcL (Tc := []) (Tr := [(h0, ob 8 [.int h0f0, .int h0f1, .int h0f2, .int h0f3, .int h0f4, .int h0f5, .ref h1, .ref h2, .int h0f8, .int v2, .ref h3, .ref h4, .ref h5, .ref h6, .ref h7, .ref h8, .ref h9, .int h0f17, .int h0f18, .int h0f19, .ref h10, .ref h11, .ref h12, .ref h13, .int v3, .int v4, .ref h14, .ref h15, .ref h16, .ref h17, .int h0f30, .int h0f31, .ref h18, .ref h19, .ref h20, .ref h21]), (h1, aI (k 0) 36 anI), (h4, aJ (k 1) 9 anJ), (h5, aJ (k 1) 9 anJ), (h6, aJ (k 1) 9 anJ), (h10, aJ (k 1) 900 (lsP (v2.toInt))), (h11, aI (k 0) 100 anI), (h12, aI (k 0) 100 anI), (h13, aI (k 0) 100 anI)]) (as := []) (zcS (As := [.int (-1)]) (rest := []) (Tc := []) hx hb hml hown hU hK hT [] rfl (by decide) (cX11_far_7dbca l D k _ ((-1)) (by have := li_m1; omega)) w1062 w1060 w1061 w72 hdX11_far ⟨rfl, rfl⟩ ⟨Nat.le_of_ble_eq_true rfl, Nat.le_of_ble_eq_true rfl⟩ rfl hl.1 (Nat.le_of_ble_eq_true rfl) dX11_element_55 ⟨Nat.le_of_ble_eq_true rfl, Nat.le_of_ble_eq_true rfl⟩) hT hS hA [] [0, 1, 2, 3, 4, 5, 6, 7, 8] rfl rfl rfl (by decide) (by decide) (fun r12 H locs hB J hS => ?_)
    obtain ⟨b_r12, hT1⟩ := hB
    have hT := J _ hT1
    have hT : TP D A [(h0, ob 8 [.int h0f0, .int h0f1, .int h0f2, .int h0f3, .int h0f4, .int h0f5, .ref h1, .ref h2, .int h0f8, .int v2, .ref h3, .ref h4, .ref h5, .ref h6, .ref h7, .ref h8, .ref h9, .int h0f17, .int h0f18, .int h0f19, .ref h10, .ref h11, .ref h12, .ref h13, .int v3, .int v4, .ref h14, .ref h15, .ref h16, .ref h17, .int h0f30, .int h0f31, .ref h18, .ref h19, .ref h20, .ref h21]), (h1, aI (k 0) 36 anI), (h4, aJ (k 1) 9 anJ), (h5, aJ (k 1) 9 anJ), (h6, aJ (k 1) 9 anJ), (h10, aJ (k 1) 900 (lsP (v2.toInt))), (h11, aI (k 0) 100 anI), (h12, aI (k 0) 100 anI), (h13, aI (k 0) 100 anI)] _ := hT
    exact tz_retL (B := B_cX11_element_2a0f1 D k h0 h1 h4 h5 h6 h10 h11 h12 h13 h2 h3 h7 h8 h9 h14 h15 h16 h17 h18 h19 h20 h21 x1 x2 x3 h0f0 h0f1 h0f2 h0f3 h0f4 h0f5 h0f8 h0f9 h0f17 h0f18 h0f19 h0f24 h0f25 h0f30 h0f31) (v := r12) hQ hx hb hr hlocks hS (Nat.le_of_ble_eq_true rfl) (Nat.le_of_ble_eq_true rfl) dX11_element_58 (⟨v2, v3, v4, (by omega), (by omega), (by omega), hT⟩)
  · skip
    have hT := J _ hT1
    have hT : TP D A [(h0, ob 8 [.int h0f0, .int h0f1, .int h0f2, .int h0f3, .int h0f4, .int h0f5, .ref h1, .ref h2, .int h0f8, .int v2, .ref h3, .ref h4, .ref h5, .ref h6, .ref h7, .ref h8, .ref h9, .int h0f17, .int h0f18, .int h0f19, .ref h10, .ref h11, .ref h12, .ref h13, .int v3, .int v4, .ref h14, .ref h15, .ref h16, .ref h17, .int h0f30, .int h0f31, .ref h18, .ref h19, .ref h20, .ref h21]), (h1, aI (k 0) 36 anI), (h4, aJ (k 1) 9 anJ), (h5, aJ (k 1) 9 anJ), (h6, aJ (k 1) 9 anJ), (h10, aJ (k 1) 900 (lsP (v2.toInt))), (h11, aI (k 0) 100 anI), (h12, aI (k 0) 100 anI), (h13, aI (k 0) 100 anI)] _ := hT
    refine lv_if_eq (tgt := 54) hx hb dX11_element_17 (by decide) (fun cc => absurd cc (by decide +kernel)) (fun _ => ?_)
    refine lv_aload_n hx hb dX11_element_20 rfl (lv_at hl 0 rfl) ?_
    refine lv_iload_n hx hb dX11_element_21 rfl (lv_at hl 2 rfl) ?_
    refine tcI (Tc := [(h0, ob 8 [.int h0f0, .int h0f1, .int h0f2, .int h0f3, .int h0f4, .int h0f5, .ref h1, .ref h2, .int h0f8, .int v2, .ref h3, .ref h4, .ref h5, .ref h6, .ref h7, .ref h8, .ref h9, .int h0f17, .int h0f18, .int h0f19, .ref h10, .ref h11, .ref h12, .ref h13, .int v3, .int v4, .ref h14, .ref h15, .ref h16, .ref h17, .int h0f30, .int h0f31, .ref h18, .ref h19, .ref h20, .ref h21])]) (Tr := [(h1, aI (k 0) 36 anI), (h4, aJ (k 1) 9 anJ), (h5, aJ (k 1) 9 anJ), (h6, aJ (k 1) 9 anJ), (h10, aJ (k 1) 900 (lsP (v2.toInt))), (h11, aI (k 0) 100 anI), (h12, aI (k 0) 100 anI), (h13, aI (k 0) 100 anI)]) (as := [h0]) (zcV (q0 := 0) (ci := 8) (As := [.int x2]) (rest := []) (Tc := [(h0, ob 8 [.int h0f0, .int h0f1, .int h0f2, .int h0f3, .int h0f4, .int h0f5, .ref h1, .ref h2, .int h0f8, .int v2, .ref h3, .ref h4, .ref h5, .ref h6, .ref h7, .ref h8, .ref h9, .int h0f17, .int h0f18, .int h0f19, .ref h10, .ref h11, .ref h12, .ref h13, .int v3, .int v4, .ref h14, .ref h15, .ref h16, .ref h17, .int h0f30, .int h0f31, .ref h18, .ref h19, .ref h20, .ref h21])]) hx hb hml hown hU hK hT rfl rfl [0] rfl (by decide) (cX11_isPlace_24f09 l D k _ h0 h1 h2 h3 h4 h5 h6 h7 h8 h9 h10 h11 h12 h13 h14 h15 h16 h17 h18 h19 h20 h21 x2 h0f0 h0f1 h0f2 h0f3 h0f4 h0f5 h0f8 v2 h0f17 h0f18 h0f19 v3 v4 h0f30 h0f31 (by omega) (by omega) (by omega) (by omega) (by omega) (by omega) (by omega) (by omega) (by omega) (by omega) (by omega) (by omega) (by omega) (by omega) (by omega)) w909 w906 w908 w26 w72 hdX11_isPlace ⟨rfl, rfl⟩ ⟨Nat.le_of_ble_eq_true rfl, Nat.le_of_ble_eq_true rfl⟩ rfl hl.1 (Nat.le_of_ble_eq_true rfl) dX11_element_22 ⟨Nat.le_of_ble_eq_true rfl, Nat.le_of_ble_eq_true rfl⟩) hT hS hA [0] [1, 2, 3, 4, 5, 6, 7, 8] rfl rfl rfl (by decide) (by decide) (fun r14 H locs hB J hS => ?_)
    rcases hB with ⟨rfl, hT1⟩ | ⟨c_15, c_16, c_17, c_18, rfl, hT1⟩
    · skip
      have hT := J _ hT1
      have hT : TP D A [(h1, aI (k 0) 36 anI), (h4, aJ (k 1) 9 anJ), (h5, aJ (k 1) 9 anJ), (h6, aJ (k 1) 9 anJ), (h10, aJ (k 1) 900 (lsP (v2.toInt))), (h11, aI (k 0) 100 anI), (h12, aI (k 0) 100 anI), (h13, aI (k 0) 100 anI), (h0, ob 8 [.int h0f0, .int h0f1, .int h0f2, .int h0f3, .int h0f4, .int h0f5, .ref h1, .ref h2, .int h0f8, .int v2, .ref h3, .ref h4, .ref h5, .ref h6, .ref h7, .ref h8, .ref h9, .int h0f17, .int h0f18, .int h0f19, .ref h10, .ref h11, .ref h12, .ref h13, .int v3, .int v4, .ref h14, .ref h15, .ref h16, .ref h17, .int h0f30, .int h0f31, .ref h18, .ref h19, .ref h20, .ref h21])] _ := hT
      refine lv_if_eq (tgt := 54) hx hb dX11_element_25 (by decide) (fun _ => ?_) (fun cc => absurd (by decide +kernel) cc)
      refine lv_iconst (v := (-1)) hx hb dX11_element_54 (by decide) ?_
      have q_q20 := li_m1
      refine tcL (Tc := []) (Tr := [(h1, aI (k 0) 36 anI), (h4, aJ (k 1) 9 anJ), (h5, aJ (k 1) 9 anJ), (h6, aJ (k 1) 9 anJ), (h10, aJ (k 1) 900 (lsP (v2.toInt))), (h11, aI (k 0) 100 anI), (h12, aI (k 0) 100 anI), (h13, aI (k 0) 100 anI), (h0, ob 8 [.int h0f0, .int h0f1, .int h0f2, .int h0f3, .int h0f4, .int h0f5, .ref h1, .ref h2, .int h0f8, .int v2, .ref h3, .ref h4, .ref h5, .ref h6, .ref h7, .ref h8, .ref h9, .int h0f17, .int h0f18, .int h0f19, .ref h10, .ref h11, .ref h12, .ref h13, .int v3, .int v4, .ref h14, .ref h15, .ref h16, .ref h17, .int h0f30, .int h0f31, .ref h18, .ref h19, .ref h20, .ref h21])]) (as := []) (zcS (As := [.int (-1)]) (rest := []) (Tc := []) hx hb hml hown hU hK hT [] rfl (by decide) (cX11_far_7dbca l D k _ ((-1)) (by have := li_m1; omega)) w1062 w1060 w1061 w72 hdX11_far ⟨rfl, rfl⟩ ⟨Nat.le_of_ble_eq_true rfl, Nat.le_of_ble_eq_true rfl⟩ rfl hl.1 (Nat.le_of_ble_eq_true rfl) dX11_element_55 ⟨Nat.le_of_ble_eq_true rfl, Nat.le_of_ble_eq_true rfl⟩) hT hS hA [] [0, 1, 2, 3, 4, 5, 6, 7, 8] rfl rfl rfl (by decide) (by decide) (fun r19 H locs hB J hS => ?_)
      obtain ⟨b_r19, hT1⟩ := hB
      have hT := J _ hT1
      have hT : TP D A [(h1, aI (k 0) 36 anI), (h4, aJ (k 1) 9 anJ), (h5, aJ (k 1) 9 anJ), (h6, aJ (k 1) 9 anJ), (h10, aJ (k 1) 900 (lsP (v2.toInt))), (h11, aI (k 0) 100 anI), (h12, aI (k 0) 100 anI), (h13, aI (k 0) 100 anI), (h0, ob 8 [.int h0f0, .int h0f1, .int h0f2, .int h0f3, .int h0f4, .int h0f5, .ref h1, .ref h2, .int h0f8, .int v2, .ref h3, .ref h4, .ref h5, .ref h6, .ref h7, .ref h8, .ref h9, .int h0f17, .int h0f18, .int h0f19, .ref h10, .ref h11, .ref h12, .ref h13, .int v3, .int v4, .ref h14, .ref h15, .ref h16, .ref h17, .int h0f30, .int h0f31, .ref h18, .ref h19, .ref h20, .ref h21])] _ := hT
      exact tz_retL (B := B_cX11_element_2a0f1 D k h0 h1 h4 h5 h6 h10 h11 h12 h13 h2 h3 h7 h8 h9 h14 h15 h16 h17 h18 h19 h20 h21 x1 x2 x3 h0f0 h0f1 h0f2 h0f3 h0f4 h0f5 h0f8 h0f9 h0f17 h0f18 h0f19 h0f24 h0f25 h0f30 h0f31) (v := r19) hQ hx hb hr hlocks hS (Nat.le_of_ble_eq_true rfl) (Nat.le_of_ble_eq_true rfl) dX11_element_58 (⟨v2, v3, v4, (by omega), (by omega), (by omega), (hT.sub [8, 0, 1, 2, 3, 4, 5, 6, 7] (by decide) rfl)⟩)
    · skip
      have hT := J _ hT1
      have hT : TP D A [(h1, aI (k 0) 36 anI), (h4, aJ (k 1) 9 anJ), (h5, aJ (k 1) 9 anJ), (h6, aJ (k 1) 9 anJ), (h10, aJ (k 1) 900 (lsP (v2.toInt))), (h11, aI (k 0) 100 anI), (h12, aI (k 0) 100 anI), (h13, aI (k 0) 100 anI), (h0, ob 8 [.int h0f0, .int h0f1, .int h0f2, .int h0f3, .int h0f4, .int h0f5, .ref h1, .ref h2, .int h0f8, .int v2, .ref h3, .ref h4, .ref h5, .ref h6, .ref h7, .ref h8, .ref h9, .int h0f17, .int h0f18, .int h0f19, .ref h10, .ref h11, .ref h12, .ref h13, .int v3, .int v4, .ref h14, .ref h15, .ref h16, .ref h17, .int h0f30, .int h0f31, .ref h18, .ref h19, .ref h20, .ref h21])] _ := hT
      refine lv_if_eq (tgt := 54) hx hb dX11_element_25 (by decide) (fun cc => absurd cc (by decide +kernel)) (fun _ => ?_)
      refine lv_aload_n hx hb dX11_element_28 rfl (lv_at hl 0 rfl) ?_
      refine lv_iload_n hx hb dX11_element_29 rfl (lv_at hl 3 rfl) ?_
      refine tcI (Tc := [(h0, ob 8 [.int h0f0, .int h0f1, .int h0f2, .int h0f3, .int h0f4, .int h0f5, .ref h1, .ref h2, .int h0f8, .int v2, .ref h3, .ref h4, .ref h5, .ref h6, .ref h7, .ref h8, .ref h9, .int h0f17, .int h0f18, .int h0f19, .ref h10, .ref h11, .ref h12, .ref h13, .int v3, .int v4, .ref h14, .ref h15, .ref h16, .ref h17, .int h0f30, .int h0f31, .ref h18, .ref h19, .ref h20, .ref h21])]) (Tr := [(h1, aI (k 0) 36 anI), (h4, aJ (k 1) 9 anJ), (h5, aJ (k 1) 9 anJ), (h6, aJ (k 1) 9 anJ), (h10, aJ (k 1) 900 (lsP (v2.toInt))), (h11, aI (k 0) 100 anI), (h12, aI (k 0) 100 anI), (h13, aI (k 0) 100 anI)]) (as := [h0]) (zcV (q0 := 8) (ci := 8) (As := [.int x3]) (rest := []) (Tc := [(h0, ob 8 [.int h0f0, .int h0f1, .int h0f2, .int h0f3, .int h0f4, .int h0f5, .ref h1, .ref h2, .int h0f8, .int v2, .ref h3, .ref h4, .ref h5, .ref h6, .ref h7, .ref h8, .ref h9, .int h0f17, .int h0f18, .int h0f19, .ref h10, .ref h11, .ref h12, .ref h13, .int v3, .int v4, .ref h14, .ref h15, .ref h16, .ref h17, .int h0f30, .int h0f31, .ref h18, .ref h19, .ref h20, .ref h21])]) hx hb hml hown hU hK hT rfl rfl [8] rfl (by decide) (cX11_isPlace_24f09 l D k _ h0 h1 h2 h3 h4 h5 h6 h7 h8 h9 h10 h11 h12 h13 h14 h15 h16 h17 h18 h19 h20 h21 x3 h0f0 h0f1 h0f2 h0f3 h0f4 h0f5 h0f8 v2 h0f17 h0f18 h0f19 v3 v4 h0f30 h0f31 (by omega) (by omega) (by omega) (by omega) (by omega) (by omega) (by omega) (by omega) (by omega) (by omega) (by omega) (by omega) (by omega) (by omega) (by omega)) w909 w906 w908 w26 w72 hdX11_isPlace ⟨rfl, rfl⟩ ⟨Nat.le_of_ble_eq_true rfl, Nat.le_of_ble_eq_true rfl⟩ rfl hl.1 (Nat.le_of_ble_eq_true rfl) dX11_element_30 ⟨Nat.le_of_ble_eq_true rfl, Nat.le_of_ble_eq_true rfl⟩) hT hS hA [8] [0, 1, 2, 3, 4, 5, 6, 7] rfl rfl rfl (by decide) (by decide) (fun r21 H locs hB J hS => ?_)
      rcases hB with ⟨rfl, hT1⟩ | ⟨c_22, c_23, c_24, c_25, rfl, hT1⟩
      · skip
        have hT := J _ hT1
        have hT : TP D A [(h1, aI (k 0) 36 anI), (h4, aJ (k 1) 9 anJ), (h5, aJ (k 1) 9 anJ), (h6, aJ (k 1) 9 anJ), (h10, aJ (k 1) 900 (lsP (v2.toInt))), (h11, aI (k 0) 100 anI), (h12, aI (k 0) 100 anI), (h13, aI (k 0) 100 anI), (h0, ob 8 [.int h0f0, .int h0f1, .int h0f2, .int h0f3, .int h0f4, .int h0f5, .ref h1, .ref h2, .int h0f8, .int v2, .ref h3, .ref h4, .ref h5, .ref h6, .ref h7, .ref h8, .ref h9, .int h0f17, .int h0f18, .int h0f19, .ref h10, .ref h11, .ref h12, .ref h13, .int v3, .int v4, .ref h14, .ref h15, .ref h16, .ref h17, .int h0f30, .int h0f31, .ref h18, .ref h19, .ref h20, .ref h21])] _ := hT
        refine lv_if_eq (tgt := 54) hx hb dX11_element_33 (by decide) (fun _ => ?_) (fun cc => absurd (by decide +kernel) cc)
        refine lv_iconst (v := (-1)) hx hb dX11_element_54 (by decide) ?_
        have q_q27 := li_m1
        refine tcL (Tc := []) (Tr := [(h1, aI (k 0) 36 anI), (h4, aJ (k 1) 9 anJ), (h5, aJ (k 1) 9 anJ), (h6, aJ (k 1) 9 anJ), (h10, aJ (k 1) 900 (lsP (v2.toInt))), (h11, aI (k 0) 100 anI), (h12, aI (k 0) 100 anI), (h13, aI (k 0) 100 anI), (h0, ob 8 [.int h0f0, .int h0f1, .int h0f2, .int h0f3, .int h0f4, .int h0f5, .ref h1, .ref h2, .int h0f8, .int v2, .ref h3, .ref h4, .ref h5, .ref h6, .ref h7, .ref h8, .ref h9, .int h0f17, .int h0f18, .int h0f19, .ref h10, .ref h11, .ref h12, .ref h13, .int v3, .int v4, .ref h14, .ref h15, .ref h16, .ref h17, .int h0f30, .int h0f31, .ref h18, .ref h19, .ref h20, .ref h21])]) (as := []) (zcS (As := [.int (-1)]) (rest := []) (Tc := []) hx hb hml hown hU hK hT [] rfl (by decide) (cX11_far_7dbca l D k _ ((-1)) (by have := li_m1; omega)) w1062 w1060 w1061 w72 hdX11_far ⟨rfl, rfl⟩ ⟨Nat.le_of_ble_eq_true rfl, Nat.le_of_ble_eq_true rfl⟩ rfl hl.1 (Nat.le_of_ble_eq_true rfl) dX11_element_55 ⟨Nat.le_of_ble_eq_true rfl, Nat.le_of_ble_eq_true rfl⟩) hT hS hA [] [0, 1, 2, 3, 4, 5, 6, 7, 8] rfl rfl rfl (by decide) (by decide) (fun r26 H locs hB J hS => ?_)
        obtain ⟨b_r26, hT1⟩ := hB
        have hT := J _ hT1
        have hT : TP D A [(h1, aI (k 0) 36 anI), (h4, aJ (k 1) 9 anJ), (h5, aJ (k 1) 9 anJ), (h6, aJ (k 1) 9 anJ), (h10, aJ (k 1) 900 (lsP (v2.toInt))), (h11, aI (k 0) 100 anI), (h12, aI (k 0) 100 anI), (h13, aI (k 0) 100 anI), (h0, ob 8 [.int h0f0, .int h0f1, .int h0f2, .int h0f3, .int h0f4, .int h0f5, .ref h1, .ref h2, .int h0f8, .int v2, .ref h3, .ref h4, .ref h5, .ref h6, .ref h7, .ref h8, .ref h9, .int h0f17, .int h0f18, .int h0f19, .ref h10, .ref h11, .ref h12, .ref h13, .int v3, .int v4, .ref h14, .ref h15, .ref h16, .ref h17, .int h0f30, .int h0f31, .ref h18, .ref h19, .ref h20, .ref h21])] _ := hT
        exact tz_retL (B := B_cX11_element_2a0f1 D k h0 h1 h4 h5 h6 h10 h11 h12 h13 h2 h3 h7 h8 h9 h14 h15 h16 h17 h18 h19 h20 h21 x1 x2 x3 h0f0 h0f1 h0f2 h0f3 h0f4 h0f5 h0f8 h0f9 h0f17 h0f18 h0f19 h0f24 h0f25 h0f30 h0f31) (v := r26) hQ hx hb hr hlocks hS (Nat.le_of_ble_eq_true rfl) (Nat.le_of_ble_eq_true rfl) dX11_element_58 (⟨v2, v3, v4, (by omega), (by omega), (by omega), (hT.sub [8, 0, 1, 2, 3, 4, 5, 6, 7] (by decide) rfl)⟩)
      · skip
        have hT := J _ hT1
        have hT : TP D A [(h1, aI (k 0) 36 anI), (h4, aJ (k 1) 9 anJ), (h5, aJ (k 1) 9 anJ), (h6, aJ (k 1) 9 anJ), (h10, aJ (k 1) 900 (lsP (v2.toInt))), (h11, aI (k 0) 100 anI), (h12, aI (k 0) 100 anI), (h13, aI (k 0) 100 anI), (h0, ob 8 [.int h0f0, .int h0f1, .int h0f2, .int h0f3, .int h0f4, .int h0f5, .ref h1, .ref h2, .int h0f8, .int v2, .ref h3, .ref h4, .ref h5, .ref h6, .ref h7, .ref h8, .ref h9, .int h0f17, .int h0f18, .int h0f19, .ref h10, .ref h11, .ref h12, .ref h13, .int v3, .int v4, .ref h14, .ref h15, .ref h16, .ref h17, .int h0f30, .int h0f31, .ref h18, .ref h19, .ref h20, .ref h21])] _ := hT
        refine lv_if_eq (tgt := 54) hx hb dX11_element_33 (by decide) (fun cc => absurd cc (by decide +kernel)) (fun _ => ?_)
        refine lv_aload_n hx hb dX11_element_36 rfl (lv_at hl 0 rfl) ?_
        refine tz_get (ci := 8) (v := .ref h10) (C := RX11) (F := TX11) (N := 36) hx hb hU iX11 hown hK hT 8 rfl rfl 20 (by decide) w805 (fun _ h9 => h9) rfl dX11_element_37 ?_
        refine lv_bipush (v := 9) hx hb dX11_element_40 (by decide) ?_
        refine lv_iload_n hx hb dX11_element_42 rfl (lv_at hl 1 rfl) ?_
        refine lv_imul hx hb dX11_element_43 (lv_topi (fun v28 e_v28 => ?_))
        have e_v28 := ai_mul e_v28 li_9 rfl (by omega)
        refine lv_iconst (v := 3) hx hb dX11_element_44 (by decide) ?_
        refine lv_iload_n hx hb dX11_element_45 rfl (lv_at hl 2 rfl) ?_
        refine lv_imul hx hb dX11_element_46 (lv_topi (fun v29 e_v29 => ?_))
        have e_v29 := ai_mul e_v29 li_3 rfl (by omega)
        refine lv_iadd hx hb dX11_element_47 (lv_topi (fun v30 e_v30 => ?_))
        have e_v30 := ai_add e_v30 rfl rfl (by omega)
        refine lv_iload_n hx hb dX11_element_48 rfl (lv_at hl 3 rfl) ?_
        refine lv_iadd hx hb dX11_element_49 (lv_topi (fun v31 e_v31 => ?_))
        have e_v31 := ai_add e_v31 rfl rfl (by omega)
        refine tz_lald hx hb hK hT 4 rfl (by omega) dX11_element_50 (fun v32 e_v32 => ?_)
        clear e_v32
        refine lv_goto (tgt := 58) hx hb dX11_element_51 (by decide) ?_
        exact tz_retL (B := B_cX11_element_2a0f1 D k h0 h1 h4 h5 h6 h10 h11 h12 h13 h2 h3 h7 h8 h9 h14 h15 h16 h17 h18 h19 h20 h21 x1 x2 x3 h0f0 h0f1 h0f2 h0f3 h0f4 h0f5 h0f8 h0f9 h0f17 h0f18 h0f19 h0f24 h0f25 h0f30 h0f31) (v := v32) hQ hx hb hr hlocks hS (Nat.le_of_ble_eq_true rfl) (Nat.le_of_ble_eq_true rfl) dX11_element_58 (⟨v2, v3, v4, (by omega), (by omega), (by omega), (hT.sub [8, 0, 1, 2, 3, 4, 5, 6, 7] (by decide) rfl)⟩)
abbrev Rm_cX7_addUp_491c8 : Room := { frames := 0, cells := 0, slots := 0, locals := 0 }
abbrev B_cX7_addUp_491c8 (D : va_G) (k : Nat → ClassId) (h0 h1 : Nat) (x1 : Int32) (x4 : Int32) (x5 : Int32) (x6 : Int32) (A : Nat → Prop) (r : Int64) (H : Heap) : Prop := TP D A [(h0, aJ (k 1) 9 anJ), (h1, aJ (k 1) 900 anJ)] H
set_option maxHeartbeats 4000000 in
set_option maxRecDepth 100000 in
theorem cX7_addUp_491c8 (l : Launch) (D : va_G) (k : Nat → ClassId) (sz : Nat) (h0 h1 : Nat) (x1 : Int32) (x4 : Int32) (x5 : Int32) (x6 : Int32) (b_x1 : 0 ≤ x1.toInt ∧ x1.toInt ≤ 6) (b_x4 : 0 ≤ x4.toInt ∧ x4.toInt ≤ 893) (b_x5 : 1 ≤ x5.toInt ∧ x5.toInt ≤ 3) (b_x6 : 1 ≤ x6.toInt ∧ x6.toInt ≤ 3) : Met l yX7_addUp (Cond.code yX7_addUp cX7_addUp 10 (some .long) :: uw) Rm_cX7_addUp_491c8 (pT D k sz [.ref h0, .int x1, .int 1, .ref h1, .int x4, .int x5, .int x6] [(h0, aJ (k 1) 9 anJ), (h1, aJ (k 1) 900 anJ)]) (qL (B_cX7_addUp_491c8 D k h0 h1 x1 x4 x5 x6 (zA [h0, h1] sz)) (zA [h0, h1] sz)) 0 0 (zA [h0, h1] sz) := by
  refine tz_begin (as := [h0, h1]) (Qc := fun A => qL (B_cX7_addUp_491c8 D k h0 h1 x1 x4 x5 x6 A) A) (by decide +kernel) rfl (Nat.le_of_ble_eq_true rfl) ?_
  intro p e s m args below meth c ls A Q hx hb hr hml hown hlocks hin hU hK hT hS hA hl hQ
  have hl : lv_has ls 10 [(0, .ref h0), (1, .int x1), (2, .int 1), (3, .ref h1), (4, .int x4), (5, .int x5), (6, .int x6)] := hl
  have hT : TP D A [(h0, aJ (k 1) 9 anJ), (h1, aJ (k 1) 900 anJ)] s.heap := hT
  refine lv_lconst (v := 0) hx hb dX7_addUp_0 (by decide) ?_
  refine lv_lstore (lv' := [(7, .long 0), (0, .ref h0), (1, .int x1), (2, .int 1), (3, .ref h1), (4, .int x4), (5, .int x5), (6, .int x6)]) hx hb dX7_addUp_1 hl (by decide) rfl (fun ls hl => ?_)
  refine lv_iconst (v := 0) hx hb dX7_addUp_3 (by decide) ?_
  refine lv_istore (lv' := [(9, .int 0), (7, .long 0), (0, .ref h0), (1, .int x1), (2, .int 1), (3, .ref h1), (4, .int x4), (5, .int x5), (6, .int x6)]) hx hb dX7_addUp_4 hl (by decide) rfl (fun ls hl => ?_)
  have lp6_7 : ∀ (n : Nat) (y5 : Int32) (y6 : Int64) (H : Heap) (locs : List Loc) (ls : Array Slot), (0 ≤ y5.toInt ∧ y5.toInt ≤ 3) → (x6.toInt + (-1) * y5.toInt + 1).toNat < n → TP D A [(h0, aJ (k 1) 9 anJ), (h1, aJ (k 1) 900 anJ)] H → va_S A s.heap H locs → lv_has ls 10 [(0, .ref h0), (1, .int x1), (2, .int 1), (3, .ref h1), (4, .int x4), (5, .int x5), (6, .int x6), (7, .long y6), (9, .int y5)] → W p l e Rm_cX7_addUp_491c8 s m args below meth c H locs 0 0 Q (F0 m 6 ls []) := by
    intro n
    induction n with
    | zero => intro y5 y6 H locs ls b_y5 hm hT hS hl; exact absurd hm (Nat.not_lt_zero _)
    | succ n ih =>
      intro y5 y6 H locs ls b_y5 hm hT hS hl
      have ih6_7 := ih
      clear ih
      refine lv_iload hx hb dX7_addUp_6 (lv_at hl 8 rfl) ?_
      refine lv_iload hx hb dX7_addUp_8 (lv_at hl 6 rfl) ?_
      refine lv_icmp_ge (tgt := 43) hx hb dX7_addUp_10 (by decide) (fun c_8 => ?_) (fun c_8 => ?_)
      · skip
        have c_8 := ni_le c_8 rfl rfl
        refine lv_lload hx hb dX7_addUp_43 (lv_at hl 7 rfl) ?_
        exact tz_retL (B := B_cX7_addUp_491c8 D k h0 h1 x1 x4 x5 x6) (v := y6) hQ hx hb hr hlocks hS (Nat.le_of_ble_eq_true rfl) (Nat.le_of_ble_eq_true rfl) dX7_addUp_45 (hT)
      · skip
        have c_8 := ni_nle c_8 rfl rfl
        refine lv_lload hx hb dX7_addUp_13 (lv_at hl 7 rfl) ?_
        refine lv_aload_n hx hb dX7_addUp_15 rfl (lv_at hl 0 rfl) ?_
        refine lv_iload_n hx hb dX7_addUp_16 rfl (lv_at hl 1 rfl) ?_
        refine lv_iload hx hb dX7_addUp_17 (lv_at hl 8 rfl) ?_
        refine lv_iload_n hx hb dX7_addUp_19 rfl (lv_at hl 2 rfl) ?_
        refine lv_imul hx hb dX7_addUp_20 (lv_topi (fun v9 e_v9 => ?_))
        have e_v9 := ai_mul e_v9 rfl li_1 (by omega)
        refine lv_iadd hx hb dX7_addUp_21 (lv_topi (fun v10 e_v10 => ?_))
        have e_v10 := ai_add e_v10 rfl rfl (by omega)
        refine tz_lald hx hb hK hT 0 rfl (by omega) dX7_addUp_22 (fun v11 e_v11 => ?_)
        clear e_v11
        refine lv_aload_n hx hb dX7_addUp_23 rfl (lv_at hl 3 rfl) ?_
        refine lv_iload hx hb dX7_addUp_24 (lv_at hl 4 rfl) ?_
        refine lv_iload hx hb dX7_addUp_26 (lv_at hl 8 rfl) ?_
        refine lv_iload hx hb dX7_addUp_28 (lv_at hl 5 rfl) ?_
        refine lv_imul hx hb dX7_addUp_30 (lv_topi (fun v12 e_v12 => ?_))
        have e_v12 := ai_mm (la := 0) (ua := 2) (lb := 1) (ub := 3) e_v12 rfl rfl (by omega) (by decide)
        refine lv_iadd hx hb dX7_addUp_31 (lv_topi (fun v13 e_v13 => ?_))
        have e_v13 := ai_add e_v13 rfl rfl (by omega)
        refine tz_lald hx hb hK hT 1 rfl (by omega) dX7_addUp_32 (fun v14 e_v14 => ?_)
        clear e_v14
        refine lv_lmul hx hb dX7_addUp_33 (lv_topl (fun v15 e_v15 => ?_))
        refine lv_ladd hx hb dX7_addUp_34 (lv_topl (fun v16 e_v16 => ?_))
        refine lv_lstore (lv' := [(7, .long v16), (0, .ref h0), (1, .int x1), (2, .int 1), (3, .ref h1), (4, .int x4), (5, .int x5), (6, .int x6), (9, .int y5)]) hx hb dX7_addUp_35 hl (by decide) rfl (fun ls hl => ?_)
        obtain ⟨v17, e_v17⟩ : ∃ x : Int32, x = y5 + Int32.ofInt 1 := ⟨_, rfl⟩
        have f_v17 := e_v17.symm
        have e_v17 : v17.toInt = y5.toInt + 1 := ai_add e_v17 rfl (show (Int32.ofInt 1).toInt = 1 from (by decide +kernel)) (by omega)
        refine lv_iinc (v := v17) (lv' := [(9, .int v17), (7, .long v16), (0, .ref h0), (1, .int x1), (2, .int 1), (3, .ref h1), (4, .int x4), (5, .int x5), (6, .int x6)]) hx hb dX7_addUp_37 hl (k := 8) rfl f_v17 (by decide) rfl (fun ls hl => ?_)
        refine lv_goto (tgt := 6) hx hb dX7_addUp_40 (by decide) ?_
        exact ih6_7 v17 v16 _ _ _ (by omega)  (by omega) hT hS (lv_sub hl [2, 3, 4, 5, 6, 7, 8, 1, 0] rfl)
  exact lp6_7 ((x6.toInt + (-1) * (0 : Int32).toInt + 1).toNat + 1) (0) (0) _ _ _ (by have := li_0; have := ll_0; omega)  (Nat.lt_succ_self _) hT hS (lv_sub hl [2, 3, 4, 5, 6, 7, 8, 1, 0] rfl)
abbrev Rm_cX7_multiply_c910c : Room := { frames := 1, cells := 0, slots := 0, locals := 29 }
abbrev B_cX7_multiply_c910c (D : va_G) (k : Nat → ClassId) (h0 h1 h2 : Nat) (x1 : Int32) (x3 : Int32) (x5 : Int32) (A : Nat → Prop) (H : Heap) : Prop := TP D A [(h0, aJ (k 1) 9 anJ), (h1, aJ (k 1) 900 anJ), (h2, aJ (k 1) 9 anJ)] H
set_option maxHeartbeats 4000000 in
set_option maxRecDepth 100000 in
theorem cX7_multiply_c910c (l : Launch) (D : va_G) (k : Nat → ClassId) (sz : Nat) (h0 h1 h2 : Nat) (x1 : Int32) (x3 : Int32) (x5 : Int32) (b_x1 : 0 ≤ x1.toInt ∧ x1.toInt ≤ 0) (b_x3 : 0 ≤ x3.toInt ∧ x3.toInt ≤ 891) (b_x5 : 1 ≤ x5.toInt ∧ x5.toInt ≤ 3) : Met l yX7_multiply (Cond.code yX7_multiply cX7_multiply 8 none :: uw) Rm_cX7_multiply_c910c (pT D k sz [.ref h0, .int x1, .ref h1, .int x3, .ref h2, .int x5] [(h0, aJ (k 1) 9 anJ), (h1, aJ (k 1) 900 anJ), (h2, aJ (k 1) 9 anJ)]) (qV (B_cX7_multiply_c910c D k h0 h1 h2 x1 x3 x5 (zA [h0, h1, h2] sz)) (zA [h0, h1, h2] sz)) 0 0 (zA [h0, h1, h2] sz) := by
  refine tz_begin (as := [h0, h1, h2]) (Qc := fun A => qV (B_cX7_multiply_c910c D k h0 h1 h2 x1 x3 x5 A) A) (by decide +kernel) rfl (Nat.le_of_ble_eq_true rfl) ?_
  intro p e s m args below meth c ls A Q hx hb hr hml hown hlocks hin hU hK hT hS hA hl hQ
  have hl : lv_has ls 8 [(0, .ref h0), (1, .int x1), (2, .ref h1), (3, .int x3), (4, .ref h2), (5, .int x5)] := hl
  have hT : TP D A [(h0, aJ (k 1) 9 anJ), (h1, aJ (k 1) 900 anJ), (h2, aJ (k 1) 9 anJ)] s.heap := hT
  refine lv_iconst (v := 0) hx hb dX7_multiply_0 (by decide) ?_
  refine lv_istore (lv' := [(6, .int 0), (0, .ref h0), (1, .int x1), (2, .ref h1), (3, .int x3), (4, .ref h2), (5, .int x5)]) hx hb dX7_multiply_1 hl (by decide) rfl (fun ls hl => ?_)
  have lp3_4 : ∀ (n : Nat) (y3 : Int32) (H : Heap) (locs : List Loc) (ls : Array Slot), (0 ≤ y3.toInt ∧ y3.toInt ≤ 3) → (x5.toInt + (-1) * y3.toInt + 1).toNat < n → TP D A [(h0, aJ (k 1) 9 anJ), (h1, aJ (k 1) 900 anJ), (h2, aJ (k 1) 9 anJ)] H → va_S A s.heap H locs → lv_has ls 8 [(0, .ref h0), (1, .int x1), (2, .ref h1), (3, .int x3), (4, .ref h2), (5, .int x5), (6, .int y3)] → W p l e Rm_cX7_multiply_c910c s m args below meth c H locs 0 0 Q (F0 m 3 ls []) := by
    intro n
    induction n with
    | zero => intro y3 H locs ls b_y3 hm hT hS hl; exact absurd hm (Nat.not_lt_zero _)
    | succ n ih =>
      intro y3 H locs ls b_y3 hm hT hS hl
      have ih3_4 := ih
      clear ih
      refine lv_iload hx hb dX7_multiply_3 (lv_at hl 6 rfl) ?_
      refine lv_iload hx hb dX7_multiply_5 (lv_at hl 5 rfl) ?_
      refine lv_icmp_ge (tgt := 64) hx hb dX7_multiply_7 (by decide) (fun c_5 => ?_) (fun c_5 => ?_)
      · skip
        have c_5 := ni_le c_5 rfl rfl
        exact tz_retV (B := B_cX7_multiply_c910c D k h0 h1 h2 x1 x3 x5) hQ hx hb hr hlocks hS (Nat.le_of_ble_eq_true rfl) (Nat.le_of_ble_eq_true rfl) dX7_multiply_64 (hT)
      · skip
        have c_5 := ni_nle c_5 rfl rfl
        refine lv_iconst (v := 0) hx hb dX7_multiply_10 (by decide) ?_
        refine lv_istore (lv' := [(7, .int 0), (0, .ref h0), (1, .int x1), (2, .ref h1), (3, .int x3), (4, .ref h2), (5, .int x5), (6, .int y3)]) hx hb dX7_multiply_11 hl (by decide) rfl (fun ls hl => ?_)
        have lp13_9 : ∀ (n : Nat) (y8 : Int32) (H : Heap) (locs : List Loc) (ls : Array Slot), (0 ≤ y8.toInt ∧ y8.toInt ≤ 3) → (x5.toInt + (-1) * y8.toInt + 1).toNat < n → TP D A [(h0, aJ (k 1) 9 anJ), (h1, aJ (k 1) 900 anJ), (h2, aJ (k 1) 9 anJ)] H → va_S A s.heap H locs → lv_has ls 8 [(0, .ref h0), (1, .int x1), (2, .ref h1), (3, .int x3), (4, .ref h2), (5, .int x5), (6, .int y3), (7, .int y8)] → W p l e Rm_cX7_multiply_c910c s m args below meth c H locs 0 0 Q (F0 m 13 ls []) := by
          intro n
          induction n with
          | zero => intro y8 H locs ls b_y8 hm hT hS hl; exact absurd hm (Nat.not_lt_zero _)
          | succ n ih =>
            intro y8 H locs ls b_y8 hm hT hS hl
            have ih13_9 := ih
            clear ih
            refine lv_iload hx hb dX7_multiply_13 (lv_at hl 7 rfl) ?_
            refine lv_iload hx hb dX7_multiply_15 (lv_at hl 5 rfl) ?_
            refine lv_icmp_ge (tgt := 58) hx hb dX7_multiply_17 (by decide) (fun c_10 => ?_) (fun c_10 => ?_)
            · skip
              have c_10 := ni_le c_10 rfl rfl
              obtain ⟨v11, e_v11⟩ : ∃ x : Int32, x = y3 + Int32.ofInt 1 := ⟨_, rfl⟩
              have f_v11 := e_v11.symm
              have e_v11 : v11.toInt = y3.toInt + 1 := ai_add e_v11 rfl (show (Int32.ofInt 1).toInt = 1 from (by decide +kernel)) (by omega)
              refine lv_iinc (v := v11) (lv' := [(6, .int v11), (0, .ref h0), (1, .int x1), (2, .ref h1), (3, .int x3), (4, .ref h2), (5, .int x5), (7, .int y8)]) hx hb dX7_multiply_58 hl (k := 6) rfl f_v11 (by decide) rfl (fun ls hl => ?_)
              refine lv_goto (tgt := 3) hx hb dX7_multiply_61 (by decide) ?_
              exact ih3_4 v11 _ _ _ (by omega)  (by omega) hT hS (lv_sub hl [1, 2, 3, 4, 5, 6, 0] rfl)
            · skip
              have c_10 := ni_nle c_10 rfl rfl
              refine lv_aload hx hb dX7_multiply_20 (lv_at hl 4 rfl) ?_
              refine lv_iload hx hb dX7_multiply_22 (lv_at hl 6 rfl) ?_
              refine lv_iload hx hb dX7_multiply_24 (lv_at hl 5 rfl) ?_
              refine lv_imul hx hb dX7_multiply_26 (lv_topi (fun v12 e_v12 => ?_))
              have e_v12 := ai_mm (la := 0) (ua := 2) (lb := 1) (ub := 3) e_v12 rfl rfl (by omega) (by decide)
              refine lv_iload hx hb dX7_multiply_27 (lv_at hl 7 rfl) ?_
              refine lv_iadd hx hb dX7_multiply_29 (lv_topi (fun v13 e_v13 => ?_))
              have e_v13 := ai_add e_v13 rfl rfl (by omega)
              refine lv_aload_n hx hb dX7_multiply_30 rfl (lv_at hl 0 rfl) ?_
              refine lv_iload_n hx hb dX7_multiply_31 rfl (lv_at hl 1 rfl) ?_
              refine lv_iload hx hb dX7_multiply_32 (lv_at hl 6 rfl) ?_
              refine lv_iload hx hb dX7_multiply_34 (lv_at hl 5 rfl) ?_
              refine lv_imul hx hb dX7_multiply_36 (lv_topi (fun v14 e_v14 => ?_))
              have e_v14 := ai_mm (la := 0) (ua := 2) (lb := 1) (ub := 3) e_v14 rfl rfl (by omega) (by decide)
              have hq15 : x1.toInt = 0 := by omega
              refine lv_iadd hx hb dX7_multiply_37 (lv_topi (fun v16 e_v16 => ?_))
              have e_v16 := ai_add e_v16 hq15 rfl (by omega)
              refine lv_iconst (v := 1) hx hb dX7_multiply_38 (by decide) ?_
              refine lv_aload_n hx hb dX7_multiply_39 rfl (lv_at hl 2 rfl) ?_
              refine lv_iload_n hx hb dX7_multiply_40 rfl (lv_at hl 3 rfl) ?_
              refine lv_iload hx hb dX7_multiply_41 (lv_at hl 7 rfl) ?_
              refine lv_iadd hx hb dX7_multiply_43 (lv_topi (fun v17 e_v17 => ?_))
              have e_v17 := ai_add e_v17 rfl rfl (by omega)
              refine lv_iload hx hb dX7_multiply_44 (lv_at hl 5 rfl) ?_
              refine lv_iload hx hb dX7_multiply_46 (lv_at hl 5 rfl) ?_
              refine tcL (Tc := [(h0, aJ (k 1) 9 anJ), (h1, aJ (k 1) 900 anJ)]) (Tr := [(h2, aJ (k 1) 9 anJ)]) (as := [h0, h1]) (zcS (As := [.ref h0, .int v16, .int 1, .ref h1, .int v17, .int x5, .int x5]) (rest := [.int v13, .ref h2]) (Tc := [(h0, aJ (k 1) 9 anJ), (h1, aJ (k 1) 900 anJ)]) hx hb hml hown hU hK hT [0, 1] rfl (by decide) (cX7_addUp_491c8 l D k _ h0 h1 v16 v17 x5 x5 (by omega) (by omega) (by omega) (by omega)) w366 w364 w365 w74 hdX7_addUp ⟨rfl, rfl⟩ ⟨Nat.le_of_ble_eq_true rfl, Nat.le_of_ble_eq_true rfl⟩ rfl hl.1 (Nat.le_of_ble_eq_true rfl) dX7_multiply_48 ⟨Nat.le_of_ble_eq_true rfl, Nat.le_of_ble_eq_true rfl⟩) hT hS hA [0, 1] [2] rfl rfl rfl (by decide) (by decide) (fun r18 H locs hB J hS => ?_)
              have hT1 := hB
              have hT := J _ hT1
              have hT : TP D A [(h2, aJ (k 1) 9 anJ), (h0, aJ (k 1) 9 anJ), (h1, aJ (k 1) 900 anJ)] _ := hT
              refine tz_last hx hb hK hT hS 0 rfl (by omega) (fun _ _ => trivial) dX7_multiply_51 (fun H locs hT hS => ?_)
              obtain ⟨v19, e_v19⟩ : ∃ x : Int32, x = y8 + Int32.ofInt 1 := ⟨_, rfl⟩
              have f_v19 := e_v19.symm
              have e_v19 : v19.toInt = y8.toInt + 1 := ai_add e_v19 rfl (show (Int32.ofInt 1).toInt = 1 from (by decide +kernel)) (by omega)
              refine lv_iinc (v := v19) (lv' := [(7, .int v19), (0, .ref h0), (1, .int x1), (2, .ref h1), (3, .int x3), (4, .ref h2), (5, .int x5), (6, .int y3)]) hx hb dX7_multiply_52 hl (k := 7) rfl f_v19 (by decide) rfl (fun ls hl => ?_)
              refine lv_goto (tgt := 13) hx hb dX7_multiply_55 (by decide) ?_
              exact ih13_9 v19 _ _ _ (by omega)  (by omega) (hT.sub [1, 2, 0] (by decide) rfl) hS (lv_sub hl [1, 2, 3, 4, 5, 6, 7, 0] rfl)
        exact lp13_9 ((x5.toInt + (-1) * (0 : Int32).toInt + 1).toNat + 1) (0) _ _ _ (by have := li_0; omega)  (Nat.lt_succ_self _) hT hS (lv_sub hl [1, 2, 3, 4, 5, 6, 7, 0] rfl)
  exact lp3_4 ((x5.toInt + (-1) * (0 : Int32).toInt + 1).toNat + 1) (0) _ _ _ (by have := li_0; omega)  (Nat.lt_succ_self _) hT hS (lv_sub hl [1, 2, 3, 4, 5, 6, 0] rfl)
