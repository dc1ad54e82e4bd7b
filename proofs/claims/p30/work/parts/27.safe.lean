abbrev Rm_cX7_multiply_25255 : Room := { frames := 1, cells := 0, slots := 0, locals := 29 }
abbrev B_cX7_multiply_25255 (D : va_G) (k : Nat → ClassId) (h0 h1 h2 : Nat) (x1 : Int32) (x3 : Int32) (x5 : Int32) (A : Nat → Prop) (H : Heap) : Prop := TP D A [(h0, aJ (k 1) 900 anJ), (h1, aJ (k 1) 36 anJ), (h2, aJ (k 1) 9 anJ)] H
set_option maxHeartbeats 4000000 in
set_option maxRecDepth 100000 in
theorem cX7_multiply_25255 (l : Launch) (D : va_G) (k : Nat → ClassId) (sz : Nat) (h0 h1 h2 : Nat) (x1 : Int32) (x3 : Int32) (x5 : Int32) (b_x1 : 0 ≤ x1.toInt ∧ x1.toInt ≤ 891) (b_x3 : 0 ≤ x3.toInt ∧ x3.toInt ≤ 27) (b_x5 : 1 ≤ x5.toInt ∧ x5.toInt ≤ 3) : Met l yX7_multiply (Cond.code yX7_multiply cX7_multiply 8 none :: uw) Rm_cX7_multiply_25255 (pT D k sz [.ref h0, .int x1, .ref h1, .int x3, .ref h2, .int x5] [(h0, aJ (k 1) 900 anJ), (h1, aJ (k 1) 36 anJ), (h2, aJ (k 1) 9 anJ)]) (qV (B_cX7_multiply_25255 D k h0 h1 h2 x1 x3 x5 (zA [h0, h1, h2] sz)) (zA [h0, h1, h2] sz)) 0 0 (zA [h0, h1, h2] sz) := by
  refine tz_begin (as := [h0, h1, h2]) (Qc := fun A => qV (B_cX7_multiply_25255 D k h0 h1 h2 x1 x3 x5 A) A) (by decide +kernel) rfl (Nat.le_of_ble_eq_true rfl) ?_
  intro p e s m args below meth c ls A Q hx hb hr hml hown hlocks hin hU hK hT hS hA hl hQ
  have hl : lv_has ls 8 [(0, .ref h0), (1, .int x1), (2, .ref h1), (3, .int x3), (4, .ref h2), (5, .int x5)] := hl
  have hT : TP D A [(h0, aJ (k 1) 900 anJ), (h1, aJ (k 1) 36 anJ), (h2, aJ (k 1) 9 anJ)] s.heap := hT
  refine lv_iconst (v := 0) hx hb dX7_multiply_0 (by decide) ?_
  refine lv_istore (lv' := [(6, .int 0), (0, .ref h0), (1, .int x1), (2, .ref h1), (3, .int x3), (4, .ref h2), (5, .int x5)]) hx hb dX7_multiply_1 hl (by decide) rfl (fun ls hl => ?_)
  have lp3_4 : ∀ (n : Nat) (y3 : Int32) (H : Heap) (locs : List Loc) (ls : Array Slot), (0 ≤ y3.toInt ∧ y3.toInt ≤ 3) → (x5.toInt + (-1) * y3.toInt + 1).toNat < n → TP D A [(h0, aJ (k 1) 900 anJ), (h1, aJ (k 1) 36 anJ), (h2, aJ (k 1) 9 anJ)] H → va_S A s.heap H locs → lv_has ls 8 [(0, .ref h0), (1, .int x1), (2, .ref h1), (3, .int x3), (4, .ref h2), (5, .int x5), (6, .int y3)] → W p l e Rm_cX7_multiply_25255 s m args below meth c H locs 0 0 Q (F0 m 3 ls []) := by
    intro n
    induction n with
    | zero => intro y3 H locs ls b_y3 hm hT hS hl; exact absurd hm (Nat.not_lt_zero _)
    | succ n ih =>
      intro y3 H locs ls b_y3 hm hT hS hl
      have ih3_4 := ih
      clear ih
      refine lv_iload hx hb dX7_multiply_3 (lv_at hl 6 rfl) ?_
      refine lv_iload hx hb dX7_multiply_5 (lv_at hl 5 rfl) ?_
      refine lv_icmp_ge (tgt := 64) hx hb dX7_multiply_7 (by decide) (fun c_5 => ?_) (fun c_5 => ?_)
      · skip
        have c_5 := ni_le c_5 rfl rfl
        exact tz_retV (B := B_cX7_multiply_25255 D k h0 h1 h2 x1 x3 x5) hQ hx hb hr hlocks hS (Nat.le_of_ble_eq_true rfl) (Nat.le_of_ble_eq_true rfl) dX7_multiply_64 (hT)
      · skip
        have c_5 := ni_nle c_5 rfl rfl
        refine lv_iconst (v := 0) hx hb dX7_multiply_10 (by decide) ?_
        refine lv_istore (lv' := [(7, .int 0), (0, .ref h0), (1, .int x1), (2, .ref h1), (3, .int x3), (4, .ref h2), (5, .int x5), (6, .int y3)]) hx hb dX7_multiply_11 hl (by decide) rfl (fun ls hl => ?_)
        have lp13_9 : ∀ (n : Nat) (y8 : Int32) (H : Heap) (locs : List Loc) (ls : Array Slot), (0 ≤ y8.toInt ∧ y8.toInt ≤ 3) → (x5.toInt + (-1) * y8.toInt + 1).toNat < n → TP D A [(h0, aJ (k 1) 900 anJ), (h1, aJ (k 1) 36 anJ), (h2, aJ (k 1) 9 anJ)] H → va_S A s.heap H locs → lv_has ls 8 [(0, .ref h0), (1, .int x1), (2, .ref h1), (3, .int x3), (4, .ref h2), (5, .int x5), (6, .int y3), (7, .int y8)] → W p l e Rm_cX7_multiply_25255 s m args below meth c H locs 0 0 Q (F0 m 13 ls []) := by
          intro n
          induction n with
          | zero => intro y8 H locs ls b_y8 hm hT hS hl; exact absurd hm (Nat.not_lt_zero _)
          | succ n ih =>
            intro y8 H locs ls b_y8 hm hT hS hl
            have ih13_9 := ih
            clear ih
            refine lv_iload hx hb dX7_multiply_13 (lv_at hl 7 rfl) ?_
            refine lv_iload hx hb dX7_multiply_15 (lv_at hl 5 rfl) ?_
            refine lv_icmp_ge (tgt := 58) hx hb dX7_multiply_17 (by decide) (fun c_10 => ?_) (fun c_10 => ?_)
            · skip
              have c_10 := ni_le c_10 rfl rfl
              obtain ⟨v11, e_v11⟩ : ∃ x : Int32, x = y3 + Int32.ofInt 1 := ⟨_, rfl⟩
              have f_v11 := e_v11.symm
              have e_v11 : v11.toInt = y3.toInt + 1 := ai_add e_v11 rfl (show (Int32.ofInt 1).toInt = 1 from (by decide +kernel)) (by omega)
              refine lv_iinc (v := v11) (lv' := [(6, .int v11), (0, .ref h0), (1, .int x1), (2, .ref h1), (3, .int x3), (4, .ref h2), (5, .int x5), (7, .int y8)]) hx hb dX7_multiply_58 hl (k := 6) rfl f_v11 (by decide) rfl (fun ls hl => ?_)
              refine lv_goto (tgt := 3) hx hb dX7_multiply_61 (by decide) ?_
              exact ih3_4 v11 _ _ _ (by omega)  (by omega) hT hS (lv_sub hl [1, 2, 3, 4, 5, 6, 0] rfl)
            · skip
              have c_10 := ni_nle c_10 rfl rfl
              refine lv_aload hx hb dX7_multiply_20 (lv_at hl 4 rfl) ?_
              refine lv_iload hx hb dX7_multiply_22 (lv_at hl 6 rfl) ?_
              refine lv_iload hx hb dX7_multiply_24 (lv_at hl 5 rfl) ?_
              refine lv_imul hx hb dX7_multiply_26 (lv_topi (fun v12 e_v12 => ?_))
              have e_v12 := ai_mm (la := 0) (ua := 2) (lb := 1) (ub := 3) e_v12 rfl rfl (by omega) (by decide)
              refine lv_iload hx hb dX7_multiply_27 (lv_at hl 7 rfl) ?_
              refine lv_iadd hx hb dX7_multiply_29 (lv_topi (fun v13 e_v13 => ?_))
              have e_v13 := ai_add e_v13 rfl rfl (by omega)
              refine lv_aload_n hx hb dX7_multiply_30 rfl (lv_at hl 0 rfl) ?_
              refine lv_iload_n hx hb dX7_multiply_31 rfl (lv_at hl 1 rfl) ?_
              refine lv_iload hx hb dX7_multiply_32 (lv_at hl 6 rfl) ?_
              refine lv_iload hx hb dX7_multiply_34 (lv_at hl 5 rfl) ?_
              refine lv_imul hx hb dX7_multiply_36 (lv_topi (fun v14 e_v14 => ?_))
              have e_v14 := ai_mm (la := 0) (ua := 2) (lb := 1) (ub := 3) e_v14 rfl rfl (by omega) (by decide)
              refine lv_iadd hx hb dX7_multiply_37 (lv_topi (fun v15 e_v15 => ?_))
              have e_v15 := ai_add e_v15 rfl rfl (by omega)
              refine lv_iconst (v := 1) hx hb dX7_multiply_38 (by decide) ?_
              refine lv_aload_n hx hb dX7_multiply_39 rfl (lv_at hl 2 rfl) ?_
              refine lv_iload_n hx hb dX7_multiply_40 rfl (lv_at hl 3 rfl) ?_
              refine lv_iload hx hb dX7_multiply_41 (lv_at hl 7 rfl) ?_
              refine lv_iadd hx hb dX7_multiply_43 (lv_topi (fun v16 e_v16 => ?_))
              have e_v16 := ai_add e_v16 rfl rfl (by omega)
              refine lv_iload hx hb dX7_multiply_44 (lv_at hl 5 rfl) ?_
              refine lv_iload hx hb dX7_multiply_46 (lv_at hl 5 rfl) ?_
              refine tcL (Tc := [(h0, aJ (k 1) 900 anJ), (h1, aJ (k 1) 36 anJ)]) (Tr := [(h2, aJ (k 1) 9 anJ)]) (as := [h0, h1]) (zcS (As := [.ref h0, .int v15, .int 1, .ref h1, .int v16, .int x5, .int x5]) (rest := [.int v13, .ref h2]) (Tc := [(h0, aJ (k 1) 900 anJ), (h1, aJ (k 1) 36 anJ)]) hx hb hml hown hU hK hT [0, 1] rfl (by decide) (cX7_addUp_cbf42 l D k _ h0 h1 v15 v16 x5 x5 (by omega) (by omega) (by omega) (by omega)) w366 w364 w365 w74 hdX7_addUp ⟨rfl, rfl⟩ ⟨Nat.le_of_ble_eq_true rfl, Nat.le_of_ble_eq_true rfl⟩ rfl hl.1 (Nat.le_of_ble_eq_true rfl) dX7_multiply_48 ⟨Nat.le_of_ble_eq_true rfl, Nat.le_of_ble_eq_true rfl⟩) hT hS hA [0, 1] [2] rfl rfl rfl (by decide) (by decide) (fun r17 H locs hB J hS => ?_)
              have hT1 := hB
              have hT := J _ hT1
              have hT : TP D A [(h2, aJ (k 1) 9 anJ), (h0, aJ (k 1) 900 anJ), (h1, aJ (k 1) 36 anJ)] H := hT
              refine tz_last hx hb hK hT hS 0 rfl (by omega) (fun _ _ => trivial) dX7_multiply_51 (fun H locs hT hS => ?_)
              obtain ⟨v18, e_v18⟩ : ∃ x : Int32, x = y8 + Int32.ofInt 1 := ⟨_, rfl⟩
              have f_v18 := e_v18.symm
              have e_v18 : v18.toInt = y8.toInt + 1 := ai_add e_v18 rfl (show (Int32.ofInt 1).toInt = 1 from (by decide +kernel)) (by omega)
              refine lv_iinc (v := v18) (lv' := [(7, .int v18), (0, .ref h0), (1, .int x1), (2, .ref h1), (3, .int x3), (4, .ref h2), (5, .int x5), (6, .int y3)]) hx hb dX7_multiply_52 hl (k := 7) rfl f_v18 (by decide) rfl (fun ls hl => ?_)
              refine lv_goto (tgt := 13) hx hb dX7_multiply_55 (by decide) ?_
              exact ih13_9 v18 _ _ _ (by omega)  (by omega) (hT.sub [1, 2, 0] (by decide) rfl) hS (lv_sub hl [1, 2, 3, 4, 5, 6, 7, 0] rfl)
        exact lp13_9 ((x5.toInt + (-1) * (0 : Int32).toInt + 1).toNat + 1) (0) _ _ _ (by have := li_0; omega)  (Nat.lt_succ_self _) hT hS (lv_sub hl [1, 2, 3, 4, 5, 6, 7, 0] rfl)
  exact lp3_4 ((x5.toInt + (-1) * (0 : Int32).toInt + 1).toNat + 1) (0) _ _ _ (by have := li_0; omega)  (Nat.lt_succ_self _) hT hS (lv_sub hl [1, 2, 3, 4, 5, 6, 0] rfl)
abbrev Rm_cX7_addUp_b1f7d : Room := { frames := 0, cells := 0, slots := 0, locals := 0 }
abbrev B_cX7_addUp_b1f7d (D : va_G) (k : Nat → ClassId) (h0 h1 : Nat) (x1 : Int32) (x4 : Int32) (x5 : Int32) (x6 : Int32) (A : Nat → Prop) (r : Int64) (H : Heap) : Prop := TP D A [(h0, aJ (k 1) 36 anJ), (h1, aJ (k 1) 900 anJ)] H
set_option maxHeartbeats 4000000 in
set_option maxRecDepth 100000 in
theorem cX7_addUp_b1f7d (l : Launch) (D : va_G) (k : Nat → ClassId) (sz : Nat) (h0 h1 : Nat) (x1 : Int32) (x4 : Int32) (x5 : Int32) (x6 : Int32) (b_x1 : 0 ≤ x1.toInt ∧ x1.toInt ≤ 33) (b_x4 : 0 ≤ x4.toInt ∧ x4.toInt ≤ 893) (b_x5 : 1 ≤ x5.toInt ∧ x5.toInt ≤ 3) (b_x6 : 1 ≤ x6.toInt ∧ x6.toInt ≤ 3) : Met l yX7_addUp (Cond.code yX7_addUp cX7_addUp 10 (some .long) :: uw) Rm_cX7_addUp_b1f7d (pT D k sz [.ref h0, .int x1, .int 1, .ref h1, .int x4, .int x5, .int x6] [(h0, aJ (k 1) 36 anJ), (h1, aJ (k 1) 900 anJ)]) (qL (B_cX7_addUp_b1f7d D k h0 h1 x1 x4 x5 x6 (zA [h0, h1] sz)) (zA [h0, h1] sz)) 0 0 (zA [h0, h1] sz) := by
  refine tz_begin (as := [h0, h1]) (Qc := fun A => qL (B_cX7_addUp_b1f7d D k h0 h1 x1 x4 x5 x6 A) A) (by decide +kernel) rfl (Nat.le_of_ble_eq_true rfl) ?_
  intro p e s m args below meth c ls A Q hx hb hr hml hown hlocks hin hU hK hT hS hA hl hQ
  have hl : lv_has ls 10 [(0, .ref h0), (1, .int x1), (2, .int 1), (3, .ref h1), (4, .int x4), (5, .int x5), (6, .int x6)] := hl
  have hT : TP D A [(h0, aJ (k 1) 36 anJ), (h1, aJ (k 1) 900 anJ)] s.heap := hT
  refine lv_lconst (v := 0) hx hb dX7_addUp_0 (by decide) ?_
  refine lv_lstore (lv' := [(7, .long 0), (0, .ref h0), (1, .int x1), (2, .int 1), (3, .ref h1), (4, .int x4), (5, .int x5), (6, .int x6)]) hx hb dX7_addUp_1 hl (by decide) rfl (fun ls hl => ?_)
  refine lv_iconst (v := 0) hx hb dX7_addUp_3 (by decide) ?_
  refine lv_istore (lv' := [(9, .int 0), (7, .long 0), (0, .ref h0), (1, .int x1), (2, .int 1), (3, .ref h1), (4, .int x4), (5, .int x5), (6, .int x6)]) hx hb dX7_addUp_4 hl (by decide) rfl (fun ls hl => ?_)
  have lp6_7 : ∀ (n : Nat) (y5 : Int32) (y6 : Int64) (H : Heap) (locs : List Loc) (ls : Array Slot), (0 ≤ y5.toInt ∧ y5.toInt ≤ 3) → (x6.toInt + (-1) * y5.toInt + 1).toNat < n → TP D A [(h0, aJ (k 1) 36 anJ), (h1, aJ (k 1) 900 anJ)] H → va_S A s.heap H locs → lv_has ls 10 [(0, .ref h0), (1, .int x1), (2, .int 1), (3, .ref h1), (4, .int x4), (5, .int x5), (6, .int x6), (7, .long y6), (9, .int y5)] → W p l e Rm_cX7_addUp_b1f7d s m args below meth c H locs 0 0 Q (F0 m 6 ls []) := by
    intro n
    induction n with
    | zero => intro y5 y6 H locs ls b_y5 hm hT hS hl; exact absurd hm (Nat.not_lt_zero _)
    | succ n ih =>
      intro y5 y6 H locs ls b_y5 hm hT hS hl
      have ih6_7 := ih
      clear ih
      refine lv_iload hx hb dX7_addUp_6 (lv_at hl 8 rfl) ?_
      refine lv_iload hx hb dX7_addUp_8 (lv_at hl 6 rfl) ?_
      refine lv_icmp_ge (tgt := 43) hx hb dX7_addUp_10 (by decide) (fun c_8 => ?_) (fun c_8 => ?_)
      · skip
        have c_8 := ni_le c_8 rfl rfl
        refine lv_lload hx hb dX7_addUp_43 (lv_at hl 7 rfl) ?_
        exact tz_retL (B := B_cX7_addUp_b1f7d D k h0 h1 x1 x4 x5 x6) (v := y6) hQ hx hb hr hlocks hS (Nat.le_of_ble_eq_true rfl) (Nat.le_of_ble_eq_true rfl) dX7_addUp_45 (hT)
      · skip
        have c_8 := ni_nle c_8 rfl rfl
        refine lv_lload hx hb dX7_addUp_13 (lv_at hl 7 rfl) ?_
        refine lv_aload_n hx hb dX7_addUp_15 rfl (lv_at hl 0 rfl) ?_
        refine lv_iload_n hx hb dX7_addUp_16 rfl (lv_at hl 1 rfl) ?_
        refine lv_iload hx hb dX7_addUp_17 (lv_at hl 8 rfl) ?_
        refine lv_iload_n hx hb dX7_addUp_19 rfl (lv_at hl 2 rfl) ?_
        refine lv_imul hx hb dX7_addUp_20 (lv_topi (fun v9 e_v9 => ?_))
        have e_v9 := ai_mul e_v9 rfl li_1 (by omega)
        refine lv_iadd hx hb dX7_addUp_21 (lv_topi (fun v10 e_v10 => ?_))
        have e_v10 := ai_add e_v10 rfl rfl (by omega)
        refine tz_lald hx hb hK hT 0 rfl (by omega) dX7_addUp_22 (fun v11 e_v11 => ?_)
        clear e_v11
        refine lv_aload_n hx hb dX7_addUp_23 rfl (lv_at hl 3 rfl) ?_
        refine lv_iload hx hb dX7_addUp_24 (lv_at hl 4 rfl) ?_
        refine lv_iload hx hb dX7_addUp_26 (lv_at hl 8 rfl) ?_
        refine lv_iload hx hb dX7_addUp_28 (lv_at hl 5 rfl) ?_
        refine lv_imul hx hb dX7_addUp_30 (lv_topi (fun v12 e_v12 => ?_))
        have e_v12 := ai_mm (la := 0) (ua := 2) (lb := 1) (ub := 3) e_v12 rfl rfl (by omega) (by decide)
        refine lv_iadd hx hb dX7_addUp_31 (lv_topi (fun v13 e_v13 => ?_))
        have e_v13 := ai_add e_v13 rfl rfl (by omega)
        refine tz_lald hx hb hK hT 1 rfl (by omega) dX7_addUp_32 (fun v14 e_v14 => ?_)
        clear e_v14
        refine lv_lmul hx hb dX7_addUp_33 (lv_topl (fun v15 e_v15 => ?_))
        refine lv_ladd hx hb dX7_addUp_34 (lv_topl (fun v16 e_v16 => ?_))
        refine lv_lstore (lv' := [(7, .long v16), (0, .ref h0), (1, .int x1), (2, .int 1), (3, .ref h1), (4, .int x4), (5, .int x5), (6, .int x6), (9, .int y5)]) hx hb dX7_addUp_35 hl (by decide) rfl (fun ls hl => ?_)
        obtain ⟨v17, e_v17⟩ : ∃ x : Int32, x = y5 + Int32.ofInt 1 := ⟨_, rfl⟩
        have f_v17 := e_v17.symm
        have e_v17 : v17.toInt = y5.toInt + 1 := ai_add e_v17 rfl (show (Int32.ofInt 1).toInt = 1 from (by decide +kernel)) (by omega)
        refine lv_iinc (v := v17) (lv' := [(9, .int v17), (7, .long v16), (0, .ref h0), (1, .int x1), (2, .int 1), (3, .ref h1), (4, .int x4), (5, .int x5), (6, .int x6)]) hx hb dX7_addUp_37 hl (k := 8) rfl f_v17 (by decide) rfl (fun ls hl => ?_)
        refine lv_goto (tgt := 6) hx hb dX7_addUp_40 (by decide) ?_
        exact ih6_7 v17 v16 _ _ _ (by omega)  (by omega) hT hS (lv_sub hl [2, 3, 4, 5, 6, 7, 8, 1, 0] rfl)
  exact lp6_7 ((x6.toInt + (-1) * (0 : Int32).toInt + 1).toNat + 1) (0) (0) _ _ _ (by have := li_0; have := ll_0; omega)  (Nat.lt_succ_self _) hT hS (lv_sub hl [2, 3, 4, 5, 6, 7, 8, 1, 0] rfl)
abbrev Rm_cX7_multiply_e140e : Room := { frames := 1, cells := 0, slots := 0, locals := 29 }
abbrev B_cX7_multiply_e140e (D : va_G) (k : Nat → ClassId) (h0 h1 h2 : Nat) (x1 : Int32) (x3 : Int32) (x5 : Int32) (A : Nat → Prop) (H : Heap) : Prop := TP D A [(h0, aJ (k 1) 36 anJ), (h1, aJ (k 1) 900 anJ), (h2, aJ (k 1) 9 anJ)] H
set_option maxHeartbeats 4000000 in
set_option maxRecDepth 100000 in
theorem cX7_multiply_e140e (l : Launch) (D : va_G) (k : Nat → ClassId) (sz : Nat) (h0 h1 h2 : Nat) (x1 : Int32) (x3 : Int32) (x5 : Int32) (b_x1 : 0 ≤ x1.toInt ∧ x1.toInt ≤ 27) (b_x3 : 0 ≤ x3.toInt ∧ x3.toInt ≤ 891) (b_x5 : 1 ≤ x5.toInt ∧ x5.toInt ≤ 3) : Met l yX7_multiply (Cond.code yX7_multiply cX7_multiply 8 none :: uw) Rm_cX7_multiply_e140e (pT D k sz [.ref h0, .int x1, .ref h1, .int x3, .ref h2, .int x5] [(h0, aJ (k 1) 36 anJ), (h1, aJ (k 1) 900 anJ), (h2, aJ (k 1) 9 anJ)]) (qV (B_cX7_multiply_e140e D k h0 h1 h2 x1 x3 x5 (zA [h0, h1, h2] sz)) (zA [h0, h1, h2] sz)) 0 0 (zA [h0, h1, h2] sz) := by
  refine tz_begin (as := [h0, h1, h2]) (Qc := fun A => qV (B_cX7_multiply_e140e D k h0 h1 h2 x1 x3 x5 A) A) (by decide +kernel) rfl (Nat.le_of_ble_eq_true rfl) ?_
  intro p e s m args below meth c ls A Q hx hb hr hml hown hlocks hin hU hK hT hS hA hl hQ
  have hl : lv_has ls 8 [(0, .ref h0), (1, .int x1), (2, .ref h1), (3, .int x3), (4, .ref h2), (5, .int x5)] := hl
  have hT : TP D A [(h0, aJ (k 1) 36 anJ), (h1, aJ (k 1) 900 anJ), (h2, aJ (k 1) 9 anJ)] s.heap := hT
  refine lv_iconst (v := 0) hx hb dX7_multiply_0 (by decide) ?_
  refine lv_istore (lv' := [(6, .int 0), (0, .ref h0), (1, .int x1), (2, .ref h1), (3, .int x3), (4, .ref h2), (5, .int x5)]) hx hb dX7_multiply_1 hl (by decide) rfl (fun ls hl => ?_)
  have lp3_4 : ∀ (n : Nat) (y3 : Int32) (H : Heap) (locs : List Loc) (ls : Array Slot), (0 ≤ y3.toInt ∧ y3.toInt ≤ 3) → (x5.toInt + (-1) * y3.toInt + 1).toNat < n → TP D A [(h0, aJ (k 1) 36 anJ), (h1, aJ (k 1) 900 anJ), (h2, aJ (k 1) 9 anJ)] H → va_S A s.heap H locs → lv_has ls 8 [(0, .ref h0), (1, .int x1), (2, .ref h1), (3, .int x3), (4, .ref h2), (5, .int x5), (6, .int y3)] → W p l e Rm_cX7_multiply_e140e s m args below meth c H locs 0 0 Q (F0 m 3 ls []) := by
    intro n
    induction n with
    | zero => intro y3 H locs ls b_y3 hm hT hS hl; exact absurd hm (Nat.not_lt_zero _)
    | succ n ih =>
      intro y3 H locs ls b_y3 hm hT hS hl
      have ih3_4 := ih
      clear ih
      refine lv_iload hx hb dX7_multiply_3 (lv_at hl 6 rfl) ?_
      refine lv_iload hx hb dX7_multiply_5 (lv_at hl 5 rfl) ?_
      refine lv_icmp_ge (tgt := 64) hx hb dX7_multiply_7 (by decide) (fun c_5 => ?_) (fun c_5 => ?_)
      · skip
        have c_5 := ni_le c_5 rfl rfl
        exact tz_retV (B := B_cX7_multiply_e140e D k h0 h1 h2 x1 x3 x5) hQ hx hb hr hlocks hS (Nat.le_of_ble_eq_true rfl) (Nat.le_of_ble_eq_true rfl) dX7_multiply_64 (hT)
      · skip
        have c_5 := ni_nle c_5 rfl rfl
        refine lv_iconst (v := 0) hx hb dX7_multiply_10 (by decide) ?_
        refine lv_istore (lv' := [(7, .int 0), (0, .ref h0), (1, .int x1), (2, .ref h1), (3, .int x3), (4, .ref h2), (5, .int x5), (6, .int y3)]) hx hb dX7_multiply_11 hl (by decide) rfl (fun ls hl => ?_)
        have lp13_9 : ∀ (n : Nat) (y8 : Int32) (H : Heap) (locs : List Loc) (ls : Array Slot), (0 ≤ y8.toInt ∧ y8.toInt ≤ 3) → (x5.toInt + (-1) * y8.toInt + 1).toNat < n → TP D A [(h0, aJ (k 1) 36 anJ), (h1, aJ (k 1) 900 anJ), (h2, aJ (k 1) 9 anJ)] H → va_S A s.heap H locs → lv_has ls 8 [(0, .ref h0), (1, .int x1), (2, .ref h1), (3, .int x3), (4, .ref h2), (5, .int x5), (6, .int y3), (7, .int y8)] → W p l e Rm_cX7_multiply_e140e s m args below meth c H locs 0 0 Q (F0 m 13 ls []) := by
          intro n
          induction n with
          | zero => intro y8 H locs ls b_y8 hm hT hS hl; exact absurd hm (Nat.not_lt_zero _)
          | succ n ih =>
            intro y8 H locs ls b_y8 hm hT hS hl
            have ih13_9 := ih
            clear ih
            refine lv_iload hx hb dX7_multiply_13 (lv_at hl 7 rfl) ?_
            refine lv_iload hx hb dX7_multiply_15 (lv_at hl 5 rfl) ?_
            refine lv_icmp_ge (tgt := 58) hx hb dX7_multiply_17 (by decide) (fun c_10 => ?_) (fun c_10 => ?_)
            · skip
              have c_10 := ni_le c_10 rfl rfl
              obtain ⟨v11, e_v11⟩ : ∃ x : Int32, x = y3 + Int32.ofInt 1 := ⟨_, rfl⟩
              have f_v11 := e_v11.symm
              have e_v11 : v11.toInt = y3.toInt + 1 := ai_add e_v11 rfl (show (Int32.ofInt 1).toInt = 1 from (by decide +kernel)) (by omega)
              refine lv_iinc (v := v11) (lv' := [(6, .int v11), (0, .ref h0), (1, .int x1), (2, .ref h1), (3, .int x3), (4, .ref h2), (5, .int x5), (7, .int y8)]) hx hb dX7_multiply_58 hl (k := 6) rfl f_v11 (by decide) rfl (fun ls hl => ?_)
              refine lv_goto (tgt := 3) hx hb dX7_multiply_61 (by decide) ?_
              exact ih3_4 v11 _ _ _ (by omega)  (by omega) hT hS (lv_sub hl [1, 2, 3, 4, 5, 6, 0] rfl)
            · skip
              have c_10 := ni_nle c_10 rfl rfl
              refine lv_aload hx hb dX7_multiply_20 (lv_at hl 4 rfl) ?_
              refine lv_iload hx hb dX7_multiply_22 (lv_at hl 6 rfl) ?_
              refine lv_iload hx hb dX7_multiply_24 (lv_at hl 5 rfl) ?_
              refine lv_imul hx hb dX7_multiply_26 (lv_topi (fun v12 e_v12 => ?_))
              have e_v12 := ai_mm (la := 0) (ua := 2) (lb := 1) (ub := 3) e_v12 rfl rfl (by omega) (by decide)
              refine lv_iload hx hb dX7_multiply_27 (lv_at hl 7 rfl) ?_
              refine lv_iadd hx hb dX7_multiply_29 (lv_topi (fun v13 e_v13 => ?_))
              have e_v13 := ai_add e_v13 rfl rfl (by omega)
              refine lv_aload_n hx hb dX7_multiply_30 rfl (lv_at hl 0 rfl) ?_
              refine lv_iload_n hx hb dX7_multiply_31 rfl (lv_at hl 1 rfl) ?_
              refine lv_iload hx hb dX7_multiply_32 (lv_at hl 6 rfl) ?_
              refine lv_iload hx hb dX7_multiply_34 (lv_at hl 5 rfl) ?_
              refine lv_imul hx hb dX7_multiply_36 (lv_topi (fun v14 e_v14 => ?_))
              have e_v14 := ai_mm (la := 0) (ua := 2) (lb := 1) (ub := 3) e_v14 rfl rfl (by omega) (by decide)
              refine lv_iadd hx hb dX7_multiply_37 (lv_topi (fun v15 e_v15 => ?_))
              have e_v15 := ai_add e_v15 rfl rfl (by omega)
              refine lv_iconst (v := 1) hx hb dX7_multiply_38 (by decide) ?_
              refine lv_aload_n hx hb dX7_multiply_39 rfl (lv_at hl 2 rfl) ?_
              refine lv_iload_n hx hb dX7_multiply_40 rfl (lv_at hl 3 rfl) ?_
              refine lv_iload hx hb dX7_multiply_41 (lv_at hl 7 rfl) ?_
              refine lv_iadd hx hb dX7_multiply_43 (lv_topi (fun v16 e_v16 => ?_))
              have e_v16 := ai_add e_v16 rfl rfl (by omega)
              refine lv_iload hx hb dX7_multiply_44 (lv_at hl 5 rfl) ?_
              refine lv_iload hx hb dX7_multiply_46 (lv_at hl 5 rfl) ?_
              refine tcL (Tc := [(h0, aJ (k 1) 36 anJ), (h1, aJ (k 1) 900 anJ)]) (Tr := [(h2, aJ (k 1) 9 anJ)]) (as := [h0, h1]) (zcS (As := [.ref h0, .int v15, .int 1, .ref h1, .int v16, .int x5, .int x5]) (rest := [.int v13, .ref h2]) (Tc := [(h0, aJ (k 1) 36 anJ), (h1, aJ (k 1) 900 anJ)]) hx hb hml hown hU hK hT [0, 1] rfl (by decide) (cX7_addUp_b1f7d l D k _ h0 h1 v15 v16 x5 x5 (by omega) (by omega) (by omega) (by omega)) w366 w364 w365 w74 hdX7_addUp ⟨rfl, rfl⟩ ⟨Nat.le_of_ble_eq_true rfl, Nat.le_of_ble_eq_true rfl⟩ rfl hl.1 (Nat.le_of_ble_eq_true rfl) dX7_multiply_48 ⟨Nat.le_of_ble_eq_true rfl, Nat.le_of_ble_eq_true rfl⟩) hT hS hA [0, 1] [2] rfl rfl rfl (by decide) (by decide) (fun r17 H locs hB J hS => ?_)
              have hT1 := hB
              have hT := J _ hT1
              have hT : TP D A [(h2, aJ (k 1) 9 anJ), (h0, aJ (k 1) 36 anJ), (h1, aJ (k 1) 900 anJ)] H := hT
              refine tz_last hx hb hK hT hS 0 rfl (by omega) (fun _ _ => trivial) dX7_multiply_51 (fun H locs hT hS => ?_)
              obtain ⟨v18, e_v18⟩ : ∃ x : Int32, x = y8 + Int32.ofInt 1 := ⟨_, rfl⟩
              have f_v18 := e_v18.symm
              have e_v18 : v18.toInt = y8.toInt + 1 := ai_add e_v18 rfl (show (Int32.ofInt 1).toInt = 1 from (by decide +kernel)) (by omega)
              refine lv_iinc (v := v18) (lv' := [(7, .int v18), (0, .ref h0), (1, .int x1), (2, .ref h1), (3, .int x3), (4, .ref h2), (5, .int x5), (6, .int y3)]) hx hb dX7_multiply_52 hl (k := 7) rfl f_v18 (by decide) rfl (fun ls hl => ?_)
              refine lv_goto (tgt := 13) hx hb dX7_multiply_55 (by decide) ?_
              exact ih13_9 v18 _ _ _ (by omega)  (by omega) (hT.sub [1, 2, 0] (by decide) rfl) hS (lv_sub hl [1, 2, 3, 4, 5, 6, 7, 0] rfl)
        exact lp13_9 ((x5.toInt + (-1) * (0 : Int32).toInt + 1).toNat + 1) (0) _ _ _ (by have := li_0; omega)  (Nat.lt_succ_self _) hT hS (lv_sub hl [1, 2, 3, 4, 5, 6, 7, 0] rfl)
  exact lp3_4 ((x5.toInt + (-1) * (0 : Int32).toInt + 1).toNat + 1) (0) _ _ _ (by have := li_0; omega)  (Nat.lt_succ_self _) hT hS (lv_sub hl [1, 2, 3, 4, 5, 6, 0] rfl)
abbrev Rm_cX7_areAlike_339bc : Room := { frames := 0, cells := 0, slots := 0, locals := 0 }
abbrev B_cX7_areAlike_339bc (D : va_G) (k : Nat → ClassId) (h0 h1 : Nat) (x2 : Int32) (A : Nat → Prop) (r : Int32) (H : Heap) : Prop := (0 ≤ r.toInt ∧ r.toInt ≤ 1) ∧ TP D A [(h0, aJ (k 1) 9 anJ), (h1, aJ (k 1) 9 anJ)] H
set_option maxHeartbeats 4000000 in
set_option maxRecDepth 100000 in
theorem cX7_areAlike_339bc (l : Launch) (D : va_G) (k : Nat → ClassId) (sz : Nat) (h0 h1 : Nat) (x2 : Int32) (b_x2 : 1 ≤ x2.toInt ∧ x2.toInt ≤ 9) : Met l yX7_areAlike (Cond.code yX7_areAlike cX7_areAlike 4 (some .boolean) :: uw) Rm_cX7_areAlike_339bc (pT D k sz [.ref h0, .ref h1, .int x2] [(h0, aJ (k 1) 9 anJ), (h1, aJ (k 1) 9 anJ)]) (qI (B_cX7_areAlike_339bc D k h0 h1 x2 (zA [h0, h1] sz)) (zA [h0, h1] sz)) 0 0 (zA [h0, h1] sz) := by
  refine tz_begin (as := [h0, h1]) (Qc := fun A => qI (B_cX7_areAlike_339bc D k h0 h1 x2 A) A) (by decide +kernel) rfl (Nat.le_of_ble_eq_true rfl) ?_
  intro p e s m args below meth c ls A Q hx hb hr hml hown hlocks hin hU hK hT hS hA hl hQ
  have hl : lv_has ls 4 [(0, .ref h0), (1, .ref h1), (2, .int x2)] := hl
  have hT : TP D A [(h0, aJ (k 1) 9 anJ), (h1, aJ (k 1) 9 anJ)] s.heap := hT
  refine lv_iconst (v := 0) hx hb dX7_areAlike_0 (by decide) ?_
  refine lv_istore_n (lv' := [(3, .int 0), (0, .ref h0), (1, .ref h1), (2, .int x2)]) hx hb dX7_areAlike_1 rfl hl (by decide) rfl (fun ls hl => ?_)
  have lp2_8 : ∀ (n : Nat) (y7 : Int32) (H : Heap) (locs : List Loc) (ls : Array Slot), (0 ≤ y7.toInt ∧ y7.toInt ≤ 9) → (x2.toInt + (-1) * y7.toInt + 1).toNat < n → TP D A [(h0, aJ (k 1) 9 anJ), (h1, aJ (k 1) 9 anJ)] H → va_S A s.heap H locs → lv_has ls 4 [(0, .ref h0), (1, .ref h1), (2, .int x2), (3, .int y7)] → W p l e Rm_cX7_areAlike_339bc s m args below meth c H locs 0 0 Q (F0 m 2 ls []) := by
    intro n
    induction n with
    | zero => intro y7 H locs ls b_y7 hm hT hS hl; exact absurd hm (Nat.not_lt_zero _)
    | succ n ih =>
      intro y7 H locs ls b_y7 hm hT hS hl
      have ih2_8 := ih
      clear ih
      refine lv_iload_n hx hb dX7_areAlike_2 rfl (lv_at hl 3 rfl) ?_
      refine lv_iload_n hx hb dX7_areAlike_3 rfl (lv_at hl 2 rfl) ?_
      refine lv_icmp_ge (tgt := 25) hx hb dX7_areAlike_4 (by decide) (fun c_9 => ?_) (fun c_9 => ?_)
      · skip
        have c_9 := ni_le c_9 rfl rfl
        refine lv_iconst (v := 1) hx hb dX7_areAlike_25 (by decide) ?_
        exact tz_retZ (B := B_cX7_areAlike_339bc D k h0 h1 x2) (v := 1) hQ hx hb hr hlocks hS (Nat.le_of_ble_eq_true rfl) (Nat.le_of_ble_eq_true rfl) dX7_areAlike_26 (by have := li_1; omega) (⟨(by have := li_1; omega), hT⟩)
      · skip
        have c_9 := ni_nle c_9 rfl rfl
        refine lv_aload_n hx hb dX7_areAlike_7 rfl (lv_at hl 0 rfl) ?_
        refine lv_iload_n hx hb dX7_areAlike_8 rfl (lv_at hl 3 rfl) ?_
        refine tz_lald hx hb hK hT 0 rfl (by omega) dX7_areAlike_9 (fun v10 e_v10 => ?_)
        clear e_v10
        refine lv_aload_n hx hb dX7_areAlike_10 rfl (lv_at hl 1 rfl) ?_
        refine lv_iload_n hx hb dX7_areAlike_11 rfl (lv_at hl 3 rfl) ?_
        refine tz_lald hx hb hK hT 1 rfl (by omega) dX7_areAlike_12 (fun v11 e_v11 => ?_)
        clear e_v11
        refine W.lcmp hx hb dX7_areAlike_13 ?_
        refine lv_if_eq (tgt := 19) hx hb dX7_areAlike_14 (by decide) (fun c_12 => ?_) (fun c_12 => ?_)
        · skip
          have c_12 := nl_eq c_12 rfl rfl
          obtain ⟨v13, e_v13⟩ : ∃ x : Int32, x = y7 + Int32.ofInt 1 := ⟨_, rfl⟩
          have f_v13 := e_v13.symm
          have e_v13 : v13.toInt = y7.toInt + 1 := ai_add e_v13 rfl (show (Int32.ofInt 1).toInt = 1 from (by decide +kernel)) (by omega)
          refine lv_iinc (v := v13) (lv' := [(3, .int v13), (0, .ref h0), (1, .ref h1), (2, .int x2)]) hx hb dX7_areAlike_19 hl (k := 3) rfl f_v13 (by decide) rfl (fun ls hl => ?_)
          refine lv_goto (tgt := 2) hx hb dX7_areAlike_22 (by decide) ?_
          exact ih2_8 v13 _ _ _ (by omega)  (by omega) hT hS (lv_sub hl [1, 2, 3, 0] rfl)
        · skip
          have c_12 := nl_ne c_12 rfl rfl
          refine lv_iconst (v := 0) hx hb dX7_areAlike_17 (by decide) ?_
          exact tz_retZ (B := B_cX7_areAlike_339bc D k h0 h1 x2) (v := 0) hQ hx hb hr hlocks hS (Nat.le_of_ble_eq_true rfl) (Nat.le_of_ble_eq_true rfl) dX7_areAlike_18 (by have := li_0; omega) (⟨(by have := li_0; omega), hT⟩)
  exact lp2_8 ((x2.toInt + (-1) * (0 : Int32).toInt + 1).toNat + 1) (0) _ _ _ (by have := li_0; omega)  (Nat.lt_succ_self _) hT hS (lv_sub hl [1, 2, 3, 0] rfl)
abbrev Rm_cX10_isInMiddle_0b500 : Room := { frames := 2, cells := 0, slots := 0, locals := 56 }
abbrev B_cX10_isInMiddle_0b500 (D : va_G) (k : Nat → ClassId) (h0 h1 h5 h11 h12 h13 h21 h2 h3 h4 h6 h7 h8 h9 h10 h22 h23 h24 h25 h26 h27 h28 : Nat) (x1 : Int32) (h0f2 : Int32) (h0f6 : Int32) (h0f8 : Int32) (h0f11 : Int32) (h1f0 : Int32) (h1f1 : Int32) (h1f2 : Int32) (h5f8 : Int32) (h5f9 : Int32) (h5f10 : Int32) (h5f11 : Int32) (A : Nat → Prop) (r : Int32) (H : Heap) : Prop := (0 ≤ r.toInt ∧ r.toInt ≤ 1) ∧ TP D A [(h0, ob 7 [.ref h1, .ref h2, .int h0f2, .ref h3, .ref h4, .ref h5, .int h0f6, .ref h6, .int h0f8, .null, .ref h7, .int h0f11, .ref h8, .ref h9, .ref h10, .ref h11, .ref h12]), (h1, ob 4 [.int h1f0, .int h1f1, .int h1f2, .ref h13]), (h5, ob 3 [.ref h21, .ref h22, .ref h23, .ref h24, .ref h25, .ref h26, .ref h27, .ref h28, .int h5f8, .int h5f9, .int h5f10, .int h5f11]), (h11, aJ (k 1) 9 anJ), (h12, aJ (k 1) 9 anJ), (h13, aJ (k 1) 36 anJ), (h21, aJ (k 1) 900 anJ)] H
set_option maxHeartbeats 4000000 in
set_option maxRecDepth 100000 in
theorem cX10_isInMiddle_0b500 (l : Launch) (D : va_G) (k : Nat → ClassId) (sz : Nat) (h0 h1 h5 h11 h12 h13 h21 h2 h3 h4 h6 h7 h8 h9 h10 h22 h23 h24 h25 h26 h27 h28 : Nat) (x1 : Int32) (h0f2 : Int32) (h0f6 : Int32) (h0f8 : Int32) (h0f11 : Int32) (h1f0 : Int32) (h1f1 : Int32) (h1f2 : Int32) (h5f8 : Int32) (h5f9 : Int32) (h5f10 : Int32) (h5f11 : Int32) (b_x1 : 0 ≤ x1.toInt ∧ x1.toInt ≤ 99) (b_h0f2 : 0 ≤ h0f2.toInt ∧ h0f2.toInt ≤ 1) (b_h0f6 : 1 ≤ h0f6.toInt ∧ h0f6.toInt ≤ 1) (b_h0f8 : 0 ≤ h0f8.toInt ∧ h0f8.toInt ≤ 1) (b_h0f11 : 0 ≤ h0f11.toInt ∧ h0f11.toInt ≤ 200) (b_h1f0 : 1 ≤ h1f0.toInt ∧ h1f0.toInt ≤ 3) (b_h1f1 : 0 ≤ h1f1.toInt ∧ h1f1.toInt ≤ 4) (b_h5f8 : 0 ≤ h5f8.toInt ∧ h5f8.toInt ≤ 9) (b_h5f9 : 0 ≤ h5f9.toInt ∧ h5f9.toInt ≤ 100) (b_h5f10 : 1 ≤ h5f10.toInt ∧ h5f10.toInt ≤ 100) (b_h5f11 : 0 ≤ h5f11.toInt ∧ h5f11.toInt ≤ 1) : Met l yX10_isInMiddle (Cond.code yX10_isInMiddle cX10_isInMiddle 4 (some .boolean) :: uw) Rm_cX10_isInMiddle_0b500 (pT D k sz [.ref h0, .int x1] [(h0, ob 7 [.ref h1, .ref h2, .int h0f2, .ref h3, .ref h4, .ref h5, .int h0f6, .ref h6, .int h0f8, .null, .ref h7, .int h0f11, .ref h8, .ref h9, .ref h10, .ref h11, .ref h12]), (h1, ob 4 [.int h1f0, .int h1f1, .int h1f2, .ref h13]), (h5, ob 3 [.ref h21, .ref h22, .ref h23, .ref h24, .ref h25, .ref h26, .ref h27, .ref h28, .int h5f8, .int h5f9, .int h5f10, .int h5f11]), (h11, aJ (k 1) 9 anJ), (h12, aJ (k 1) 9 anJ), (h13, aJ (k 1) 36 anJ), (h21, aJ (k 1) 900 anJ)]) (qI (B_cX10_isInMiddle_0b500 D k h0 h1 h5 h11 h12 h13 h21 h2 h3 h4 h6 h7 h8 h9 h10 h22 h23 h24 h25 h26 h27 h28 x1 h0f2 h0f6 h0f8 h0f11 h1f0 h1f1 h1f2 h5f8 h5f9 h5f10 h5f11 (zA [h0, h1, h5, h11, h12, h13, h21] sz)) (zA [h0, h1, h5, h11, h12, h13, h21] sz)) 0 0 (zA [h0, h1, h5, h11, h12, h13, h21] sz) := by
  refine tz_begin (as := [h0, h1, h5, h11, h12, h13, h21]) (Qc := fun A => qI (B_cX10_isInMiddle_0b500 D k h0 h1 h5 h11 h12 h13 h21 h2 h3 h4 h6 h7 h8 h9 h10 h22 h23 h24 h25 h26 h27 h28 x1 h0f2 h0f6 h0f8 h0f11 h1f0 h1f1 h1f2 h5f8 h5f9 h5f10 h5f11 A) A) (by decide +kernel) rfl (Nat.le_of_ble_eq_true rfl) ?_
  intro p e s m args below meth c ls A Q hx hb hr hml hown hlocks hin hU hK hT hS hA hl hQ
  have hl : lv_has ls 4 [(0, .ref h0), (1, .int x1)] := hl
  have hT : TP D A [(h0, ob 7 [.ref h1, .ref h2, .int h0f2, .ref h3, .ref h4, .ref h5, .int h0f6, .ref h6, .int h0f8, .null, .ref h7, .int h0f11, .ref h8, .ref h9, .ref h10, .ref h11, .ref h12]), (h1, ob 4 [.int h1f0, .int h1f1, .int h1f2, .ref h13]), (h5, ob 3 [.ref h21, .ref h22, .ref h23, .ref h24, .ref h25, .ref h26, .ref h27, .ref h28, .int h5f8, .int h5f9, .int h5f10, .int h5f11]), (h11, aJ (k 1) 9 anJ), (h12, aJ (k 1) 9 anJ), (h13, aJ (k 1) 36 anJ), (h21, aJ (k 1) 900 anJ)] s.heap := hT
  refine lv_aload_n hx hb dX10_isInMiddle_0 rfl (lv_at hl 0 rfl) ?_
  refine tz_get (ci := 7) (v := .ref h5) (C := RX10) (F := TX10) (N := 17) hx hb hU iX10 hown hK hT 0 rfl rfl 5 (by decide) w254 (fun _ h9 => h9) rfl dX10_isInMiddle_1 ?_
  refine lv_iload_n hx hb dX10_isInMiddle_4 rfl (lv_at hl 1 rfl) ?_
  refine tcI (Tc := [(h5, ob 3 [.ref h21, .ref h22, .ref h23, .ref h24, .ref h25, .ref h26, .ref h27, .ref h28, .int h5f8, .int h5f9, .int h5f10, .int h5f11])]) (Tr := [(h0, ob 7 [.ref h1, .ref h2, .int h0f2, .ref h3, .ref h4, .ref h5, .int h0f6, .ref h6, .int h0f8, .null, .ref h7, .int h0f11, .ref h8, .ref h9, .ref h10, .ref h11, .ref h12]), (h1, ob 4 [.int h1f0, .int h1f1, .int h1f2, .ref h13]), (h11, aJ (k 1) 9 anJ), (h12, aJ (k 1) 9 anJ), (h13, aJ (k 1) 36 anJ), (h21, aJ (k 1) 900 anJ)]) (as := [h5]) (zcV (q0 := 2) (ci := 3) (As := [.int x1]) (rest := []) (Tc := [(h5, ob 3 [.ref h21, .ref h22, .ref h23, .ref h24, .ref h25, .ref h26, .ref h27, .ref h28, .int h5f8, .int h5f9, .int h5f10, .int h5f11])]) hx hb hml hown hU hK hT rfl rfl [2] rfl (by decide) (cX4_start_d01b0 l D k _ h5 h21 h22 h23 h24 h25 h26 h27 h28 x1 h5f8 h5f9 h5f10 h5f11 (by omega) (by omega) (by omega) (by omega) (by omega)) w505 w574 w503 w504 w66 hdX4_start ⟨rfl, rfl⟩ ⟨Nat.le_of_ble_eq_true rfl, Nat.le_of_ble_eq_true rfl⟩ rfl hl.1 (Nat.le_of_ble_eq_true rfl) dX10_isInMiddle_5 ⟨Nat.le_of_ble_eq_true rfl, Nat.le_of_ble_eq_true rfl⟩) hT hS hA [2] [0, 1, 3, 4, 5, 6] rfl rfl rfl (by decide) (by decide) (fun r1 H locs hB J hS => ?_)
  obtain ⟨b_r1, hT1⟩ := hB
  have hT := J _ hT1
  have hT : TP D A [(h0, ob 7 [.ref h1, .ref h2, .int h0f2, .ref h3, .ref h4, .ref h5, .int h0f6, .ref h6, .int h0f8, .null, .ref h7, .int h0f11, .ref h8, .ref h9, .ref h10, .ref h11, .ref h12]), (h1, ob 4 [.int h1f0, .int h1f1, .int h1f2, .ref h13]), (h11, aJ (k 1) 9 anJ), (h12, aJ (k 1) 9 anJ), (h13, aJ (k 1) 36 anJ), (h21, aJ (k 1) 900 anJ), (h5, ob 3 [.ref h21, .ref h22, .ref h23, .ref h24, .ref h25, .ref h26, .ref h27, .ref h28, .int h5f8, .int h5f9, .int h5f10, .int h5f11])] H := hT
  refine lv_istore_n (lv' := [(2, .int r1), (0, .ref h0), (1, .int x1)]) hx hb dX10_isInMiddle_8 rfl hl (by decide) rfl (fun ls hl => ?_)
  refine lv_iconst (v := 0) hx hb dX10_isInMiddle_9 (by decide) ?_
  refine lv_istore_n (lv' := [(3, .int 0), (2, .int r1), (0, .ref h0), (1, .int x1)]) hx hb dX10_isInMiddle_10 rfl hl (by decide) rfl (fun ls hl => ?_)
  have lp11_6 : ∀ (n : Nat) (y5 : Int32) (H : Heap) (locs : List Loc) (ls : Array Slot), (0 ≤ y5.toInt ∧ y5.toInt ≤ 4) → (h1f1.toInt + (-1) * y5.toInt + 1).toNat < n → TP D A [(h0, ob 7 [.ref h1, .ref h2, .int h0f2, .ref h3, .ref h4, .ref h5, .int h0f6, .ref h6, .int h0f8, .null, .ref h7, .int h0f11, .ref h8, .ref h9, .ref h10, .ref h11, .ref h12]), (h1, ob 4 [.int h1f0, .int h1f1, .int h1f2, .ref h13]), (h11, aJ (k 1) 9 anJ), (h12, aJ (k 1) 9 anJ), (h13, aJ (k 1) 36 anJ), (h21, aJ (k 1) 900 anJ), (h5, ob 3 [.ref h21, .ref h22, .ref h23, .ref h24, .ref h25, .ref h26, .ref h27, .ref h28, .int h5f8, .int h5f9, .int h5f10, .int h5f11])] H → va_S A s.heap H locs → lv_has ls 4 [(0, .ref h0), (2, .int r1), (3, .int y5)] → W p l e Rm_cX10_isInMiddle_0b500 s m args below meth c H locs 0 0 Q (F0 m 11 ls []) := by
    intro n
    induction n with
    | zero => intro y5 H locs ls b_y5 hm hT hS hl; exact absurd hm (Nat.not_lt_zero _)
    | succ n ih =>
      intro y5 H locs ls b_y5 hm hT hS hl
      have ih11_6 := ih
      clear ih
      refine lv_iload_n hx hb dX10_isInMiddle_11 rfl (lv_at hl 2 rfl) ?_
      refine lv_aload_n hx hb dX10_isInMiddle_12 rfl (lv_at hl 0 rfl) ?_
      refine tz_get (ci := 7) (v := .ref h1) (C := RX10) (F := TX10) (N := 17) hx hb hU iX10 hown hK hT 0 rfl rfl 0 (by decide) w249 (fun _ h9 => h9) rfl dX10_isInMiddle_13 ?_
      refine tz_get (ci := 4) (v := .int h1f1) (C := RX5) (F := TX5) (N := 4) hx hb hU iX5 hown hK hT 1 rfl rfl 1 (by decide) w97 (fun _ h9 => h9) rfl dX10_isInMiddle_16 ?_
      refine lv_icmp_ge (tgt := 117) hx hb dX10_isInMiddle_19 (by decide) (fun c_7 => ?_) (fun c_7 => ?_)
      · skip
        have c_7 := ni_le c_7 rfl rfl
        refine lv_iconst (v := 1) hx hb dX10_isInMiddle_117 (by decide) ?_
        exact tz_retZ (B := B_cX10_isInMiddle_0b500 D k h0 h1 h5 h11 h12 h13 h21 h2 h3 h4 h6 h7 h8 h9 h10 h22 h23 h24 h25 h26 h27 h28 x1 h0f2 h0f6 h0f8 h0f11 h1f0 h1f1 h1f2 h5f8 h5f9 h5f10 h5f11) (v := 1) hQ hx hb hr hlocks hS (Nat.le_of_ble_eq_true rfl) (Nat.le_of_ble_eq_true rfl) dX10_isInMiddle_118 (by have := li_1; omega) (⟨(by have := li_1; omega), (hT.sub [0, 1, 6, 2, 3, 4, 5] (by decide) rfl)⟩)
      · skip
        have c_7 := ni_nle c_7 rfl rfl
        refine lv_aload_n hx hb dX10_isInMiddle_22 rfl (lv_at hl 0 rfl) ?_
        refine tz_get (ci := 7) (v := .ref h5) (C := RX10) (F := TX10) (N := 17) hx hb hU iX10 hown hK hT 0 rfl rfl 5 (by decide) w254 (fun _ h9 => h9) rfl dX10_isInMiddle_23 ?_
        refine tz_get (ci := 3) (v := .ref h21) (C := RX4) (F := TX4) (N := 12) hx hb hU iX4 hown hK hT 6 rfl rfl 0 (by decide) w150 (fun _ h9 => h9) rfl dX10_isInMiddle_26 ?_
        refine lv_iload_n hx hb dX10_isInMiddle_29 rfl (lv_at hl 1 rfl) ?_
        refine lv_aload_n hx hb dX10_isInMiddle_30 rfl (lv_at hl 0 rfl) ?_
        refine tz_get (ci := 7) (v := .ref h1) (C := RX10) (F := TX10) (N := 17) hx hb hU iX10 hown hK hT 0 rfl rfl 0 (by decide) w249 (fun _ h9 => h9) rfl dX10_isInMiddle_31 ?_
        refine tz_get (ci := 4) (v := .ref h13) (C := RX5) (F := TX5) (N := 4) hx hb hU iX5 hown hK hT 1 rfl rfl 3 (by decide) w103 (fun _ h9 => h9) rfl dX10_isInMiddle_34 ?_
        refine lv_iload_n hx hb dX10_isInMiddle_37 rfl (lv_at hl 2 rfl) ?_
        refine lv_bipush (v := 9) hx hb dX10_isInMiddle_38 (by decide) ?_
        refine lv_imul hx hb dX10_isInMiddle_40 (lv_topi (fun v8 e_v8 => ?_))
        have e_v8 := ai_mul e_v8 rfl li_9 (by omega)
        refine lv_aload_n hx hb dX10_isInMiddle_41 rfl (lv_at hl 0 rfl) ?_
        refine tz_get (ci := 7) (v := .ref h11) (C := RX10) (F := TX10) (N := 17) hx hb hU iX10 hown hK hT 0 rfl rfl 15 (by decide) w264 (fun _ h9 => h9) rfl dX10_isInMiddle_42 ?_
        refine lv_aload_n hx hb dX10_isInMiddle_45 rfl (lv_at hl 0 rfl) ?_
        refine tz_get (ci := 7) (v := .ref h1) (C := RX10) (F := TX10) (N := 17) hx hb hU iX10 hown hK hT 0 rfl rfl 0 (by decide) w249 (fun _ h9 => h9) rfl dX10_isInMiddle_46 ?_
        refine tz_get (ci := 4) (v := .int h1f0) (C := RX5) (F := TX5) (N := 4) hx hb hU iX5 hown hK hT 1 rfl rfl 0 (by decide) w93 (fun _ h9 => h9) rfl dX10_isInMiddle_49 ?_
        refine tcV (Tc := [(h21, aJ (k 1) 900 anJ), (h13, aJ (k 1) 36 anJ), (h11, aJ (k 1) 9 anJ)]) (Tr := [(h0, ob 7 [.ref h1, .ref h2, .int h0f2, .ref h3, .ref h4, .ref h5, .int h0f6, .ref h6, .int h0f8, .null, .ref h7, .int h0f11, .ref h8, .ref h9, .ref h10, .ref h11, .ref h12]), (h1, ob 4 [.int h1f0, .int h1f1, .int h1f2, .ref h13]), (h12, aJ (k 1) 9 anJ), (h5, ob 3 [.ref h21, .ref h22, .ref h23, .ref h24, .ref h25, .ref h26, .ref h27, .ref h28, .int h5f8, .int h5f9, .int h5f10, .int h5f11])]) (as := [h21, h13, h11]) (zcS (As := [.ref h21, .int r1, .ref h13, .int v8, .ref h11, .int h1f0]) (rest := []) (Tc := [(h21, aJ (k 1) 900 anJ), (h13, aJ (k 1) 36 anJ), (h11, aJ (k 1) 9 anJ)]) hx hb hml hown hU hK hT [5, 4, 2] rfl (by decide) (cX7_multiply_25255 l D k _ h21 h13 h11 r1 v8 h1f0 (by omega) (by omega) (by omega)) w363 w361 w362 w74 hdX7_multiply ⟨rfl, rfl⟩ ⟨Nat.le_of_ble_eq_true rfl, Nat.le_of_ble_eq_true rfl⟩ rfl hl.1 (Nat.le_of_ble_eq_true rfl) dX10_isInMiddle_52 ⟨Nat.le_of_ble_eq_true rfl, Nat.le_of_ble_eq_true rfl⟩) hT hS hA [5, 4, 2] [0, 1, 3, 6] rfl rfl rfl (by decide) (by decide) (fun H locs hB J hS => ?_)
        have hT1 := hB
        have hT := J _ hT1
        have hT : TP D A [(h0, ob 7 [.ref h1, .ref h2, .int h0f2, .ref h3, .ref h4, .ref h5, .int h0f6, .ref h6, .int h0f8, .null, .ref h7, .int h0f11, .ref h8, .ref h9, .ref h10, .ref h11, .ref h12]), (h1, ob 4 [.int h1f0, .int h1f1, .int h1f2, .ref h13]), (h12, aJ (k 1) 9 anJ), (h5, ob 3 [.ref h21, .ref h22, .ref h23, .ref h24, .ref h25, .ref h26, .ref h27, .ref h28, .int h5f8, .int h5f9, .int h5f10, .int h5f11]), (h21, aJ (k 1) 900 anJ), (h13, aJ (k 1) 36 anJ), (h11, aJ (k 1) 9 anJ)] H := hT
        refine lv_aload_n hx hb dX10_isInMiddle_55 rfl (lv_at hl 0 rfl) ?_
        refine tz_get (ci := 7) (v := .ref h1) (C := RX10) (F := TX10) (N := 17) hx hb hU iX10 hown hK hT 0 rfl rfl 0 (by decide) w249 (fun _ h9 => h9) rfl dX10_isInMiddle_56 ?_
        refine tz_get (ci := 4) (v := .ref h13) (C := RX5) (F := TX5) (N := 4) hx hb hU iX5 hown hK hT 1 rfl rfl 3 (by decide) w103 (fun _ h9 => h9) rfl dX10_isInMiddle_59 ?_
        refine lv_iload_n hx hb dX10_isInMiddle_62 rfl (lv_at hl 2 rfl) ?_
        refine lv_bipush (v := 9) hx hb dX10_isInMiddle_63 (by decide) ?_
        refine lv_imul hx hb dX10_isInMiddle_65 (lv_topi (fun v10 e_v10 => ?_))
        have e_v10 := ai_mul e_v10 rfl li_9 (by omega)
        refine lv_aload_n hx hb dX10_isInMiddle_66 rfl (lv_at hl 0 rfl) ?_
        refine tz_get (ci := 7) (v := .ref h5) (C := RX10) (F := TX10) (N := 17) hx hb hU iX10 hown hK hT 0 rfl rfl 5 (by decide) w254 (fun _ h9 => h9) rfl dX10_isInMiddle_67 ?_
        refine tz_get (ci := 3) (v := .ref h21) (C := RX4) (F := TX4) (N := 12) hx hb hU iX4 hown hK hT 3 rfl rfl 0 (by decide) w150 (fun _ h9 => h9) rfl dX10_isInMiddle_70 ?_
        refine lv_iload_n hx hb dX10_isInMiddle_73 rfl (lv_at hl 1 rfl) ?_
        refine lv_aload_n hx hb dX10_isInMiddle_74 rfl (lv_at hl 0 rfl) ?_
        refine tz_get (ci := 7) (v := .ref h12) (C := RX10) (F := TX10) (N := 17) hx hb hU iX10 hown hK hT 0 rfl rfl 16 (by decide) w265 (fun _ h9 => h9) rfl dX10_isInMiddle_75 ?_
        refine lv_aload_n hx hb dX10_isInMiddle_78 rfl (lv_at hl 0 rfl) ?_
        refine tz_get (ci := 7) (v := .ref h1) (C := RX10) (F := TX10) (N := 17) hx hb hU iX10 hown hK hT 0 rfl rfl 0 (by decide) w249 (fun _ h9 => h9) rfl dX10_isInMiddle_79 ?_
        refine tz_get (ci := 4) (v := .int h1f0) (C := RX5) (F := TX5) (N := 4) hx hb hU iX5 hown hK hT 1 rfl rfl 0 (by decide) w93 (fun _ h9 => h9) rfl dX10_isInMiddle_82 ?_
        refine tcV (Tc := [(h13, aJ (k 1) 36 anJ), (h21, aJ (k 1) 900 anJ), (h12, aJ (k 1) 9 anJ)]) (Tr := [(h0, ob 7 [.ref h1, .ref h2, .int h0f2, .ref h3, .ref h4, .ref h5, .int h0f6, .ref h6, .int h0f8, .null, .ref h7, .int h0f11, .ref h8, .ref h9, .ref h10, .ref h11, .ref h12]), (h1, ob 4 [.int h1f0, .int h1f1, .int h1f2, .ref h13]), (h5, ob 3 [.ref h21, .ref h22, .ref h23, .ref h24, .ref h25, .ref h26, .ref h27, .ref h28, .int h5f8, .int h5f9, .int h5f10, .int h5f11]), (h11, aJ (k 1) 9 anJ)]) (as := [h13, h21, h12]) (zcS (As := [.ref h13, .int v10, .ref h21, .int r1, .ref h12, .int h1f0]) (rest := []) (Tc := [(h13, aJ (k 1) 36 anJ), (h21, aJ (k 1) 900 anJ), (h12, aJ (k 1) 9 anJ)]) hx hb hml hown hU hK hT [5, 4, 2] rfl (by decide) (cX7_multiply_e140e l D k _ h13 h21 h12 v10 r1 h1f0 (by omega) (by omega) (by omega)) w363 w361 w362 w74 hdX7_multiply ⟨rfl, rfl⟩ ⟨Nat.le_of_ble_eq_true rfl, Nat.le_of_ble_eq_true rfl⟩ rfl hl.1 (Nat.le_of_ble_eq_true rfl) dX10_isInMiddle_85 ⟨Nat.le_of_ble_eq_true rfl, Nat.le_of_ble_eq_true rfl⟩) hT hS hA [5, 4, 2] [0, 1, 3, 6] rfl rfl rfl (by decide) (by decide) (fun H locs hB J hS => ?_)
        have hT1 := hB
        have hT := J _ hT1
        have hT : TP D A [(h0, ob 7 [.ref h1, .ref h2, .int h0f2, .ref h3, .ref h4, .ref h5, .int h0f6, .ref h6, .int h0f8, .null, .ref h7, .int h0f11, .ref h8, .ref h9, .ref h10, .ref h11, .ref h12]), (h1, ob 4 [.int h1f0, .int h1f1, .int h1f2, .ref h13]), (h5, ob 3 [.ref h21, .ref h22, .ref h23, .ref h24, .ref h25, .ref h26, .ref h27, .ref h28, .int h5f8, .int h5f9, .int h5f10, .int h5f11]), (h11, aJ (k 1) 9 anJ), (h13, aJ (k 1) 36 anJ), (h21, aJ (k 1) 900 anJ), (h12, aJ (k 1) 9 anJ)] H := hT
        refine lv_aload_n hx hb dX10_isInMiddle_88 rfl (lv_at hl 0 rfl) ?_
        refine tz_get (ci := 7) (v := .ref h11) (C := RX10) (F := TX10) (N := 17) hx hb hU iX10 hown hK hT 0 rfl rfl 15 (by decide) w264 (fun _ h9 => h9) rfl dX10_isInMiddle_89 ?_
        refine lv_aload_n hx hb dX10_isInMiddle_92 rfl (lv_at hl 0 rfl) ?_
        refine tz_get (ci := 7) (v := .ref h12) (C := RX10) (F := TX10) (N := 17) hx hb hU iX10 hown hK hT 0 rfl rfl 16 (by decide) w265 (fun _ h9 => h9) rfl dX10_isInMiddle_93 ?_
        refine lv_aload_n hx hb dX10_isInMiddle_96 rfl (lv_at hl 0 rfl) ?_
        refine tz_get (ci := 7) (v := .ref h1) (C := RX10) (F := TX10) (N := 17) hx hb hU iX10 hown hK hT 0 rfl rfl 0 (by decide) w249 (fun _ h9 => h9) rfl dX10_isInMiddle_97 ?_
        refine tcI (Tc := [(h1, ob 4 [.int h1f0, .int h1f1, .int h1f2, .ref h13])]) (Tr := [(h0, ob 7 [.ref h1, .ref h2, .int h0f2, .ref h3, .ref h4, .ref h5, .int h0f6, .ref h6, .int h0f8, .null, .ref h7, .int h0f11, .ref h8, .ref h9, .ref h10, .ref h11, .ref h12]), (h5, ob 3 [.ref h21, .ref h22, .ref h23, .ref h24, .ref h25, .ref h26, .ref h27, .ref h28, .int h5f8, .int h5f9, .int h5f10, .int h5f11]), (h11, aJ (k 1) 9 anJ), (h13, aJ (k 1) 36 anJ), (h21, aJ (k 1) 900 anJ), (h12, aJ (k 1) 9 anJ)]) (as := [h1]) (zcV (q0 := 1) (ci := 4) (As := []) (rest := [.ref h12, .ref h11]) (Tc := [(h1, ob 4 [.int h1f0, .int h1f1, .int h1f2, .ref h13])]) hx hb hml hown hU hK hT rfl rfl [1] rfl (by decide) (cX5_cellCount_642c9 l D k _ h1 h13 h1f0 h1f1 h1f2 (by omega) (by omega)) w385 w382 w383 w384 w64 hdX5_cellCount ⟨rfl, rfl⟩ ⟨Nat.le_of_ble_eq_true rfl, Nat.le_of_ble_eq_true rfl⟩ rfl hl.1 (Nat.le_of_ble_eq_true rfl) dX10_isInMiddle_100 ⟨Nat.le_of_ble_eq_true rfl, Nat.le_of_ble_eq_true rfl⟩) hT hS hA [1] [0, 2, 3, 4, 5, 6] rfl rfl rfl (by decide) (by decide) (fun r12 H locs hB J hS => ?_)
        obtain ⟨b_r12, hT1⟩ := hB
        have hT := J _ hT1
        have hT : TP D A [(h0, ob 7 [.ref h1, .ref h2, .int h0f2, .ref h3, .ref h4, .ref h5, .int h0f6, .ref h6, .int h0f8, .null, .ref h7, .int h0f11, .ref h8, .ref h9, .ref h10, .ref h11, .ref h12]), (h5, ob 3 [.ref h21, .ref h22, .ref h23, .ref h24, .ref h25, .ref h26, .ref h27, .ref h28, .int h5f8, .int h5f9, .int h5f10, .int h5f11]), (h11, aJ (k 1) 9 anJ), (h13, aJ (k 1) 36 anJ), (h21, aJ (k 1) 900 anJ), (h12, aJ (k 1) 9 anJ), (h1, ob 4 [.int h1f0, .int h1f1, .int h1f2, .ref h13])] H := hT
        refine tcI (Tc := [(h11, aJ (k 1) 9 anJ), (h12, aJ (k 1) 9 anJ)]) (Tr := [(h0, ob 7 [.ref h1, .ref h2, .int h0f2, .ref h3, .ref h4, .ref h5, .int h0f6, .ref h6, .int h0f8, .null, .ref h7, .int h0f11, .ref h8, .ref h9, .ref h10, .ref h11, .ref h12]), (h5, ob 3 [.ref h21, .ref h22, .ref h23, .ref h24, .ref h25, .ref h26, .ref h27, .ref h28, .int h5f8, .int h5f9, .int h5f10, .int h5f11]), (h13, aJ (k 1) 36 anJ), (h21, aJ (k 1) 900 anJ), (h1, ob 4 [.int h1f0, .int h1f1, .int h1f2, .ref h13])]) (as := [h11, h12]) (zcS (As := [.ref h11, .ref h12, .int r12]) (rest := []) (Tc := [(h11, aJ (k 1) 9 anJ), (h12, aJ (k 1) 9 anJ)]) hx hb hml hown hU hK hT [2, 5] rfl (by decide) (cX7_areAlike_339bc l D k _ h11 h12 r12 (by omega)) w608 w606 w607 w74 hdX7_areAlike ⟨rfl, rfl⟩ ⟨Nat.le_of_ble_eq_true rfl, Nat.le_of_ble_eq_true rfl⟩ rfl hl.1 (Nat.le_of_ble_eq_true rfl) dX10_isInMiddle_103 ⟨Nat.le_of_ble_eq_true rfl, Nat.le_of_ble_eq_true rfl⟩) hT hS hA [2, 5] [0, 1, 3, 4, 6] rfl rfl rfl (by decide) (by decide) (fun r13 H locs hB J hS => ?_)
        obtain ⟨b_r13, hT1⟩ := hB
        have hT := J _ hT1
        have hT : TP D A [(h0, ob 7 [.ref h1, .ref h2, .int h0f2, .ref h3, .ref h4, .ref h5, .int h0f6, .ref h6, .int h0f8, .null, .ref h7, .int h0f11, .ref h8, .ref h9, .ref h10, .ref h11, .ref h12]), (h5, ob 3 [.ref h21, .ref h22, .ref h23, .ref h24, .ref h25, .ref h26, .ref h27, .ref h28, .int h5f8, .int h5f9, .int h5f10, .int h5f11]), (h13, aJ (k 1) 36 anJ), (h21, aJ (k 1) 900 anJ), (h1, ob 4 [.int h1f0, .int h1f1, .int h1f2, .ref h13]), (h11, aJ (k 1) 9 anJ), (h12, aJ (k 1) 9 anJ)] H := hT
        refine lv_if_ne (tgt := 111) hx hb dX10_isInMiddle_106 (by decide) (fun c_14 => ?_) (fun c_14 => ?_)
        · skip
          have c_14 := ni_ne c_14 rfl li_0
          obtain ⟨v15, e_v15⟩ : ∃ x : Int32, x = y5 + Int32.ofInt 1 := ⟨_, rfl⟩
          have f_v15 := e_v15.symm
          have e_v15 : v15.toInt = y5.toInt + 1 := ai_add e_v15 rfl (show (Int32.ofInt 1).toInt = 1 from (by decide +kernel)) (by omega)
          refine lv_iinc (v := v15) (lv' := [(3, .int v15), (0, .ref h0), (2, .int r1)]) hx hb dX10_isInMiddle_111 hl (k := 2) rfl f_v15 (by decide) rfl (fun ls hl => ?_)
          refine lv_goto (tgt := 11) hx hb dX10_isInMiddle_114 (by decide) ?_
          exact ih11_6 v15 _ _ _ (by omega)  (by omega) (hT.sub [0, 4, 5, 6, 2, 3, 1] (by decide) rfl) hS (lv_sub hl [1, 2, 0] rfl)
        · skip
          have c_14 := ni_eq c_14 rfl li_0
          refine lv_iconst (v := 0) hx hb dX10_isInMiddle_109 (by decide) ?_
          exact tz_retZ (B := B_cX10_isInMiddle_0b500 D k h0 h1 h5 h11 h12 h13 h21 h2 h3 h4 h6 h7 h8 h9 h10 h22 h23 h24 h25 h26 h27 h28 x1 h0f2 h0f6 h0f8 h0f11 h1f0 h1f1 h1f2 h5f8 h5f9 h5f10 h5f11) (v := 0) hQ hx hb hr hlocks hS (Nat.le_of_ble_eq_true rfl) (Nat.le_of_ble_eq_true rfl) dX10_isInMiddle_110 (by have := li_0; omega) (⟨(by have := li_0; omega), (hT.sub [0, 4, 1, 5, 6, 2, 3] (by decide) rfl)⟩)
  exact lp11_6 ((h1f1.toInt + (-1) * (0 : Int32).toInt + 1).toNat + 1) (0) _ _ _ (by have := li_0; omega)  (Nat.lt_succ_self _) hT hS (lv_sub hl [2, 1, 0] rfl)
abbrev Rm_cX10_middle_65988 : Room := { frames := 6, cells := 0, slots := 0, locals := 149 }
abbrev B_cX10_middle_65988 (D : va_G) (k : Nat → ClassId) (h0 h1 h5 h8 h11 h12 h13 h21 h22 h23 h24 h25 h26 h27 h28 h2 h3 h4 h6 h7 h9 h10 : Nat) (h0f2 : Int32) (h0f6 : Int32) (h0f8 : Int32) (h0f11 : Int32) (h1f0 : Int32) (h1f1 : Int32) (h1f2 : Int32) (h5f8 : Int32) (h5f9 : Int32) (h5f10 : Int32) (h5f11 : Int32) (h8f1 : Int32) (A : Nat → Prop) (r : Int32) (H : Heap) : Prop := ∃ o0 : Int32, ∃ o1 : Int32, ∃ o2 : Int32, ∃ o3 : Int32, ∃ o4 : Int32, ∃ o5 : Int32, (1 ≤ o0.toInt ∧ o0.toInt ≤ 1) ∧ (0 ≤ o1.toInt ∧ o1.toInt ≤ 9) ∧ (0 ≤ o2.toInt ∧ o2.toInt ≤ 100) ∧ (0 ≤ o3.toInt ∧ o3.toInt ≤ 100) ∧ (0 ≤ o4.toInt ∧ o4.toInt ≤ 1) ∧ (0 ≤ o5.toInt ∧ o5.toInt ≤ 7) ∧ TP D A [(h0, ob 7 [.ref h1, .ref h2, .int h0f2, .ref h3, .ref h4, .ref h5, .int o0, .ref h6, .int h0f8, .null, .ref h7, .int h0f11, .ref h8, .ref h9, .ref h10, .ref h11, .ref h12]), (h1, ob 4 [.int h1f0, .int h1f1, .int h1f2, .ref h13]), (h5, ob 3 [.ref h21, .ref h22, .ref h23, .ref h24, .ref h25, .ref h26, .ref h27, .ref h28, .int o1, .int o2, .int o3, .int o4]), (h8, ob 2 [.ref h1, .int o5]), (h11, aJ (k 1) 9 anJ), (h12, aJ (k 1) 9 anJ), (h13, aJ (k 1) 36 anJ), (h21, aJ (k 1) 900 anJ), (h22, aI (k 0) 100 anI), (h23, aI (k 0) 100 anI), (h24, aI (k 0) 100 anI), (h25, aI (k 0) 400 anI), (h26, aI (k 0) 256 (rgI (-1) 99)), (h27, aI (k 0) 100 (rgI (-1) 99)), (h28, aJ (k 1) 60 anJ)] H
set_option maxHeartbeats 4000000 in
set_option maxRecDepth 100000 in
theorem cX10_middle_65988 (l : Launch) (D : va_G) (k : Nat → ClassId) (sz : Nat) (h0 h1 h5 h8 h11 h12 h13 h21 h22 h23 h24 h25 h26 h27 h28 h2 h3 h4 h6 h7 h9 h10 : Nat) (h0f2 : Int32) (h0f6 : Int32) (h0f8 : Int32) (h0f11 : Int32) (h1f0 : Int32) (h1f1 : Int32) (h1f2 : Int32) (h5f8 : Int32) (h5f9 : Int32) (h5f10 : Int32) (h5f11 : Int32) (h8f1 : Int32) (b_h0f2 : 0 ≤ h0f2.toInt ∧ h0f2.toInt ≤ 1) (b_h0f6 : 0 ≤ h0f6.toInt ∧ h0f6.toInt ≤ 1) (b_h0f8 : 0 ≤ h0f8.toInt ∧ h0f8.toInt ≤ 1) (b_h0f11 : 0 ≤ h0f11.toInt ∧ h0f11.toInt ≤ 200) (b_h1f0 : 1 ≤ h1f0.toInt ∧ h1f0.toInt ≤ 3) (b_h1f1 : 0 ≤ h1f1.toInt ∧ h1f1.toInt ≤ 4) (b_h5f8 : 0 ≤ h5f8.toInt ∧ h5f8.toInt ≤ 9) (b_h5f9 : 0 ≤ h5f9.toInt ∧ h5f9.toInt ≤ 100) (b_h5f10 : 0 ≤ h5f10.toInt ∧ h5f10.toInt ≤ 100) (b_h5f11 : 0 ≤ h5f11.toInt ∧ h5f11.toInt ≤ 1) (b_h8f1 : 0 ≤ h8f1.toInt ∧ h8f1.toInt ≤ 7) : Met l yX10_middle (Cond.code yX10_middle cX10_middle 3 (some .int) :: uw) Rm_cX10_middle_65988 (pT D k sz [.ref h0] [(h0, ob 7 [.ref h1, .ref h2, .int h0f2, .ref h3, .ref h4, .ref h5, .int h0f6, .ref h6, .int h0f8, .null, .ref h7, .int h0f11, .ref h8, .ref h9, .ref h10, .ref h11, .ref h12]), (h1, ob 4 [.int h1f0, .int h1f1, .int h1f2, .ref h13]), (h5, ob 3 [.ref h21, .ref h22, .ref h23, .ref h24, .ref h25, .ref h26, .ref h27, .ref h28, .int h5f8, .int h5f9, .int h5f10, .int h5f11]), (h8, ob 2 [.ref h1, .int h8f1]), (h11, aJ (k 1) 9 anJ), (h12, aJ (k 1) 9 anJ), (h13, aJ (k 1) 36 anJ), (h21, aJ (k 1) 900 anJ), (h22, aI (k 0) 100 anI), (h23, aI (k 0) 100 anI), (h24, aI (k 0) 100 anI), (h25, aI (k 0) 400 anI), (h26, aI (k 0) 256 (rgI (-1) 99)), (h27, aI (k 0) 100 (rgI (-1) 99)), (h28, aJ (k 1) 60 anJ)]) (qI (B_cX10_middle_65988 D k h0 h1 h5 h8 h11 h12 h13 h21 h22 h23 h24 h25 h26 h27 h28 h2 h3 h4 h6 h7 h9 h10 h0f2 h0f6 h0f8 h0f11 h1f0 h1f1 h1f2 h5f8 h5f9 h5f10 h5f11 h8f1 (zA [h0, h1, h5, h8, h11, h12, h13, h21, h22, h23, h24, h25, h26, h27, h28] sz)) (zA [h0, h1, h5, h8, h11, h12, h13, h21, h22, h23, h24, h25, h26, h27, h28] sz)) 0 0 (zA [h0, h1, h5, h8, h11, h12, h13, h21, h22, h23, h24, h25, h26, h27, h28] sz) := by
  refine tz_begin (as := [h0, h1, h5, h8, h11, h12, h13, h21, h22, h23, h24, h25, h26, h27, h28]) (Qc := fun A => qI (B_cX10_middle_65988 D k h0 h1 h5 h8 h11 h12 h13 h21 h22 h23 h24 h25 h26 h27 h28 h2 h3 h4 h6 h7 h9 h10 h0f2 h0f6 h0f8 h0f11 h1f0 h1f1 h1f2 h5f8 h5f9 h5f10 h5f11 h8f1 A) A) (by decide +kernel) rfl (Nat.le_of_ble_eq_true rfl) ?_
  intro p e s m args below meth c ls A Q hx hb hr hml hown hlocks hin hU hK hT hS hA hl hQ
  have hl : lv_has ls 3 [(0, .ref h0)] := hl
  have hT : TP D A [(h0, ob 7 [.ref h1, .ref h2, .int h0f2, .ref h3, .ref h4, .ref h5, .int h0f6, .ref h6, .int h0f8, .null, .ref h7, .int h0f11, .ref h8, .ref h9, .ref h10, .ref h11, .ref h12]), (h1, ob 4 [.int h1f0, .int h1f1, .int h1f2, .ref h13]), (h5, ob 3 [.ref h21, .ref h22, .ref h23, .ref h24, .ref h25, .ref h26, .ref h27, .ref h28, .int h5f8, .int h5f9, .int h5f10, .int h5f11]), (h8, ob 2 [.ref h1, .int h8f1]), (h11, aJ (k 1) 9 anJ), (h12, aJ (k 1) 9 anJ), (h13, aJ (k 1) 36 anJ), (h21, aJ (k 1) 900 anJ), (h22, aI (k 0) 100 anI), (h23, aI (k 0) 100 anI), (h24, aI (k 0) 100 anI), (h25, aI (k 0) 400 anI), (h26, aI (k 0) 256 (rgI (-1) 99)), (h27, aI (k 0) 100 (rgI (-1) 99)), (h28, aJ (k 1) 60 anJ)] s.heap := hT
  refine lv_aload_n hx hb dX10_middle_0 rfl (lv_at hl 0 rfl) ?_
  refine tcV (Tc := [(h0, ob 7 [.ref h1, .ref h2, .int h0f2, .ref h3, .ref h4, .ref h5, .int h0f6, .ref h6, .int h0f8, .null, .ref h7, .int h0f11, .ref h8, .ref h9, .ref h10, .ref h11, .ref h12]), (h1, ob 4 [.int h1f0, .int h1f1, .int h1f2, .ref h13]), (h5, ob 3 [.ref h21, .ref h22, .ref h23, .ref h24, .ref h25, .ref h26, .ref h27, .ref h28, .int h5f8, .int h5f9, .int h5f10, .int h5f11]), (h8, ob 2 [.ref h1, .int h8f1]), (h11, aJ (k 1) 9 anJ), (h13, aJ (k 1) 36 anJ), (h21, aJ (k 1) 900 anJ), (h22, aI (k 0) 100 anI), (h23, aI (k 0) 100 anI), (h24, aI (k 0) 100 anI), (h25, aI (k 0) 400 anI), (h26, aI (k 0) 256 (rgI (-1) 99)), (h27, aI (k 0) 100 (rgI (-1) 99)), (h28, aJ (k 1) 60 anJ)]) (Tr := [(h12, aJ (k 1) 9 anJ)]) (as := [h0, h1, h5, h8, h11, h13, h21, h22, h23, h24, h25, h26, h27, h28]) (zcV (q0 := 0) (ci := 7) (As := []) (rest := []) (Tc := [(h0, ob 7 [.ref h1, .ref h2, .int h0f2, .ref h3, .ref h4, .ref h5, .int h0f6, .ref h6, .int h0f8, .null, .ref h7, .int h0f11, .ref h8, .ref h9, .ref h10, .ref h11, .ref h12]), (h1, ob 4 [.int h1f0, .int h1f1, .int h1f2, .ref h13]), (h5, ob 3 [.ref h21, .ref h22, .ref h23, .ref h24, .ref h25, .ref h26, .ref h27, .ref h28, .int h5f8, .int h5f9, .int h5f10, .int h5f11]), (h8, ob 2 [.ref h1, .int h8f1]), (h11, aJ (k 1) 9 anJ), (h13, aJ (k 1) 36 anJ), (h21, aJ (k 1) 900 anJ), (h22, aI (k 0) 100 anI), (h23, aI (k 0) 100 anI), (h24, aI (k 0) 100 anI), (h25, aI (k 0) 400 anI), (h26, aI (k 0) 256 (rgI (-1) 99)), (h27, aI (k 0) 100 (rgI (-1) 99)), (h28, aJ (k 1) 60 anJ)]) hx hb hml hown hU hK hT rfl rfl [0, 1, 2, 3, 4, 6, 7, 8, 9, 10, 11, 12, 13, 14] rfl (by decide) (cX10_listAll_fe300 l D k _ h0 h1 h5 h8 h11 h13 h21 h22 h23 h24 h25 h26 h27 h28 h2 h3 h4 h6 h7 h9 h10 h12 h0f2 h0f6 h0f8 h0f11 h1f0 h1f1 h1f2 h5f8 h5f9 h5f10 h5f11 h8f1 (by omega) (by omega) (by omega) (by omega) (by omega) (by omega) (by omega) (by omega) (by omega) (by omega) (by omega)) w492 w489 w491 w10 w63 hdX10_listAll ⟨rfl, rfl⟩ ⟨Nat.le_of_ble_eq_true rfl, Nat.le_of_ble_eq_true rfl⟩ rfl hl.1 (Nat.le_of_ble_eq_true rfl) dX10_middle_1 ⟨Nat.le_of_ble_eq_true rfl, Nat.le_of_ble_eq_true rfl⟩) hT hS hA [0, 1, 2, 3, 4, 6, 7, 8, 9, 10, 11, 12, 13, 14] [5] rfl rfl rfl (by decide) (by decide) (fun H locs hB J hS => ?_)
  obtain ⟨v2, v3, v4, v5, v6, v7, b_v2, b_v3, b_v4, b_v5, b_v6, b_v7, hT1⟩ := hB
  have hT := J _ hT1
  have hT : TP D A [(h12, aJ (k 1) 9 anJ), (h0, ob 7 [.ref h1, .ref h2, .int h0f2, .ref h3, .ref h4, .ref h5, .int v2, .ref h6, .int h0f8, .null, .ref h7, .int h0f11, .ref h8, .ref h9, .ref h10, .ref h11, .ref h12]), (h1, ob 4 [.int h1f0, .int h1f1, .int h1f2, .ref h13]), (h5, ob 3 [.ref h21, .ref h22, .ref h23, .ref h24, .ref h25, .ref h26, .ref h27, .ref h28, .int v3, .int v4, .int v5, .int v6]), (h8, ob 2 [.ref h1, .int v7]), (h11, aJ (k 1) 9 anJ), (h13, aJ (k 1) 36 anJ), (h21, aJ (k 1) 900 anJ), (h22, aI (k 0) 100 anI), (h23, aI (k 0) 100 anI), (h24, aI (k 0) 100 anI), (h25, aI (k 0) 400 anI), (h26, aI (k 0) 256 (rgI (-1) 99)), (h27, aI (k 0) 100 (rgI (-1) 99)), (h28, aJ (k 1) 60 anJ)] H := hT
  refine lv_iconst (v := 0) hx hb dX10_middle_4 (by decide) ?_
  refine lv_istore_n (lv' := [(1, .int 0), (0, .ref h0)]) hx hb dX10_middle_5 rfl hl (by decide) rfl (fun ls hl => ?_)
  refine lv_iconst (v := 0) hx hb dX10_middle_6 (by decide) ?_
  refine lv_istore_n (lv' := [(2, .int 0), (1, .int 0), (0, .ref h0)]) hx hb dX10_middle_7 rfl hl (by decide) rfl (fun ls hl => ?_)
  have lp8_66 : ∀ (n : Nat) (y64 : Int32) (y65 : Int32) (H : Heap) (locs : List Loc) (ls : Array Slot), (0 ≤ y64.toInt ∧ y64.toInt ≤ 100) → (v5.toInt + (-1) * y64.toInt + 1).toNat < n → TP D A [(h12, aJ (k 1) 9 anJ), (h0, ob 7 [.ref h1, .ref h2, .int h0f2, .ref h3, .ref h4, .ref h5, .int v2, .ref h6, .int h0f8, .null, .ref h7, .int h0f11, .ref h8, .ref h9, .ref h10, .ref h11, .ref h12]), (h1, ob 4 [.int h1f0, .int h1f1, .int h1f2, .ref h13]), (h5, ob 3 [.ref h21, .ref h22, .ref h23, .ref h24, .ref h25, .ref h26, .ref h27, .ref h28, .int v3, .int v4, .int v5, .int v6]), (h8, ob 2 [.ref h1, .int v7]), (h11, aJ (k 1) 9 anJ), (h13, aJ (k 1) 36 anJ), (h21, aJ (k 1) 900 anJ), (h22, aI (k 0) 100 anI), (h23, aI (k 0) 100 anI), (h24, aI (k 0) 100 anI), (h25, aI (k 0) 400 anI), (h26, aI (k 0) 256 (rgI (-1) 99)), (h27, aI (k 0) 100 (rgI (-1) 99)), (h28, aJ (k 1) 60 anJ)] H → va_S A s.heap H locs → lv_has ls 3 [(0, .ref h0), (1, .int y65), (2, .int y64)] → W p l e Rm_cX10_middle_65988 s m args below meth c H locs 0 0 Q (F0 m 8 ls []) := by
    intro n
    induction n with
    | zero => intro y64 y65 H locs ls b_y64 hm hT hS hl; exact absurd hm (Nat.not_lt_zero _)
    | succ n ih =>
      intro y64 y65 H locs ls b_y64 hm hT hS hl
      have ih8_66 := ih
      clear ih
      refine lv_iload_n hx hb dX10_middle_8 rfl (lv_at hl 2 rfl) ?_
      refine lv_aload_n hx hb dX10_middle_9 rfl (lv_at hl 0 rfl) ?_
      refine tz_get (ci := 7) (v := .ref h5) (C := RX10) (F := TX10) (N := 17) hx hb hU iX10 hown hK hT 1 rfl rfl 5 (by decide) w254 (fun _ h9 => h9) rfl dX10_middle_10 ?_
      refine tz_get (ci := 3) (v := .int v5) (C := RX4) (F := TX4) (N := 12) hx hb hU iX4 hown hK hT 3 rfl rfl 10 (by decide) w166 (fun _ h9 => h9) rfl dX10_middle_13 ?_
      refine lv_icmp_ge (tgt := 36) hx hb dX10_middle_16 (by decide) (fun c_67 => ?_) (fun c_67 => ?_)
      · skip
        have c_67 := ni_le c_67 rfl rfl
        refine lv_iload_n hx hb dX10_middle_36 rfl (lv_at hl 1 rfl) ?_
        exact tz_retI (B := B_cX10_middle_65988 D k h0 h1 h5 h8 h11 h12 h13 h21 h22 h23 h24 h25 h26 h27 h28 h2 h3 h4 h6 h7 h9 h10 h0f2 h0f6 h0f8 h0f11 h1f0 h1f1 h1f2 h5f8 h5f9 h5f10 h5f11 h8f1) (v := y65) hQ hx hb hr hlocks hS (Nat.le_of_ble_eq_true rfl) (Nat.le_of_ble_eq_true rfl) dX10_middle_37 (⟨v2, v3, v4, v5, v6, v7, (by omega), (by omega), (by omega), (by omega), (by omega), (by omega), (hT.sub [1, 2, 3, 4, 5, 0, 6, 7, 8, 9, 10, 11, 12, 13, 14] (by decide) rfl)⟩)
      · skip
        have c_67 := ni_nle c_67 rfl rfl
        refine lv_aload_n hx hb dX10_middle_19 rfl (lv_at hl 0 rfl) ?_
        refine lv_iload_n hx hb dX10_middle_20 rfl (lv_at hl 2 rfl) ?_
        refine tcI (Tc := [(h0, ob 7 [.ref h1, .ref h2, .int h0f2, .ref h3, .ref h4, .ref h5, .int v2, .ref h6, .int h0f8, .null, .ref h7, .int h0f11, .ref h8, .ref h9, .ref h10, .ref h11, .ref h12]), (h1, ob 4 [.int h1f0, .int h1f1, .int h1f2, .ref h13]), (h5, ob 3 [.ref h21, .ref h22, .ref h23, .ref h24, .ref h25, .ref h26, .ref h27, .ref h28, .int v3, .int v4, .int v5, .int v6]), (h11, aJ (k 1) 9 anJ), (h12, aJ (k 1) 9 anJ), (h13, aJ (k 1) 36 anJ), (h21, aJ (k 1) 900 anJ)]) (Tr := [(h8, ob 2 [.ref h1, .int v7]), (h22, aI (k 0) 100 anI), (h23, aI (k 0) 100 anI), (h24, aI (k 0) 100 anI), (h25, aI (k 0) 400 anI), (h26, aI (k 0) 256 (rgI (-1) 99)), (h27, aI (k 0) 100 (rgI (-1) 99)), (h28, aJ (k 1) 60 anJ)]) (as := [h0, h1, h5, h11, h12, h13, h21]) (zcV (q0 := 1) (ci := 7) (As := [.int y64]) (rest := []) (Tc := [(h0, ob 7 [.ref h1, .ref h2, .int h0f2, .ref h3, .ref h4, .ref h5, .int v2, .ref h6, .int h0f8, .null, .ref h7, .int h0f11, .ref h8, .ref h9, .ref h10, .ref h11, .ref h12]), (h1, ob 4 [.int h1f0, .int h1f1, .int h1f2, .ref h13]), (h5, ob 3 [.ref h21, .ref h22, .ref h23, .ref h24, .ref h25, .ref h26, .ref h27, .ref h28, .int v3, .int v4, .int v5, .int v6]), (h11, aJ (k 1) 9 anJ), (h12, aJ (k 1) 9 anJ), (h13, aJ (k 1) 36 anJ), (h21, aJ (k 1) 900 anJ)]) hx hb hml hown hU hK hT rfl rfl [1, 2, 3, 5, 0, 6, 7] rfl (by decide) (cX10_isInMiddle_0b500 l D k _ h0 h1 h5 h11 h12 h13 h21 h2 h3 h4 h6 h7 h8 h9 h10 h22 h23 h24 h25 h26 h27 h28 y64 h0f2 v2 h0f8 h0f11 h1f0 h1f1 h1f2 v3 v4 v5 v6 (by omega) (by omega) (by omega) (by omega) (by omega) (by omega) (by omega) (by omega) (by omega) (by omega) (by omega)) w605 w602 w604 w16 w63 hdX10_isInMiddle ⟨rfl, rfl⟩ ⟨Nat.le_of_ble_eq_true rfl, Nat.le_of_ble_eq_true rfl⟩ rfl hl.1 (Nat.le_of_ble_eq_true rfl) dX10_middle_21 ⟨Nat.le_of_ble_eq_true rfl, Nat.le_of_ble_eq_true rfl⟩) hT hS hA [1, 2, 3, 5, 0, 6, 7] [4, 8, 9, 10, 11, 12, 13, 14] rfl rfl rfl (by decide) (by decide) (fun r68 H locs hB J hS => ?_)
        obtain ⟨b_r68, hT1⟩ := hB
        have hT := J _ hT1
        have hT : TP D A [(h8, ob 2 [.ref h1, .int v7]), (h22, aI (k 0) 100 anI), (h23, aI (k 0) 100 anI), (h24, aI (k 0) 100 anI), (h25, aI (k 0) 400 anI), (h26, aI (k 0) 256 (rgI (-1) 99)), (h27, aI (k 0) 100 (rgI (-1) 99)), (h28, aJ (k 1) 60 anJ), (h0, ob 7 [.ref h1, .ref h2, .int h0f2, .ref h3, .ref h4, .ref h5, .int v2, .ref h6, .int h0f8, .null, .ref h7, .int h0f11, .ref h8, .ref h9, .ref h10, .ref h11, .ref h12]), (h1, ob 4 [.int h1f0, .int h1f1, .int h1f2, .ref h13]), (h5, ob 3 [.ref h21, .ref h22, .ref h23, .ref h24, .ref h25, .ref h26, .ref h27, .ref h28, .int v3, .int v4, .int v5, .int v6]), (h11, aJ (k 1) 9 anJ), (h12, aJ (k 1) 9 anJ), (h13, aJ (k 1) 36 anJ), (h21, aJ (k 1) 900 anJ)] H := hT
        refine lv_if_eq (tgt := 30) hx hb dX10_middle_24 (by decide) (fun c_69 => ?_) (fun c_69 => ?_)
        · skip
          have c_69 := ni_eq c_69 rfl li_0
          obtain ⟨v70, e_v70⟩ : ∃ x : Int32, x = y64 + Int32.ofInt 1 := ⟨_, rfl⟩
          have f_v70 := e_v70.symm
          have e_v70 : v70.toInt = y64.toInt + 1 := ai_add e_v70 rfl (show (Int32.ofInt 1).toInt = 1 from (by decide +kernel)) (by omega)
          refine lv_iinc (v := v70) (lv' := [(2, .int v70), (0, .ref h0), (1, .int y65)]) hx hb dX10_middle_30 hl (k := 2) rfl f_v70 (by decide) rfl (fun ls hl => ?_)
          refine lv_goto (tgt := 8) hx hb dX10_middle_33 (by decide) ?_
          exact ih8_66 v70 y65 _ _ _ (by omega)  (by omega) (hT.sub [12, 8, 9, 10, 0, 11, 13, 14, 1, 2, 3, 4, 5, 6, 7] (by decide) rfl) hS (lv_sub hl [1, 2, 0] rfl)
        · skip
          have c_69 := ni_ne c_69 rfl li_0
          obtain ⟨v71, e_v71⟩ : ∃ x : Int32, x = y65 + Int32.ofInt 1 := ⟨_, rfl⟩
          have f_v71 := e_v71.symm
          refine lv_iinc (v := v71) (lv' := [(1, .int v71), (0, .ref h0), (2, .int y64)]) hx hb dX10_middle_27 hl (k := 1) rfl f_v71 (by decide) rfl (fun ls hl => ?_)
          obtain ⟨v72, e_v72⟩ : ∃ x : Int32, x = y64 + Int32.ofInt 1 := ⟨_, rfl⟩
          have f_v72 := e_v72.symm
          have e_v72 : v72.toInt = y64.toInt + 1 := ai_add e_v72 rfl (show (Int32.ofInt 1).toInt = 1 from (by decide +kernel)) (by omega)
          refine lv_iinc (v := v72) (lv' := [(2, .int v72), (1, .int v71), (0, .ref h0)]) hx hb dX10_middle_30 hl (k := 2) rfl f_v72 (by decide) rfl (fun ls hl => ?_)
          refine lv_goto (tgt := 8) hx hb dX10_middle_33 (by decide) ?_
          exact ih8_66 v72 v71 _ _ _ (by omega)  (by omega) (hT.sub [12, 8, 9, 10, 0, 11, 13, 14, 1, 2, 3, 4, 5, 6, 7] (by decide) rfl) hS (lv_sub hl [2, 1, 0] rfl)
  exact lp8_66 ((v5.toInt + (-1) * (0 : Int32).toInt + 1).toNat + 1) (0) (0) _ _ _ (by have := li_0; omega)  (Nat.lt_succ_self _) hT hS (lv_sub hl [2, 1, 0] rfl)
abbrev Rm_cX10_isInMiddle_0a01b : Room := { frames := 2, cells := 0, slots := 0, locals := 56 }
abbrev B_cX10_isInMiddle_0a01b (D : va_G) (k : Nat → ClassId) (h0 h1 h5 h12 h13 h14 h22 h2 h3 h4 h6 h7 h8 h9 h10 h11 h23 h24 h25 h26 h27 h28 h29 : Nat) (x1 : Int32) (h0f2 : Int32) (h0f6 : Int32) (h0f8 : Int32) (h0f11 : Int32) (h1f0 : Int32) (h1f1 : Int32) (h1f2 : Int32) (h5f8 : Int32) (h5f9 : Int32) (h5f10 : Int32) (h5f11 : Int32) (A : Nat → Prop) (r : Int32) (H : Heap) : Prop := (0 ≤ r.toInt ∧ r.toInt ≤ 1) ∧ TP D A [(h0, ob 7 [.ref h1, .ref h2, .int h0f2, .ref h3, .ref h4, .ref h5, .int h0f6, .ref h6, .int h0f8, .ref h7, .ref h8, .int h0f11, .ref h9, .ref h10, .ref h11, .ref h12, .ref h13]), (h1, ob 4 [.int h1f0, .int h1f1, .int h1f2, .ref h14]), (h5, ob 3 [.ref h22, .ref h23, .ref h24, .ref h25, .ref h26, .ref h27, .ref h28, .ref h29, .int h5f8, .int h5f9, .int h5f10, .int h5f11]), (h12, aJ (k 1) 9 anJ), (h13, aJ (k 1) 9 anJ), (h14, aJ (k 1) 36 anJ), (h22, aJ (k 1) 900 anJ)] H
set_option maxHeartbeats 4000000 in
set_option maxRecDepth 100000 in
theorem cX10_isInMiddle_0a01b (l : Launch) (D : va_G) (k : Nat → ClassId) (sz : Nat) (h0 h1 h5 h12 h13 h14 h22 h2 h3 h4 h6 h7 h8 h9 h10 h11 h23 h24 h25 h26 h27 h28 h29 : Nat) (x1 : Int32) (h0f2 : Int32) (h0f6 : Int32) (h0f8 : Int32) (h0f11 : Int32) (h1f0 : Int32) (h1f1 : Int32) (h1f2 : Int32) (h5f8 : Int32) (h5f9 : Int32) (h5f10 : Int32) (h5f11 : Int32) (b_x1 : 0 ≤ x1.toInt ∧ x1.toInt ≤ 99) (b_h0f2 : 0 ≤ h0f2.toInt ∧ h0f2.toInt ≤ 1) (b_h0f6 : 1 ≤ h0f6.toInt ∧ h0f6.toInt ≤ 1) (b_h0f8 : 0 ≤ h0f8.toInt ∧ h0f8.toInt ≤ 1) (b_h0f11 : 0 ≤ h0f11.toInt ∧ h0f11.toInt ≤ 200) (b_h1f0 : 1 ≤ h1f0.toInt ∧ h1f0.toInt ≤ 3) (b_h1f1 : 0 ≤ h1f1.toInt ∧ h1f1.toInt ≤ 4) (b_h5f8 : 0 ≤ h5f8.toInt ∧ h5f8.toInt ≤ 9) (b_h5f9 : 0 ≤ h5f9.toInt ∧ h5f9.toInt ≤ 100) (b_h5f10 : 1 ≤ h5f10.toInt ∧ h5f10.toInt ≤ 100) (b_h5f11 : 0 ≤ h5f11.toInt ∧ h5f11.toInt ≤ 1) : Met l yX10_isInMiddle (Cond.code yX10_isInMiddle cX10_isInMiddle 4 (some .boolean) :: uw) Rm_cX10_isInMiddle_0a01b (pT D k sz [.ref h0, .int x1] [(h0, ob 7 [.ref h1, .ref h2, .int h0f2, .ref h3, .ref h4, .ref h5, .int h0f6, .ref h6, .int h0f8, .ref h7, .ref h8, .int h0f11, .ref h9, .ref h10, .ref h11, .ref h12, .ref h13]), (h1, ob 4 [.int h1f0, .int h1f1, .int h1f2, .ref h14]), (h5, ob 3 [.ref h22, .ref h23, .ref h24, .ref h25, .ref h26, .ref h27, .ref h28, .ref h29, .int h5f8, .int h5f9, .int h5f10, .int h5f11]), (h12, aJ (k 1) 9 anJ), (h13, aJ (k 1) 9 anJ), (h14, aJ (k 1) 36 anJ), (h22, aJ (k 1) 900 anJ)]) (qI (B_cX10_isInMiddle_0a01b D k h0 h1 h5 h12 h13 h14 h22 h2 h3 h4 h6 h7 h8 h9 h10 h11 h23 h24 h25 h26 h27 h28 h29 x1 h0f2 h0f6 h0f8 h0f11 h1f0 h1f1 h1f2 h5f8 h5f9 h5f10 h5f11 (zA [h0, h1, h5, h12, h13, h14, h22] sz)) (zA [h0, h1, h5, h12, h13, h14, h22] sz)) 0 0 (zA [h0, h1, h5, h12, h13, h14, h22] sz) := by
  refine tz_begin (as := [h0, h1, h5, h12, h13, h14, h22]) (Qc := fun A => qI (B_cX10_isInMiddle_0a01b D k h0 h1 h5 h12 h13 h14 h22 h2 h3 h4 h6 h7 h8 h9 h10 h11 h23 h24 h25 h26 h27 h28 h29 x1 h0f2 h0f6 h0f8 h0f11 h1f0 h1f1 h1f2 h5f8 h5f9 h5f10 h5f11 A) A) (by decide +kernel) rfl (Nat.le_of_ble_eq_true rfl) ?_
  intro p e s m args below meth c ls A Q hx hb hr hml hown hlocks hin hU hK hT hS hA hl hQ
  have hl : lv_has ls 4 [(0, .ref h0), (1, .int x1)] := hl
  have hT : TP D A [(h0, ob 7 [.ref h1, .ref h2, .int h0f2, .ref h3, .ref h4, .ref h5, .int h0f6, .ref h6, .int h0f8, .ref h7, .ref h8, .int h0f11, .ref h9, .ref h10, .ref h11, .ref h12, .ref h13]), (h1, ob 4 [.int h1f0, .int h1f1, .int h1f2, .ref h14]), (h5, ob 3 [.ref h22, .ref h23, .ref h24, .ref h25, .ref h26, .ref h27, .ref h28, .ref h29, .int h5f8, .int h5f9, .int h5f10, .int h5f11]), (h12, aJ (k 1) 9 anJ), (h13, aJ (k 1) 9 anJ), (h14, aJ (k 1) 36 anJ), (h22, aJ (k 1) 900 anJ)] s.heap := hT
  refine lv_aload_n hx hb dX10_isInMiddle_0 rfl (lv_at hl 0 rfl) ?_
  refine tz_get (ci := 7) (v := .ref h5) (C := RX10) (F := TX10) (N := 17) hx hb hU iX10 hown hK hT 0 rfl rfl 5 (by decide) w254 (fun _ h9 => h9) rfl dX10_isInMiddle_1 ?_
  refine lv_iload_n hx hb dX10_isInMiddle_4 rfl (lv_at hl 1 rfl) ?_
  refine tcI (Tc := [(h5, ob 3 [.ref h22, .ref h23, .ref h24, .ref h25, .ref h26, .ref h27, .ref h28, .ref h29, .int h5f8, .int h5f9, .int h5f10, .int h5f11])]) (Tr := [(h0, ob 7 [.ref h1, .ref h2, .int h0f2, .ref h3, .ref h4, .ref h5, .int h0f6, .ref h6, .int h0f8, .ref h7, .ref h8, .int h0f11, .ref h9, .ref h10, .ref h11, .ref h12, .ref h13]), (h1, ob 4 [.int h1f0, .int h1f1, .int h1f2, .ref h14]), (h12, aJ (k 1) 9 anJ), (h13, aJ (k 1) 9 anJ), (h14, aJ (k 1) 36 anJ), (h22, aJ (k 1) 900 anJ)]) (as := [h5]) (zcV (q0 := 2) (ci := 3) (As := [.int x1]) (rest := []) (Tc := [(h5, ob 3 [.ref h22, .ref h23, .ref h24, .ref h25, .ref h26, .ref h27, .ref h28, .ref h29, .int h5f8, .int h5f9, .int h5f10, .int h5f11])]) hx hb hml hown hU hK hT rfl rfl [2] rfl (by decide) (cX4_start_d01b0 l D k _ h5 h22 h23 h24 h25 h26 h27 h28 h29 x1 h5f8 h5f9 h5f10 h5f11 (by omega) (by omega) (by omega) (by omega) (by omega)) w505 w574 w503 w504 w66 hdX4_start ⟨rfl, rfl⟩ ⟨Nat.le_of_ble_eq_true rfl, Nat.le_of_ble_eq_true rfl⟩ rfl hl.1 (Nat.le_of_ble_eq_true rfl) dX10_isInMiddle_5 ⟨Nat.le_of_ble_eq_true rfl, Nat.le_of_ble_eq_true rfl⟩) hT hS hA [2] [0, 1, 3, 4, 5, 6] rfl rfl rfl (by decide) (by decide) (fun r1 H locs hB J hS => ?_)
  obtain ⟨b_r1, hT1⟩ := hB
  have hT := J _ hT1
  have hT : TP D A [(h0, ob 7 [.ref h1, .ref h2, .int h0f2, .ref h3, .ref h4, .ref h5, .int h0f6, .ref h6, .int h0f8, .ref h7, .ref h8, .int h0f11, .ref h9, .ref h10, .ref h11, .ref h12, .ref h13]), (h1, ob 4 [.int h1f0, .int h1f1, .int h1f2, .ref h14]), (h12, aJ (k 1) 9 anJ), (h13, aJ (k 1) 9 anJ), (h14, aJ (k 1) 36 anJ), (h22, aJ (k 1) 900 anJ), (h5, ob 3 [.ref h22, .ref h23, .ref h24, .ref h25, .ref h26, .ref h27, .ref h28, .ref h29, .int h5f8, .int h5f9, .int h5f10, .int h5f11])] H := hT
  refine lv_istore_n (lv' := [(2, .int r1), (0, .ref h0), (1, .int x1)]) hx hb dX10_isInMiddle_8 rfl hl (by decide) rfl (fun ls hl => ?_)
  refine lv_iconst (v := 0) hx hb dX10_isInMiddle_9 (by decide) ?_
  refine lv_istore_n (lv' := [(3, .int 0), (2, .int r1), (0, .ref h0), (1, .int x1)]) hx hb dX10_isInMiddle_10 rfl hl (by decide) rfl (fun ls hl => ?_)
  have lp11_6 : ∀ (n : Nat) (y5 : Int32) (H : Heap) (locs : List Loc) (ls : Array Slot), (0 ≤ y5.toInt ∧ y5.toInt ≤ 4) → (h1f1.toInt + (-1) * y5.toInt + 1).toNat < n → TP D A [(h0, ob 7 [.ref h1, .ref h2, .int h0f2, .ref h3, .ref h4, .ref h5, .int h0f6, .ref h6, .int h0f8, .ref h7, .ref h8, .int h0f11, .ref h9, .ref h10, .ref h11, .ref h12, .ref h13]), (h1, ob 4 [.int h1f0, .int h1f1, .int h1f2, .ref h14]), (h12, aJ (k 1) 9 anJ), (h13, aJ (k 1) 9 anJ), (h14, aJ (k 1) 36 anJ), (h22, aJ (k 1) 900 anJ), (h5, ob 3 [.ref h22, .ref h23, .ref h24, .ref h25, .ref h26, .ref h27, .ref h28, .ref h29, .int h5f8, .int h5f9, .int h5f10, .int h5f11])] H → va_S A s.heap H locs → lv_has ls 4 [(0, .ref h0), (2, .int r1), (3, .int y5)] → W p l e Rm_cX10_isInMiddle_0a01b s m args below meth c H locs 0 0 Q (F0 m 11 ls []) := by
    intro n
    induction n with
    | zero => intro y5 H locs ls b_y5 hm hT hS hl; exact absurd hm (Nat.not_lt_zero _)
    | succ n ih =>
      intro y5 H locs ls b_y5 hm hT hS hl
      have ih11_6 := ih
      clear ih
      refine lv_iload_n hx hb dX10_isInMiddle_11 rfl (lv_at hl 2 rfl) ?_
      refine lv_aload_n hx hb dX10_isInMiddle_12 rfl (lv_at hl 0 rfl) ?_
      refine tz_get (ci := 7) (v := .ref h1) (C := RX10) (F := TX10) (N := 17) hx hb hU iX10 hown hK hT 0 rfl rfl 0 (by decide) w249 (fun _ h9 => h9) rfl dX10_isInMiddle_13 ?_
      refine tz_get (ci := 4) (v := .int h1f1) (C := RX5) (F := TX5) (N := 4) hx hb hU iX5 hown hK hT 1 rfl rfl 1 (by decide) w97 (fun _ h9 => h9) rfl dX10_isInMiddle_16 ?_
      refine lv_icmp_ge (tgt := 117) hx hb dX10_isInMiddle_19 (by decide) (fun c_7 => ?_) (fun c_7 => ?_)
      · skip
        have c_7 := ni_le c_7 rfl rfl
        refine lv_iconst (v := 1) hx hb dX10_isInMiddle_117 (by decide) ?_
        exact tz_retZ (B := B_cX10_isInMiddle_0a01b D k h0 h1 h5 h12 h13 h14 h22 h2 h3 h4 h6 h7 h8 h9 h10 h11 h23 h24 h25 h26 h27 h28 h29 x1 h0f2 h0f6 h0f8 h0f11 h1f0 h1f1 h1f2 h5f8 h5f9 h5f10 h5f11) (v := 1) hQ hx hb hr hlocks hS (Nat.le_of_ble_eq_true rfl) (Nat.le_of_ble_eq_true rfl) dX10_isInMiddle_118 (by have := li_1; omega) (⟨(by have := li_1; omega), (hT.sub [0, 1, 6, 2, 3, 4, 5] (by decide) rfl)⟩)
      · skip
        have c_7 := ni_nle c_7 rfl rfl
        refine lv_aload_n hx hb dX10_isInMiddle_22 rfl (lv_at hl 0 rfl) ?_
        refine tz_get (ci := 7) (v := .ref h5) (C := RX10) (F := TX10) (N := 17) hx hb hU iX10 hown hK hT 0 rfl rfl 5 (by decide) w254 (fun _ h9 => h9) rfl dX10_isInMiddle_23 ?_
        refine tz_get (ci := 3) (v := .ref h22) (C := RX4) (F := TX4) (N := 12) hx hb hU iX4 hown hK hT 6 rfl rfl 0 (by decide) w150 (fun _ h9 => h9) rfl dX10_isInMiddle_26 ?_
        refine lv_iload_n hx hb dX10_isInMiddle_29 rfl (lv_at hl 1 rfl) ?_
        refine lv_aload_n hx hb dX10_isInMiddle_30 rfl (lv_at hl 0 rfl) ?_
        refine tz_get (ci := 7) (v := .ref h1) (C := RX10) (F := TX10) (N := 17) hx hb hU iX10 hown hK hT 0 rfl rfl 0 (by decide) w249 (fun _ h9 => h9) rfl dX10_isInMiddle_31 ?_
        refine tz_get (ci := 4) (v := .ref h14) (C := RX5) (F := TX5) (N := 4) hx hb hU iX5 hown hK hT 1 rfl rfl 3 (by decide) w103 (fun _ h9 => h9) rfl dX10_isInMiddle_34 ?_
        refine lv_iload_n hx hb dX10_isInMiddle_37 rfl (lv_at hl 2 rfl) ?_
        refine lv_bipush (v := 9) hx hb dX10_isInMiddle_38 (by decide) ?_
        refine lv_imul hx hb dX10_isInMiddle_40 (lv_topi (fun v8 e_v8 => ?_))
        have e_v8 := ai_mul e_v8 rfl li_9 (by omega)
        refine lv_aload_n hx hb dX10_isInMiddle_41 rfl (lv_at hl 0 rfl) ?_
        refine tz_get (ci := 7) (v := .ref h12) (C := RX10) (F := TX10) (N := 17) hx hb hU iX10 hown hK hT 0 rfl rfl 15 (by decide) w264 (fun _ h9 => h9) rfl dX10_isInMiddle_42 ?_
        refine lv_aload_n hx hb dX10_isInMiddle_45 rfl (lv_at hl 0 rfl) ?_
        refine tz_get (ci := 7) (v := .ref h1) (C := RX10) (F := TX10) (N := 17) hx hb hU iX10 hown hK hT 0 rfl rfl 0 (by decide) w249 (fun _ h9 => h9) rfl dX10_isInMiddle_46 ?_
        refine tz_get (ci := 4) (v := .int h1f0) (C := RX5) (F := TX5) (N := 4) hx hb hU iX5 hown hK hT 1 rfl rfl 0 (by decide) w93 (fun _ h9 => h9) rfl dX10_isInMiddle_49 ?_
        refine tcV (Tc := [(h22, aJ (k 1) 900 anJ), (h14, aJ (k 1) 36 anJ), (h12, aJ (k 1) 9 anJ)]) (Tr := [(h0, ob 7 [.ref h1, .ref h2, .int h0f2, .ref h3, .ref h4, .ref h5, .int h0f6, .ref h6, .int h0f8, .ref h7, .ref h8, .int h0f11, .ref h9, .ref h10, .ref h11, .ref h12, .ref h13]), (h1, ob 4 [.int h1f0, .int h1f1, .int h1f2, .ref h14]), (h13, aJ (k 1) 9 anJ), (h5, ob 3 [.ref h22, .ref h23, .ref h24, .ref h25, .ref h26, .ref h27, .ref h28, .ref h29, .int h5f8, .int h5f9, .int h5f10, .int h5f11])]) (as := [h22, h14, h12]) (zcS (As := [.ref h22, .int r1, .ref h14, .int v8, .ref h12, .int h1f0]) (rest := []) (Tc := [(h22, aJ (k 1) 900 anJ), (h14, aJ (k 1) 36 anJ), (h12, aJ (k 1) 9 anJ)]) hx hb hml hown hU hK hT [5, 4, 2] rfl (by decide) (cX7_multiply_25255 l D k _ h22 h14 h12 r1 v8 h1f0 (by omega) (by omega) (by omega)) w363 w361 w362 w74 hdX7_multiply ⟨rfl, rfl⟩ ⟨Nat.le_of_ble_eq_true rfl, Nat.le_of_ble_eq_true rfl⟩ rfl hl.1 (Nat.le_of_ble_eq_true rfl) dX10_isInMiddle_52 ⟨Nat.le_of_ble_eq_true rfl, Nat.le_of_ble_eq_true rfl⟩) hT hS hA [5, 4, 2] [0, 1, 3, 6] rfl rfl rfl (by decide) (by decide) (fun H locs hB J hS => ?_)
        have hT1 := hB
        have hT := J _ hT1
        have hT : TP D A [(h0, ob 7 [.ref h1, .ref h2, .int h0f2, .ref h3, .ref h4, .ref h5, .int h0f6, .ref h6, .int h0f8, .ref h7, .ref h8, .int h0f11, .ref h9, .ref h10, .ref h11, .ref h12, .ref h13]), (h1, ob 4 [.int h1f0, .int h1f1, .int h1f2, .ref h14]), (h13, aJ (k 1) 9 anJ), (h5, ob 3 [.ref h22, .ref h23, .ref h24, .ref h25, .ref h26, .ref h27, .ref h28, .ref h29, .int h5f8, .int h5f9, .int h5f10, .int h5f11]), (h22, aJ (k 1) 900 anJ), (h14, aJ (k 1) 36 anJ), (h12, aJ (k 1) 9 anJ)] H := hT
        refine lv_aload_n hx hb dX10_isInMiddle_55 rfl (lv_at hl 0 rfl) ?_
        refine tz_get (ci := 7) (v := .ref h1) (C := RX10) (F := TX10) (N := 17) hx hb hU iX10 hown hK hT 0 rfl rfl 0 (by decide) w249 (fun _ h9 => h9) rfl dX10_isInMiddle_56 ?_
        refine tz_get (ci := 4) (v := .ref h14) (C := RX5) (F := TX5) (N := 4) hx hb hU iX5 hown hK hT 1 rfl rfl 3 (by decide) w103 (fun _ h9 => h9) rfl dX10_isInMiddle_59 ?_
        refine lv_iload_n hx hb dX10_isInMiddle_62 rfl (lv_at hl 2 rfl) ?_
        refine lv_bipush (v := 9) hx hb dX10_isInMiddle_63 (by decide) ?_
        refine lv_imul hx hb dX10_isInMiddle_65 (lv_topi (fun v10 e_v10 => ?_))
        have e_v10 := ai_mul e_v10 rfl li_9 (by omega)
        refine lv_aload_n hx hb dX10_isInMiddle_66 rfl (lv_at hl 0 rfl) ?_
        refine tz_get (ci := 7) (v := .ref h5) (C := RX10) (F := TX10) (N := 17) hx hb hU iX10 hown hK hT 0 rfl rfl 5 (by decide) w254 (fun _ h9 => h9) rfl dX10_isInMiddle_67 ?_
        refine tz_get (ci := 3) (v := .ref h22) (C := RX4) (F := TX4) (N := 12) hx hb hU iX4 hown hK hT 3 rfl rfl 0 (by decide) w150 (fun _ h9 => h9) rfl dX10_isInMiddle_70 ?_
        refine lv_iload_n hx hb dX10_isInMiddle_73 rfl (lv_at hl 1 rfl) ?_
        refine lv_aload_n hx hb dX10_isInMiddle_74 rfl (lv_at hl 0 rfl) ?_
        refine tz_get (ci := 7) (v := .ref h13) (C := RX10) (F := TX10) (N := 17) hx hb hU iX10 hown hK hT 0 rfl rfl 16 (by decide) w265 (fun _ h9 => h9) rfl dX10_isInMiddle_75 ?_
        refine lv_aload_n hx hb dX10_isInMiddle_78 rfl (lv_at hl 0 rfl) ?_
        refine tz_get (ci := 7) (v := .ref h1) (C := RX10) (F := TX10) (N := 17) hx hb hU iX10 hown hK hT 0 rfl rfl 0 (by decide) w249 (fun _ h9 => h9) rfl dX10_isInMiddle_79 ?_
        refine tz_get (ci := 4) (v := .int h1f0) (C := RX5) (F := TX5) (N := 4) hx hb hU iX5 hown hK hT 1 rfl rfl 0 (by decide) w93 (fun _ h9 => h9) rfl dX10_isInMiddle_82 ?_
        refine tcV (Tc := [(h14, aJ (k 1) 36 anJ), (h22, aJ (k 1) 900 anJ), (h13, aJ (k 1) 9 anJ)]) (Tr := [(h0, ob 7 [.ref h1, .ref h2, .int h0f2, .ref h3, .ref h4, .ref h5, .int h0f6, .ref h6, .int h0f8, .ref h7, .ref h8, .int h0f11, .ref h9, .ref h10, .ref h11, .ref h12, .ref h13]), (h1, ob 4 [.int h1f0, .int h1f1, .int h1f2, .ref h14]), (h5, ob 3 [.ref h22, .ref h23, .ref h24, .ref h25, .ref h26, .ref h27, .ref h28, .ref h29, .int h5f8, .int h5f9, .int h5f10, .int h5f11]), (h12, aJ (k 1) 9 anJ)]) (as := [h14, h22, h13]) (zcS (As := [.ref h14, .int v10, .ref h22, .int r1, .ref h13, .int h1f0]) (rest := []) (Tc := [(h14, aJ (k 1) 36 anJ), (h22, aJ (k 1) 900 anJ), (h13, aJ (k 1) 9 anJ)]) hx hb hml hown hU hK hT [5, 4, 2] rfl (by decide) (cX7_multiply_e140e l D k _ h14 h22 h13 v10 r1 h1f0 (by omega) (by omega) (by omega)) w363 w361 w362 w74 hdX7_multiply ⟨rfl, rfl⟩ ⟨Nat.le_of_ble_eq_true rfl, Nat.le_of_ble_eq_true rfl⟩ rfl hl.1 (Nat.le_of_ble_eq_true rfl) dX10_isInMiddle_85 ⟨Nat.le_of_ble_eq_true rfl, Nat.le_of_ble_eq_true rfl⟩) hT hS hA [5, 4, 2] [0, 1, 3, 6] rfl rfl rfl (by decide) (by decide) (fun H locs hB J hS => ?_)
        have hT1 := hB
        have hT := J _ hT1
        have hT : TP D A [(h0, ob 7 [.ref h1, .ref h2, .int h0f2, .ref h3, .ref h4, .ref h5, .int h0f6, .ref h6, .int h0f8, .ref h7, .ref h8, .int h0f11, .ref h9, .ref h10, .ref h11, .ref h12, .ref h13]), (h1, ob 4 [.int h1f0, .int h1f1, .int h1f2, .ref h14]), (h5, ob 3 [.ref h22, .ref h23, .ref h24, .ref h25, .ref h26, .ref h27, .ref h28, .ref h29, .int h5f8, .int h5f9, .int h5f10, .int h5f11]), (h12, aJ (k 1) 9 anJ), (h14, aJ (k 1) 36 anJ), (h22, aJ (k 1) 900 anJ), (h13, aJ (k 1) 9 anJ)] H := hT
        refine lv_aload_n hx hb dX10_isInMiddle_88 rfl (lv_at hl 0 rfl) ?_
        refine tz_get (ci := 7) (v := .ref h12) (C := RX10) (F := TX10) (N := 17) hx hb hU iX10 hown hK hT 0 rfl rfl 15 (by decide) w264 (fun _ h9 => h9) rfl dX10_isInMiddle_89 ?_
        refine lv_aload_n hx hb dX10_isInMiddle_92 rfl (lv_at hl 0 rfl) ?_
        refine tz_get (ci := 7) (v := .ref h13) (C := RX10) (F := TX10) (N := 17) hx hb hU iX10 hown hK hT 0 rfl rfl 16 (by decide) w265 (fun _ h9 => h9) rfl dX10_isInMiddle_93 ?_
        refine lv_aload_n hx hb dX10_isInMiddle_96 rfl (lv_at hl 0 rfl) ?_
        refine tz_get (ci := 7) (v := .ref h1) (C := RX10) (F := TX10) (N := 17) hx hb hU iX10 hown hK hT 0 rfl rfl 0 (by decide) w249 (fun _ h9 => h9) rfl dX10_isInMiddle_97 ?_
        refine tcI (Tc := [(h1, ob 4 [.int h1f0, .int h1f1, .int h1f2, .ref h14])]) (Tr := [(h0, ob 7 [.ref h1, .ref h2, .int h0f2, .ref h3, .ref h4, .ref h5, .int h0f6, .ref h6, .int h0f8, .ref h7, .ref h8, .int h0f11, .ref h9, .ref h10, .ref h11, .ref h12, .ref h13]), (h5, ob 3 [.ref h22, .ref h23, .ref h24, .ref h25, .ref h26, .ref h27, .ref h28, .ref h29, .int h5f8, .int h5f9, .int h5f10, .int h5f11]), (h12, aJ (k 1) 9 anJ), (h14, aJ (k 1) 36 anJ), (h22, aJ (k 1) 900 anJ), (h13, aJ (k 1) 9 anJ)]) (as := [h1]) (zcV (q0 := 1) (ci := 4) (As := []) (rest := [.ref h13, .ref h12]) (Tc := [(h1, ob 4 [.int h1f0, .int h1f1, .int h1f2, .ref h14])]) hx hb hml hown hU hK hT rfl rfl [1] rfl (by decide) (cX5_cellCount_642c9 l D k _ h1 h14 h1f0 h1f1 h1f2 (by omega) (by omega)) w385 w382 w383 w384 w64 hdX5_cellCount ⟨rfl, rfl⟩ ⟨Nat.le_of_ble_eq_true rfl, Nat.le_of_ble_eq_true rfl⟩ rfl hl.1 (Nat.le_of_ble_eq_true rfl) dX10_isInMiddle_100 ⟨Nat.le_of_ble_eq_true rfl, Nat.le_of_ble_eq_true rfl⟩) hT hS hA [1] [0, 2, 3, 4, 5, 6] rfl rfl rfl (by decide) (by decide) (fun r12 H locs hB J hS => ?_)
        obtain ⟨b_r12, hT1⟩ := hB
        have hT := J _ hT1
        have hT : TP D A [(h0, ob 7 [.ref h1, .ref h2, .int h0f2, .ref h3, .ref h4, .ref h5, .int h0f6, .ref h6, .int h0f8, .ref h7, .ref h8, .int h0f11, .ref h9, .ref h10, .ref h11, .ref h12, .ref h13]), (h5, ob 3 [.ref h22, .ref h23, .ref h24, .ref h25, .ref h26, .ref h27, .ref h28, .ref h29, .int h5f8, .int h5f9, .int h5f10, .int h5f11]), (h12, aJ (k 1) 9 anJ), (h14, aJ (k 1) 36 anJ), (h22, aJ (k 1) 900 anJ), (h13, aJ (k 1) 9 anJ), (h1, ob 4 [.int h1f0, .int h1f1, .int h1f2, .ref h14])] H := hT
        refine tcI (Tc := [(h12, aJ (k 1) 9 anJ), (h13, aJ (k 1) 9 anJ)]) (Tr := [(h0, ob 7 [.ref h1, .ref h2, .int h0f2, .ref h3, .ref h4, .ref h5, .int h0f6, .ref h6, .int h0f8, .ref h7, .ref h8, .int h0f11, .ref h9, .ref h10, .ref h11, .ref h12, .ref h13]), (h5, ob 3 [.ref h22, .ref h23, .ref h24, .ref h25, .ref h26, .ref h27, .ref h28, .ref h29, .int h5f8, .int h5f9, .int h5f10, .int h5f11]), (h14, aJ (k 1) 36 anJ), (h22, aJ (k 1) 900 anJ), (h1, ob 4 [.int h1f0, .int h1f1, .int h1f2, .ref h14])]) (as := [h12, h13]) (zcS (As := [.ref h12, .ref h13, .int r12]) (rest := []) (Tc := [(h12, aJ (k 1) 9 anJ), (h13, aJ (k 1) 9 anJ)]) hx hb hml hown hU hK hT [2, 5] rfl (by decide) (cX7_areAlike_339bc l D k _ h12 h13 r12 (by omega)) w608 w606 w607 w74 hdX7_areAlike ⟨rfl, rfl⟩ ⟨Nat.le_of_ble_eq_true rfl, Nat.le_of_ble_eq_true rfl⟩ rfl hl.1 (Nat.le_of_ble_eq_true rfl) dX10_isInMiddle_103 ⟨Nat.le_of_ble_eq_true rfl, Nat.le_of_ble_eq_true rfl⟩) hT hS hA [2, 5] [0, 1, 3, 4, 6] rfl rfl rfl (by decide) (by decide) (fun r13 H locs hB J hS => ?_)
        obtain ⟨b_r13, hT1⟩ := hB
        have hT := J _ hT1
        have hT : TP D A [(h0, ob 7 [.ref h1, .ref h2, .int h0f2, .ref h3, .ref h4, .ref h5, .int h0f6, .ref h6, .int h0f8, .ref h7, .ref h8, .int h0f11, .ref h9, .ref h10, .ref h11, .ref h12, .ref h13]), (h5, ob 3 [.ref h22, .ref h23, .ref h24, .ref h25, .ref h26, .ref h27, .ref h28, .ref h29, .int h5f8, .int h5f9, .int h5f10, .int h5f11]), (h14, aJ (k 1) 36 anJ), (h22, aJ (k 1) 900 anJ), (h1, ob 4 [.int h1f0, .int h1f1, .int h1f2, .ref h14]), (h12, aJ (k 1) 9 anJ), (h13, aJ (k 1) 9 anJ)] H := hT
        refine lv_if_ne (tgt := 111) hx hb dX10_isInMiddle_106 (by decide) (fun c_14 => ?_) (fun c_14 => ?_)
        · skip
          have c_14 := ni_ne c_14 rfl li_0
          obtain ⟨v15, e_v15⟩ : ∃ x : Int32, x = y5 + Int32.ofInt 1 := ⟨_, rfl⟩
          have f_v15 := e_v15.symm
          have e_v15 : v15.toInt = y5.toInt + 1 := ai_add e_v15 rfl (show (Int32.ofInt 1).toInt = 1 from (by decide +kernel)) (by omega)
          refine lv_iinc (v := v15) (lv' := [(3, .int v15), (0, .ref h0), (2, .int r1)]) hx hb dX10_isInMiddle_111 hl (k := 2) rfl f_v15 (by decide) rfl (fun ls hl => ?_)
          refine lv_goto (tgt := 11) hx hb dX10_isInMiddle_114 (by decide) ?_
          exact ih11_6 v15 _ _ _ (by omega)  (by omega) (hT.sub [0, 4, 5, 6, 2, 3, 1] (by decide) rfl) hS (lv_sub hl [1, 2, 0] rfl)
        · skip
          have c_14 := ni_eq c_14 rfl li_0
          refine lv_iconst (v := 0) hx hb dX10_isInMiddle_109 (by decide) ?_
          exact tz_retZ (B := B_cX10_isInMiddle_0a01b D k h0 h1 h5 h12 h13 h14 h22 h2 h3 h4 h6 h7 h8 h9 h10 h11 h23 h24 h25 h26 h27 h28 h29 x1 h0f2 h0f6 h0f8 h0f11 h1f0 h1f1 h1f2 h5f8 h5f9 h5f10 h5f11) (v := 0) hQ hx hb hr hlocks hS (Nat.le_of_ble_eq_true rfl) (Nat.le_of_ble_eq_true rfl) dX10_isInMiddle_110 (by have := li_0; omega) (⟨(by have := li_0; omega), (hT.sub [0, 4, 1, 5, 6, 2, 3] (by decide) rfl)⟩)
  exact lp11_6 ((h1f1.toInt + (-1) * (0 : Int32).toInt + 1).toNat + 1) (0) _ _ _ (by have := li_0; omega)  (Nat.lt_succ_self _) hT hS (lv_sub hl [2, 1, 0] rfl)
abbrev Rm_cX10_middle_b6855 : Room := { frames := 6, cells := 0, slots := 0, locals := 149 }
abbrev B_cX10_middle_b6855 (D : va_G) (k : Nat → ClassId) (h0 h1 h5 h9 h12 h13 h14 h22 h23 h24 h25 h26 h27 h28 h29 h2 h3 h4 h6 h7 h8 h10 h11 : Nat) (h0f2 : Int32) (h0f6 : Int32) (h0f8 : Int32) (h0f11 : Int32) (h1f0 : Int32) (h1f1 : Int32) (h1f2 : Int32) (h5f8 : Int32) (h5f9 : Int32) (h5f10 : Int32) (h5f11 : Int32) (h9f1 : Int32) (A : Nat → Prop) (r : Int32) (H : Heap) : Prop := ∃ o0 : Int32, ∃ o1 : Int32, ∃ o2 : Int32, ∃ o3 : Int32, ∃ o4 : Int32, ∃ o5 : Int32, (1 ≤ o0.toInt ∧ o0.toInt ≤ 1) ∧ (0 ≤ o1.toInt ∧ o1.toInt ≤ 9) ∧ (0 ≤ o2.toInt ∧ o2.toInt ≤ 100) ∧ (0 ≤ o3.toInt ∧ o3.toInt ≤ 100) ∧ (0 ≤ o4.toInt ∧ o4.toInt ≤ 1) ∧ (0 ≤ o5.toInt ∧ o5.toInt ≤ 7) ∧ TP D A [(h0, ob 7 [.ref h1, .ref h2, .int h0f2, .ref h3, .ref h4, .ref h5, .int o0, .ref h6, .int h0f8, .ref h7, .ref h8, .int h0f11, .ref h9, .ref h10, .ref h11, .ref h12, .ref h13]), (h1, ob 4 [.int h1f0, .int h1f1, .int h1f2, .ref h14]), (h5, ob 3 [.ref h22, .ref h23, .ref h24, .ref h25, .ref h26, .ref h27, .ref h28, .ref h29, .int o1, .int o2, .int o3, .int o4]), (h9, ob 2 [.ref h1, .int o5]), (h12, aJ (k 1) 9 anJ), (h13, aJ (k 1) 9 anJ), (h14, aJ (k 1) 36 anJ), (h22, aJ (k 1) 900 anJ), (h23, aI (k 0) 100 anI), (h24, aI (k 0) 100 anI), (h25, aI (k 0) 100 anI), (h26, aI (k 0) 400 anI), (h27, aI (k 0) 256 (rgI (-1) 99)), (h28, aI (k 0) 100 (rgI (-1) 99)), (h29, aJ (k 1) 60 anJ)] H
set_option maxHeartbeats 4000000 in
set_option maxRecDepth 100000 in
theorem cX10_middle_b6855 (l : Launch) (D : va_G) (k : Nat → ClassId) (sz : Nat) (h0 h1 h5 h9 h12 h13 h14 h22 h23 h24 h25 h26 h27 h28 h29 h2 h3 h4 h6 h7 h8 h10 h11 : Nat) (h0f2 : Int32) (h0f6 : Int32) (h0f8 : Int32) (h0f11 : Int32) (h1f0 : Int32) (h1f1 : Int32) (h1f2 : Int32) (h5f8 : Int32) (h5f9 : Int32) (h5f10 : Int32) (h5f11 : Int32) (h9f1 : Int32) (b_h0f2 : 0 ≤ h0f2.toInt ∧ h0f2.toInt ≤ 1) (b_h0f6 : 0 ≤ h0f6.toInt ∧ h0f6.toInt ≤ 1) (b_h0f8 : 0 ≤ h0f8.toInt ∧ h0f8.toInt ≤ 1) (b_h0f11 : 0 ≤ h0f11.toInt ∧ h0f11.toInt ≤ 200) (b_h1f0 : 1 ≤ h1f0.toInt ∧ h1f0.toInt ≤ 3) (b_h1f1 : 0 ≤ h1f1.toInt ∧ h1f1.toInt ≤ 4) (b_h5f8 : 0 ≤ h5f8.toInt ∧ h5f8.toInt ≤ 9) (b_h5f9 : 0 ≤ h5f9.toInt ∧ h5f9.toInt ≤ 100) (b_h5f10 : 0 ≤ h5f10.toInt ∧ h5f10.toInt ≤ 100) (b_h5f11 : 0 ≤ h5f11.toInt ∧ h5f11.toInt ≤ 1) (b_h9f1 : 0 ≤ h9f1.toInt ∧ h9f1.toInt ≤ 7) : Met l yX10_middle (Cond.code yX10_middle cX10_middle 3 (some .int) :: uw) Rm_cX10_middle_b6855 (pT D k sz [.ref h0] [(h0, ob 7 [.ref h1, .ref h2, .int h0f2, .ref h3, .ref h4, .ref h5, .int h0f6, .ref h6, .int h0f8, .ref h7, .ref h8, .int h0f11, .ref h9, .ref h10, .ref h11, .ref h12, .ref h13]), (h1, ob 4 [.int h1f0, .int h1f1, .int h1f2, .ref h14]), (h5, ob 3 [.ref h22, .ref h23, .ref h24, .ref h25, .ref h26, .ref h27, .ref h28, .ref h29, .int h5f8, .int h5f9, .int h5f10, .int h5f11]), (h9, ob 2 [.ref h1, .int h9f1]), (h12, aJ (k 1) 9 anJ), (h13, aJ (k 1) 9 anJ), (h14, aJ (k 1) 36 anJ), (h22, aJ (k 1) 900 anJ), (h23, aI (k 0) 100 anI), (h24, aI (k 0) 100 anI), (h25, aI (k 0) 100 anI), (h26, aI (k 0) 400 anI), (h27, aI (k 0) 256 (rgI (-1) 99)), (h28, aI (k 0) 100 (rgI (-1) 99)), (h29, aJ (k 1) 60 anJ)]) (qI (B_cX10_middle_b6855 D k h0 h1 h5 h9 h12 h13 h14 h22 h23 h24 h25 h26 h27 h28 h29 h2 h3 h4 h6 h7 h8 h10 h11 h0f2 h0f6 h0f8 h0f11 h1f0 h1f1 h1f2 h5f8 h5f9 h5f10 h5f11 h9f1 (zA [h0, h1, h5, h9, h12, h13, h14, h22, h23, h24, h25, h26, h27, h28, h29] sz)) (zA [h0, h1, h5, h9, h12, h13, h14, h22, h23, h24, h25, h26, h27, h28, h29] sz)) 0 0 (zA [h0, h1, h5, h9, h12, h13, h14, h22, h23, h24, h25, h26, h27, h28, h29] sz) := by
  refine tz_begin (as := [h0, h1, h5, h9, h12, h13, h14, h22, h23, h24, h25, h26, h27, h28, h29]) (Qc := fun A => qI (B_cX10_middle_b6855 D k h0 h1 h5 h9 h12 h13 h14 h22 h23 h24 h25 h26 h27 h28 h29 h2 h3 h4 h6 h7 h8 h10 h11 h0f2 h0f6 h0f8 h0f11 h1f0 h1f1 h1f2 h5f8 h5f9 h5f10 h5f11 h9f1 A) A) (by decide +kernel) rfl (Nat.le_of_ble_eq_true rfl) ?_
  intro p e s m args below meth c ls A Q hx hb hr hml hown hlocks hin hU hK hT hS hA hl hQ
  have hl : lv_has ls 3 [(0, .ref h0)] := hl
  have hT : TP D A [(h0, ob 7 [.ref h1, .ref h2, .int h0f2, .ref h3, .ref h4, .ref h5, .int h0f6, .ref h6, .int h0f8, .ref h7, .ref h8, .int h0f11, .ref h9, .ref h10, .ref h11, .ref h12, .ref h13]), (h1, ob 4 [.int h1f0, .int h1f1, .int h1f2, .ref h14]), (h5, ob 3 [.ref h22, .ref h23, .ref h24, .ref h25, .ref h26, .ref h27, .ref h28, .ref h29, .int h5f8, .int h5f9, .int h5f10, .int h5f11]), (h9, ob 2 [.ref h1, .int h9f1]), (h12, aJ (k 1) 9 anJ), (h13, aJ (k 1) 9 anJ), (h14, aJ (k 1) 36 anJ), (h22, aJ (k 1) 900 anJ), (h23, aI (k 0) 100 anI), (h24, aI (k 0) 100 anI), (h25, aI (k 0) 100 anI), (h26, aI (k 0) 400 anI), (h27, aI (k 0) 256 (rgI (-1) 99)), (h28, aI (k 0) 100 (rgI (-1) 99)), (h29, aJ (k 1) 60 anJ)] s.heap := hT
  refine lv_aload_n hx hb dX10_middle_0 rfl (lv_at hl 0 rfl) ?_
  refine tcV (Tc := [(h0, ob 7 [.ref h1, .ref h2, .int h0f2, .ref h3, .ref h4, .ref h5, .int h0f6, .ref h6, .int h0f8, .ref h7, .ref h8, .int h0f11, .ref h9, .ref h10, .ref h11, .ref h12, .ref h13]), (h1, ob 4 [.int h1f0, .int h1f1, .int h1f2, .ref h14]), (h5, ob 3 [.ref h22, .ref h23, .ref h24, .ref h25, .ref h26, .ref h27, .ref h28, .ref h29, .int h5f8, .int h5f9, .int h5f10, .int h5f11]), (h9, ob 2 [.ref h1, .int h9f1]), (h12, aJ (k 1) 9 anJ), (h14, aJ (k 1) 36 anJ), (h22, aJ (k 1) 900 anJ), (h23, aI (k 0) 100 anI), (h24, aI (k 0) 100 anI), (h25, aI (k 0) 100 anI), (h26, aI (k 0) 400 anI), (h27, aI (k 0) 256 (rgI (-1) 99)), (h28, aI (k 0) 100 (rgI (-1) 99)), (h29, aJ (k 1) 60 anJ)]) (Tr := [(h13, aJ (k 1) 9 anJ)]) (as := [h0, h1, h5, h9, h12, h14, h22, h23, h24, h25, h26, h27, h28, h29]) (zcV (q0 := 0) (ci := 7) (As := []) (rest := []) (Tc := [(h0, ob 7 [.ref h1, .ref h2, .int h0f2, .ref h3, .ref h4, .ref h5, .int h0f6, .ref h6, .int h0f8, .ref h7, .ref h8, .int h0f11, .ref h9, .ref h10, .ref h11, .ref h12, .ref h13]), (h1, ob 4 [.int h1f0, .int h1f1, .int h1f2, .ref h14]), (h5, ob 3 [.ref h22, .ref h23, .ref h24, .ref h25, .ref h26, .ref h27, .ref h28, .ref h29, .int h5f8, .int h5f9, .int h5f10, .int h5f11]), (h9, ob 2 [.ref h1, .int h9f1]), (h12, aJ (k 1) 9 anJ), (h14, aJ (k 1) 36 anJ), (h22, aJ (k 1) 900 anJ), (h23, aI (k 0) 100 anI), (h24, aI (k 0) 100 anI), (h25, aI (k 0) 100 anI), (h26, aI (k 0) 400 anI), (h27, aI (k 0) 256 (rgI (-1) 99)), (h28, aI (k 0) 100 (rgI (-1) 99)), (h29, aJ (k 1) 60 anJ)]) hx hb hml hown hU hK hT rfl rfl [0, 1, 2, 3, 4, 6, 7, 8, 9, 10, 11, 12, 13, 14] rfl (by decide) (cX10_listAll_d24ec l D k _ h0 h1 h5 h9 h12 h14 h22 h23 h24 h25 h26 h27 h28 h29 h2 h3 h4 h6 h7 h8 h10 h11 h13 h0f2 h0f6 h0f8 h0f11 h1f0 h1f1 h1f2 h5f8 h5f9 h5f10 h5f11 h9f1 (by omega) (by omega) (by omega) (by omega) (by omega) (by omega) (by omega) (by omega) (by omega) (by omega) (by omega)) w492 w489 w491 w10 w63 hdX10_listAll ⟨rfl, rfl⟩ ⟨Nat.le_of_ble_eq_true rfl, Nat.le_of_ble_eq_true rfl⟩ rfl hl.1 (Nat.le_of_ble_eq_true rfl) dX10_middle_1 ⟨Nat.le_of_ble_eq_true rfl, Nat.le_of_ble_eq_true rfl⟩) hT hS hA [0, 1, 2, 3, 4, 6, 7, 8, 9, 10, 11, 12, 13, 14] [5] rfl rfl rfl (by decide) (by decide) (fun H locs hB J hS => ?_)
  obtain ⟨v2, v3, v4, v5, v6, v7, b_v2, b_v3, b_v4, b_v5, b_v6, b_v7, hT1⟩ := hB
  have hT := J _ hT1
  have hT : TP D A [(h13, aJ (k 1) 9 anJ), (h0, ob 7 [.ref h1, .ref h2, .int h0f2, .ref h3, .ref h4, .ref h5, .int v2, .ref h6, .int h0f8, .ref h7, .ref h8, .int h0f11, .ref h9, .ref h10, .ref h11, .ref h12, .ref h13]), (h1, ob 4 [.int h1f0, .int h1f1, .int h1f2, .ref h14]), (h5, ob 3 [.ref h22, .ref h23, .ref h24, .ref h25, .ref h26, .ref h27, .ref h28, .ref h29, .int v3, .int v4, .int v5, .int v6]), (h9, ob 2 [.ref h1, .int v7]), (h12, aJ (k 1) 9 anJ), (h14, aJ (k 1) 36 anJ), (h22, aJ (k 1) 900 anJ), (h23, aI (k 0) 100 anI), (h24, aI (k 0) 100 anI), (h25, aI (k 0) 100 anI), (h26, aI (k 0) 400 anI), (h27, aI (k 0) 256 (rgI (-1) 99)), (h28, aI (k 0) 100 (rgI (-1) 99)), (h29, aJ (k 1) 60 anJ)] H := hT
  refine lv_iconst (v := 0) hx hb dX10_middle_4 (by decide) ?_
  refine lv_istore_n (lv' := [(1, .int 0), (0, .ref h0)]) hx hb dX10_middle_5 rfl hl (by decide) rfl (fun ls hl => ?_)
  refine lv_iconst (v := 0) hx hb dX10_middle_6 (by decide) ?_
  refine lv_istore_n (lv' := [(2, .int 0), (1, .int 0), (0, .ref h0)]) hx hb dX10_middle_7 rfl hl (by decide) rfl (fun ls hl => ?_)
  have lp8_66 : ∀ (n : Nat) (y64 : Int32) (y65 : Int32) (H : Heap) (locs : List Loc) (ls : Array Slot), (0 ≤ y64.toInt ∧ y64.toInt ≤ 100) → (v5.toInt + (-1) * y64.toInt + 1).toNat < n → TP D A [(h13, aJ (k 1) 9 anJ), (h0, ob 7 [.ref h1, .ref h2, .int h0f2, .ref h3, .ref h4, .ref h5, .int v2, .ref h6, .int h0f8, .ref h7, .ref h8, .int h0f11, .ref h9, .ref h10, .ref h11, .ref h12, .ref h13]), (h1, ob 4 [.int h1f0, .int h1f1, .int h1f2, .ref h14]), (h5, ob 3 [.ref h22, .ref h23, .ref h24, .ref h25, .ref h26, .ref h27, .ref h28, .ref h29, .int v3, .int v4, .int v5, .int v6]), (h9, ob 2 [.ref h1, .int v7]), (h12, aJ (k 1) 9 anJ), (h14, aJ (k 1) 36 anJ), (h22, aJ (k 1) 900 anJ), (h23, aI (k 0) 100 anI), (h24, aI (k 0) 100 anI), (h25, aI (k 0) 100 anI), (h26, aI (k 0) 400 anI), (h27, aI (k 0) 256 (rgI (-1) 99)), (h28, aI (k 0) 100 (rgI (-1) 99)), (h29, aJ (k 1) 60 anJ)] H → va_S A s.heap H locs → lv_has ls 3 [(0, .ref h0), (1, .int y65), (2, .int y64)] → W p l e Rm_cX10_middle_b6855 s m args below meth c H locs 0 0 Q (F0 m 8 ls []) := by
    intro n
    induction n with
    | zero => intro y64 y65 H locs ls b_y64 hm hT hS hl; exact absurd hm (Nat.not_lt_zero _)
    | succ n ih =>
      intro y64 y65 H locs ls b_y64 hm hT hS hl
      have ih8_66 := ih
      clear ih
      refine lv_iload_n hx hb dX10_middle_8 rfl (lv_at hl 2 rfl) ?_
      refine lv_aload_n hx hb dX10_middle_9 rfl (lv_at hl 0 rfl) ?_
      refine tz_get (ci := 7) (v := .ref h5) (C := RX10) (F := TX10) (N := 17) hx hb hU iX10 hown hK hT 1 rfl rfl 5 (by decide) w254 (fun _ h9 => h9) rfl dX10_middle_10 ?_
      refine tz_get (ci := 3) (v := .int v5) (C := RX4) (F := TX4) (N := 12) hx hb hU iX4 hown hK hT 3 rfl rfl 10 (by decide) w166 (fun _ h9 => h9) rfl dX10_middle_13 ?_
      refine lv_icmp_ge (tgt := 36) hx hb dX10_middle_16 (by decide) (fun c_67 => ?_) (fun c_67 => ?_)
      · skip
        have c_67 := ni_le c_67 rfl rfl
        refine lv_iload_n hx hb dX10_middle_36 rfl (lv_at hl 1 rfl) ?_
        exact tz_retI (B := B_cX10_middle_b6855 D k h0 h1 h5 h9 h12 h13 h14 h22 h23 h24 h25 h26 h27 h28 h29 h2 h3 h4 h6 h7 h8 h10 h11 h0f2 h0f6 h0f8 h0f11 h1f0 h1f1 h1f2 h5f8 h5f9 h5f10 h5f11 h9f1) (v := y65) hQ hx hb hr hlocks hS (Nat.le_of_ble_eq_true rfl) (Nat.le_of_ble_eq_true rfl) dX10_middle_37 (⟨v2, v3, v4, v5, v6, v7, (by omega), (by omega), (by omega), (by omega), (by omega), (by omega), (hT.sub [1, 2, 3, 4, 5, 0, 6, 7, 8, 9, 10, 11, 12, 13, 14] (by decide) rfl)⟩)
      · skip
        have c_67 := ni_nle c_67 rfl rfl
        refine lv_aload_n hx hb dX10_middle_19 rfl (lv_at hl 0 rfl) ?_
        refine lv_iload_n hx hb dX10_middle_20 rfl (lv_at hl 2 rfl) ?_
        refine tcI (Tc := [(h0, ob 7 [.ref h1, .ref h2, .int h0f2, .ref h3, .ref h4, .ref h5, .int v2, .ref h6, .int h0f8, .ref h7, .ref h8, .int h0f11, .ref h9, .ref h10, .ref h11, .ref h12, .ref h13]), (h1, ob 4 [.int h1f0, .int h1f1, .int h1f2, .ref h14]), (h5, ob 3 [.ref h22, .ref h23, .ref h24, .ref h25, .ref h26, .ref h27, .ref h28, .ref h29, .int v3, .int v4, .int v5, .int v6]), (h12, aJ (k 1) 9 anJ), (h13, aJ (k 1) 9 anJ), (h14, aJ (k 1) 36 anJ), (h22, aJ (k 1) 900 anJ)]) (Tr := [(h9, ob 2 [.ref h1, .int v7]), (h23, aI (k 0) 100 anI), (h24, aI (k 0) 100 anI), (h25, aI (k 0) 100 anI), (h26, aI (k 0) 400 anI), (h27, aI (k 0) 256 (rgI (-1) 99)), (h28, aI (k 0) 100 (rgI (-1) 99)), (h29, aJ (k 1) 60 anJ)]) (as := [h0, h1, h5, h12, h13, h14, h22]) (zcV (q0 := 1) (ci := 7) (As := [.int y64]) (rest := []) (Tc := [(h0, ob 7 [.ref h1, .ref h2, .int h0f2, .ref h3, .ref h4, .ref h5, .int v2, .ref h6, .int h0f8, .ref h7, .ref h8, .int h0f11, .ref h9, .ref h10, .ref h11, .ref h12, .ref h13]), (h1, ob 4 [.int h1f0, .int h1f1, .int h1f2, .ref h14]), (h5, ob 3 [.ref h22, .ref h23, .ref h24, .ref h25, .ref h26, .ref h27, .ref h28, .ref h29, .int v3, .int v4, .int v5, .int v6]), (h12, aJ (k 1) 9 anJ), (h13, aJ (k 1) 9 anJ), (h14, aJ (k 1) 36 anJ), (h22, aJ (k 1) 900 anJ)]) hx hb hml hown hU hK hT rfl rfl [1, 2, 3, 5, 0, 6, 7] rfl (by decide) (cX10_isInMiddle_0a01b l D k _ h0 h1 h5 h12 h13 h14 h22 h2 h3 h4 h6 h7 h8 h9 h10 h11 h23 h24 h25 h26 h27 h28 h29 y64 h0f2 v2 h0f8 h0f11 h1f0 h1f1 h1f2 v3 v4 v5 v6 (by omega) (by omega) (by omega) (by omega) (by omega) (by omega) (by omega) (by omega) (by omega) (by omega) (by omega)) w605 w602 w604 w16 w63 hdX10_isInMiddle ⟨rfl, rfl⟩ ⟨Nat.le_of_ble_eq_true rfl, Nat.le_of_ble_eq_true rfl⟩ rfl hl.1 (Nat.le_of_ble_eq_true rfl) dX10_middle_21 ⟨Nat.le_of_ble_eq_true rfl, Nat.le_of_ble_eq_true rfl⟩) hT hS hA [1, 2, 3, 5, 0, 6, 7] [4, 8, 9, 10, 11, 12, 13, 14] rfl rfl rfl (by decide) (by decide) (fun r68 H locs hB J hS => ?_)
        obtain ⟨b_r68, hT1⟩ := hB
        have hT := J _ hT1
        have hT : TP D A [(h9, ob 2 [.ref h1, .int v7]), (h23, aI (k 0) 100 anI), (h24, aI (k 0) 100 anI), (h25, aI (k 0) 100 anI), (h26, aI (k 0) 400 anI), (h27, aI (k 0) 256 (rgI (-1) 99)), (h28, aI (k 0) 100 (rgI (-1) 99)), (h29, aJ (k 1) 60 anJ), (h0, ob 7 [.ref h1, .ref h2, .int h0f2, .ref h3, .ref h4, .ref h5, .int v2, .ref h6, .int h0f8, .ref h7, .ref h8, .int h0f11, .ref h9, .ref h10, .ref h11, .ref h12, .ref h13]), (h1, ob 4 [.int h1f0, .int h1f1, .int h1f2, .ref h14]), (h5, ob 3 [.ref h22, .ref h23, .ref h24, .ref h25, .ref h26, .ref h27, .ref h28, .ref h29, .int v3, .int v4, .int v5, .int v6]), (h12, aJ (k 1) 9 anJ), (h13, aJ (k 1) 9 anJ), (h14, aJ (k 1) 36 anJ), (h22, aJ (k 1) 900 anJ)] H := hT
        refine lv_if_eq (tgt := 30) hx hb dX10_middle_24 (by decide) (fun c_69 => ?_) (fun c_69 => ?_)
        · skip
          have c_69 := ni_eq c_69 rfl li_0
          obtain ⟨v70, e_v70⟩ : ∃ x : Int32, x = y64 + Int32.ofInt 1 := ⟨_, rfl⟩
          have f_v70 := e_v70.symm
          have e_v70 : v70.toInt = y64.toInt + 1 := ai_add e_v70 rfl (show (Int32.ofInt 1).toInt = 1 from (by decide +kernel)) (by omega)
          refine lv_iinc (v := v70) (lv' := [(2, .int v70), (0, .ref h0), (1, .int y65)]) hx hb dX10_middle_30 hl (k := 2) rfl f_v70 (by decide) rfl (fun ls hl => ?_)
          refine lv_goto (tgt := 8) hx hb dX10_middle_33 (by decide) ?_
          exact ih8_66 v70 y65 _ _ _ (by omega)  (by omega) (hT.sub [12, 8, 9, 10, 0, 11, 13, 14, 1, 2, 3, 4, 5, 6, 7] (by decide) rfl) hS (lv_sub hl [1, 2, 0] rfl)
        · skip
          have c_69 := ni_ne c_69 rfl li_0
          obtain ⟨v71, e_v71⟩ : ∃ x : Int32, x = y65 + Int32.ofInt 1 := ⟨_, rfl⟩
          have f_v71 := e_v71.symm
          refine lv_iinc (v := v71) (lv' := [(1, .int v71), (0, .ref h0), (2, .int y64)]) hx hb dX10_middle_27 hl (k := 1) rfl f_v71 (by decide) rfl (fun ls hl => ?_)
          obtain ⟨v72, e_v72⟩ : ∃ x : Int32, x = y64 + Int32.ofInt 1 := ⟨_, rfl⟩
          have f_v72 := e_v72.symm
          have e_v72 : v72.toInt = y64.toInt + 1 := ai_add e_v72 rfl (show (Int32.ofInt 1).toInt = 1 from (by decide +kernel)) (by omega)
          refine lv_iinc (v := v72) (lv' := [(2, .int v72), (1, .int v71), (0, .ref h0)]) hx hb dX10_middle_30 hl (k := 2) rfl f_v72 (by decide) rfl (fun ls hl => ?_)
          refine lv_goto (tgt := 8) hx hb dX10_middle_33 (by decide) ?_
          exact ih8_66 v72 v71 _ _ _ (by omega)  (by omega) (hT.sub [12, 8, 9, 10, 0, 11, 13, 14, 1, 2, 3, 4, 5, 6, 7] (by decide) rfl) hS (lv_sub hl [2, 1, 0] rfl)
  exact lp8_66 ((v5.toInt + (-1) * (0 : Int32).toInt + 1).toNat + 1) (0) (0) _ _ _ (by have := li_0; omega)  (Nat.lt_succ_self _) hT hS (lv_sub hl [2, 1, 0] rfl)
abbrev Rm_cX11_middle_40c12 : Room := { frames := 3, cells := 0, slots := 0, locals := 70 }
abbrev B_cX11_middle_40c12 (D : va_G) (k : Nat → ClassId) (h0 h1 h3 h4 h5 h6 h10 h11 h12 h13 h2 h7 h8 h9 h14 h15 h16 h17 h18 h19 h20 h21 : Nat) (h0f0 : Int32) (h0f1 : Int32) (h0f2 : Int32) (h0f3 : Int32) (h0f4 : Int32) (h0f5 : Int32) (h0f8 : Int32) (h0f9 : Int32) (h0f17 : Int32) (h0f18 : Int32) (h0f19 : Int32) (h0f24 : Int32) (h0f25 : Int32) (h0f30 : Int32) (h0f31 : Int32) (A : Nat → Prop) (r : Int32) (H : Heap) : Prop := ∃ o0 : Int32, ∃ o1 : Int32, ∃ o2 : Int32, (1 ≤ o0.toInt ∧ o0.toInt ≤ 1) ∧ (0 ≤ o1.toInt ∧ o1.toInt ≤ 100) ∧ (0 ≤ o2.toInt ∧ o2.toInt ≤ 1) ∧ TP D A [(h0, ob 8 [.int h0f0, .int h0f1, .int h0f2, .int h0f3, .int h0f4, .int h0f5, .ref h1, .ref h2, .int h0f8, .int o0, .ref h3, .ref h4, .ref h5, .ref h6, .ref h7, .ref h8, .ref h9, .int h0f17, .int h0f18, .int h0f19, .ref h10, .ref h11, .ref h12, .ref h13, .int o1, .int o2, .ref h14, .ref h15, .ref h16, .ref h17, .int h0f30, .int h0f31, .ref h18, .ref h19, .ref h20, .ref h21]), (h1, aI (k 0) 36 anI), (h3, aJ (k 1) 9 anJ), (h4, aJ (k 1) 9 anJ), (h5, aJ (k 1) 9 anJ), (h6, aJ (k 1) 9 anJ), (h10, aJ (k 1) 900 anJ), (h11, aI (k 0) 100 anI), (h12, aI (k 0) 100 anI), (h13, aI (k 0) 100 anI)] H
set_option maxHeartbeats 4000000 in
set_option maxRecDepth 100000 in
theorem cX11_middle_40c12 (l : Launch) (D : va_G) (k : Nat → ClassId) (sz : Nat) (h0 h1 h3 h4 h5 h6 h10 h11 h12 h13 h2 h7 h8 h9 h14 h15 h16 h17 h18 h19 h20 h21 : Nat) (h0f0 : Int32) (h0f1 : Int32) (h0f2 : Int32) (h0f3 : Int32) (h0f4 : Int32) (h0f5 : Int32) (h0f8 : Int32) (h0f9 : Int32) (h0f17 : Int32) (h0f18 : Int32) (h0f19 : Int32) (h0f24 : Int32) (h0f25 : Int32) (h0f30 : Int32) (h0f31 : Int32) (b_h0f0 : 1 ≤ h0f0.toInt ∧ h0f0.toInt ≤ 3) (b_h0f1 : 0 ≤ h0f1.toInt ∧ h0f1.toInt ≤ 4) (b_h0f3 : 0 ≤ h0f3.toInt ∧ h0f3.toInt ≤ 3) (b_h0f4 : 0 ≤ h0f4.toInt ∧ h0f4.toInt ≤ 4) (b_h0f8 : 0 ≤ h0f8.toInt ∧ h0f8.toInt ≤ 1) (b_h0f9 : 0 ≤ h0f9.toInt ∧ h0f9.toInt ≤ 1) (b_h0f17 : 0 ≤ h0f17.toInt ∧ h0f17.toInt ≤ 120) (b_h0f18 : 0 ≤ h0f18.toInt ∧ h0f18.toInt ≤ 120) (b_h0f19 : 0 ≤ h0f19.toInt ∧ h0f19.toInt ≤ 4) (b_h0f24 : 0 ≤ h0f24.toInt ∧ h0f24.toInt ≤ 100) (b_h0f25 : 0 ≤ h0f25.toInt ∧ h0f25.toInt ≤ 1) (b_h0f30 : 0 ≤ h0f30.toInt ∧ h0f30.toInt ≤ 60) (b_h0f31 : 0 ≤ h0f31.toInt ∧ h0f31.toInt ≤ 1) : Met l yX11_middle (Cond.code yX11_middle cX11_middle 6 (some .int) :: uw) Rm_cX11_middle_40c12 (pT D k sz [.ref h0] [(h0, ob 8 [.int h0f0, .int h0f1, .int h0f2, .int h0f3, .int h0f4, .int h0f5, .ref h1, .ref h2, .int h0f8, .int h0f9, .ref h3, .ref h4, .ref h5, .ref h6, .ref h7, .ref h8, .ref h9, .int h0f17, .int h0f18, .int h0f19, .ref h10, .ref h11, .ref h12, .ref h13, .int h0f24, .int h0f25, .ref h14, .ref h15, .ref h16, .ref h17, .int h0f30, .int h0f31, .ref h18, .ref h19, .ref h20, .ref h21]), (h1, aI (k 0) 36 anI), (h3, aJ (k 1) 9 anJ), (h4, aJ (k 1) 9 anJ), (h5, aJ (k 1) 9 anJ), (h6, aJ (k 1) 9 anJ), (h10, aJ (k 1) 900 anJ), (h11, aI (k 0) 100 anI), (h12, aI (k 0) 100 anI), (h13, aI (k 0) 100 anI)]) (qI (B_cX11_middle_40c12 D k h0 h1 h3 h4 h5 h6 h10 h11 h12 h13 h2 h7 h8 h9 h14 h15 h16 h17 h18 h19 h20 h21 h0f0 h0f1 h0f2 h0f3 h0f4 h0f5 h0f8 h0f9 h0f17 h0f18 h0f19 h0f24 h0f25 h0f30 h0f31 (zA [h0, h1, h3, h4, h5, h6, h10, h11, h12, h13] sz)) (zA [h0, h1, h3, h4, h5, h6, h10, h11, h12, h13] sz)) 0 0 (zA [h0, h1, h3, h4, h5, h6, h10, h11, h12, h13] sz) := by
  refine tz_begin (as := [h0, h1, h3, h4, h5, h6, h10, h11, h12, h13]) (Qc := fun A => qI (B_cX11_middle_40c12 D k h0 h1 h3 h4 h5 h6 h10 h11 h12 h13 h2 h7 h8 h9 h14 h15 h16 h17 h18 h19 h20 h21 h0f0 h0f1 h0f2 h0f3 h0f4 h0f5 h0f8 h0f9 h0f17 h0f18 h0f19 h0f24 h0f25 h0f30 h0f31 A) A) (by decide +kernel) rfl (Nat.le_of_ble_eq_true rfl) ?_
  intro p e s m args below meth c ls A Q hx hb hr hml hown hlocks hin hU hK hT hS hA hl hQ
  have hl : lv_has ls 6 [(0, .ref h0)] := hl
  have hT : TP D A [(h0, ob 8 [.int h0f0, .int h0f1, .int h0f2, .int h0f3, .int h0f4, .int h0f5, .ref h1, .ref h2, .int h0f8, .int h0f9, .ref h3, .ref h4, .ref h5, .ref h6, .ref h7, .ref h8, .ref h9, .int h0f17, .int h0f18, .int h0f19, .ref h10, .ref h11, .ref h12, .ref h13, .int h0f24, .int h0f25, .ref h14, .ref h15, .ref h16, .ref h17, .int h0f30, .int h0f31, .ref h18, .ref h19, .ref h20, .ref h21]), (h1, aI (k 0) 36 anI), (h3, aJ (k 1) 9 anJ), (h4, aJ (k 1) 9 anJ), (h5, aJ (k 1) 9 anJ), (h6, aJ (k 1) 9 anJ), (h10, aJ (k 1) 900 anJ), (h11, aI (k 0) 100 anI), (h12, aI (k 0) 100 anI), (h13, aI (k 0) 100 anI)] s.heap := hT
  refine lv_aload_n hx hb dX11_middle_0 rfl (lv_at hl 0 rfl) ?_
  refine tcV (Tc := [(h0, ob 8 [.int h0f0, .int h0f1, .int h0f2, .int h0f3, .int h0f4, .int h0f5, .ref h1, .ref h2, .int h0f8, .int h0f9, .ref h3, .ref h4, .ref h5, .ref h6, .ref h7, .ref h8, .ref h9, .int h0f17, .int h0f18, .int h0f19, .ref h10, .ref h11, .ref h12, .ref h13, .int h0f24, .int h0f25, .ref h14, .ref h15, .ref h16, .ref h17, .int h0f30, .int h0f31, .ref h18, .ref h19, .ref h20, .ref h21]), (h1, aI (k 0) 36 anI), (h4, aJ (k 1) 9 anJ), (h5, aJ (k 1) 9 anJ), (h6, aJ (k 1) 9 anJ), (h10, aJ (k 1) 900 anJ), (h11, aI (k 0) 100 anI), (h12, aI (k 0) 100 anI), (h13, aI (k 0) 100 anI)]) (Tr := [(h3, aJ (k 1) 9 anJ)]) (as := [h0, h1, h4, h5, h6, h10, h11, h12, h13]) (zcV (q0 := 0) (ci := 8) (As := []) (rest := []) (Tc := [(h0, ob 8 [.int h0f0, .int h0f1, .int h0f2, .int h0f3, .int h0f4, .int h0f5, .ref h1, .ref h2, .int h0f8, .int h0f9, .ref h3, .ref h4, .ref h5, .ref h6, .ref h7, .ref h8, .ref h9, .int h0f17, .int h0f18, .int h0f19, .ref h10, .ref h11, .ref h12, .ref h13, .int h0f24, .int h0f25, .ref h14, .ref h15, .ref h16, .ref h17, .int h0f30, .int h0f31, .ref h18, .ref h19, .ref h20, .ref h21]), (h1, aI (k 0) 36 anI), (h4, aJ (k 1) 9 anJ), (h5, aJ (k 1) 9 anJ), (h6, aJ (k 1) 9 anJ), (h10, aJ (k 1) 900 anJ), (h11, aI (k 0) 100 anI), (h12, aI (k 0) 100 anI), (h13, aI (k 0) 100 anI)]) hx hb hml hown hU hK hT rfl rfl [0, 1, 3, 4, 5, 6, 7, 8, 9] rfl (by decide) (cX11_findList_726e6 l D k _ h0 h1 h4 h5 h6 h10 h11 h12 h13 h2 h3 h7 h8 h9 h14 h15 h16 h17 h18 h19 h20 h21 h0f0 h0f1 h0f2 h0f3 h0f4 h0f5 h0f8 h0f9 h0f17 h0f18 h0f19 h0f24 h0f25 h0f30 h0f31 (by omega) (by omega) (by omega) (by omega) (by omega) (by omega) (by omega) (by omega) (by omega) (by omega) (by omega) (by omega) (by omega)) w1039 w1036 w1038 w47 w72 hdX11_findList ⟨rfl, rfl⟩ ⟨Nat.le_of_ble_eq_true rfl, Nat.le_of_ble_eq_true rfl⟩ rfl hl.1 (Nat.le_of_ble_eq_true rfl) dX11_middle_1 ⟨Nat.le_of_ble_eq_true rfl, Nat.le_of_ble_eq_true rfl⟩) hT hS hA [0, 1, 3, 4, 5, 6, 7, 8, 9] [2] rfl rfl rfl (by decide) (by decide) (fun H locs hB J hS => ?_)
  obtain ⟨v2, v3, v4, b_v2, b_v3, b_v4, hT1⟩ := hB
  have hT := J _ hT1
  have hT : TP D A [(h3, aJ (k 1) 9 anJ), (h0, ob 8 [.int h0f0, .int h0f1, .int h0f2, .int h0f3, .int h0f4, .int h0f5, .ref h1, .ref h2, .int h0f8, .int v2, .ref h3, .ref h4, .ref h5, .ref h6, .ref h7, .ref h8, .ref h9, .int h0f17, .int h0f18, .int h0f19, .ref h10, .ref h11, .ref h12, .ref h13, .int v3, .int v4, .ref h14, .ref h15, .ref h16, .ref h17, .int h0f30, .int h0f31, .ref h18, .ref h19, .ref h20, .ref h21]), (h1, aI (k 0) 36 anI), (h4, aJ (k 1) 9 anJ), (h5, aJ (k 1) 9 anJ), (h6, aJ (k 1) 9 anJ), (h10, aJ (k 1) 900 anJ), (h11, aI (k 0) 100 anI), (h12, aI (k 0) 100 anI), (h13, aI (k 0) 100 anI)] H := hT
  refine lv_iconst (v := 0) hx hb dX11_middle_4 (by decide) ?_
  refine lv_istore_n (lv' := [(1, .int 0), (0, .ref h0)]) hx hb dX11_middle_5 rfl hl (by decide) rfl (fun ls hl => ?_)
  refine lv_iconst (v := 0) hx hb dX11_middle_6 (by decide) ?_
  refine lv_istore_n (lv' := [(2, .int 0), (1, .int 0), (0, .ref h0)]) hx hb dX11_middle_7 rfl hl (by decide) rfl (fun ls hl => ?_)
  have lp8_65 : ∀ (n : Nat) (y63 : Int32) (y64 : Int32) (H : Heap) (locs : List Loc) (ls : Array Slot), (0 ≤ y63.toInt ∧ y63.toInt ≤ 100) → (v3.toInt + (-1) * y63.toInt + 1).toNat < n → TP D A [(h3, aJ (k 1) 9 anJ), (h0, ob 8 [.int h0f0, .int h0f1, .int h0f2, .int h0f3, .int h0f4, .int h0f5, .ref h1, .ref h2, .int h0f8, .int v2, .ref h3, .ref h4, .ref h5, .ref h6, .ref h7, .ref h8, .ref h9, .int h0f17, .int h0f18, .int h0f19, .ref h10, .ref h11, .ref h12, .ref h13, .int v3, .int v4, .ref h14, .ref h15, .ref h16, .ref h17, .int h0f30, .int h0f31, .ref h18, .ref h19, .ref h20, .ref h21]), (h1, aI (k 0) 36 anI), (h4, aJ (k 1) 9 anJ), (h5, aJ (k 1) 9 anJ), (h6, aJ (k 1) 9 anJ), (h10, aJ (k 1) 900 anJ), (h11, aI (k 0) 100 anI), (h12, aI (k 0) 100 anI), (h13, aI (k 0) 100 anI)] H → va_S A s.heap H locs → lv_has ls 6 [(0, .ref h0), (1, .int y64), (2, .int y63)] → W p l e Rm_cX11_middle_40c12 s m args below meth c H locs 0 0 Q (F0 m 8 ls []) := by
    intro n
    induction n with
    | zero => intro y63 y64 H locs ls b_y63 hm hT hS hl; exact absurd hm (Nat.not_lt_zero _)
    | succ n ih =>
      intro y63 y64 H locs ls b_y63 hm hT hS hl
      have ih8_65 := ih
      clear ih
      refine lv_iload_n hx hb dX11_middle_8 rfl (lv_at hl 2 rfl) ?_
      refine lv_aload_n hx hb dX11_middle_9 rfl (lv_at hl 0 rfl) ?_
      refine tz_get (ci := 8) (v := .int v3) (C := RX11) (F := TX11) (N := 36) hx hb hU iX11 hown hK hT 1 rfl rfl 24 (by decide) w809 (fun _ h9 => h9) rfl dX11_middle_10 ?_
      refine lv_icmp_ge (tgt := 149) hx hb dX11_middle_13 (by decide) (fun c_66 => ?_) (fun c_66 => ?_)
      · skip
        have c_66 := ni_le c_66 rfl rfl
        refine lv_iload_n hx hb dX11_middle_149 rfl (lv_at hl 1 rfl) ?_
        exact tz_retI (B := B_cX11_middle_40c12 D k h0 h1 h3 h4 h5 h6 h10 h11 h12 h13 h2 h7 h8 h9 h14 h15 h16 h17 h18 h19 h20 h21 h0f0 h0f1 h0f2 h0f3 h0f4 h0f5 h0f8 h0f9 h0f17 h0f18 h0f19 h0f24 h0f25 h0f30 h0f31) (v := y64) hQ hx hb hr hlocks hS (Nat.le_of_ble_eq_true rfl) (Nat.le_of_ble_eq_true rfl) dX11_middle_150 (⟨v2, v3, v4, (by omega), (by omega), (by omega), (hT.sub [1, 2, 0, 3, 4, 5, 6, 7, 8, 9] (by decide) rfl)⟩)
      · skip
        have c_66 := ni_nle c_66 rfl rfl
        refine lv_iconst (v := 1) hx hb dX11_middle_16 (by decide) ?_
        refine lv_istore_n (lv' := [(3, .int 1), (0, .ref h0), (1, .int y64), (2, .int y63)]) hx hb dX11_middle_17 rfl hl (by decide) rfl (fun ls hl => ?_)
        refine lv_iconst (v := 0) hx hb dX11_middle_18 (by decide) ?_
        refine lv_istore (lv' := [(4, .int 0), (3, .int 1), (0, .ref h0), (1, .int y64), (2, .int y63)]) hx hb dX11_middle_19 hl (by decide) rfl (fun ls hl => ?_)
        have lp21_75 : ∀ (n : Nat) (y73 : Int32) (y74 : Int32) (H : Heap) (locs : List Loc) (ls : Array Slot), (0 ≤ y73.toInt ∧ y73.toInt ≤ 4) → (0 ≤ y74.toInt ∧ y74.toInt ≤ 1) → (h0f1.toInt + (-1) * y73.toInt + 1).toNat < n → TP D A [(h3, aJ (k 1) 9 anJ), (h0, ob 8 [.int h0f0, .int h0f1, .int h0f2, .int h0f3, .int h0f4, .int h0f5, .ref h1, .ref h2, .int h0f8, .int v2, .ref h3, .ref h4, .ref h5, .ref h6, .ref h7, .ref h8, .ref h9, .int h0f17, .int h0f18, .int h0f19, .ref h10, .ref h11, .ref h12, .ref h13, .int v3, .int v4, .ref h14, .ref h15, .ref h16, .ref h17, .int h0f30, .int h0f31, .ref h18, .ref h19, .ref h20, .ref h21]), (h1, aI (k 0) 36 anI), (h4, aJ (k 1) 9 anJ), (h5, aJ (k 1) 9 anJ), (h6, aJ (k 1) 9 anJ), (h10, aJ (k 1) 900 anJ), (h11, aI (k 0) 100 anI), (h12, aI (k 0) 100 anI), (h13, aI (k 0) 100 anI)] H → va_S A s.heap H locs → lv_has ls 6 [(0, .ref h0), (1, .int y64), (2, .int y63), (3, .int y74), (4, .int y73)] → W p l e Rm_cX11_middle_40c12 s m args below meth c H locs 0 0 Q (F0 m 21 ls []) := by
          intro n
          induction n with
          | zero => intro y73 y74 H locs ls b_y73 b_y74 hm hT hS hl; exact absurd hm (Nat.not_lt_zero _)
          | succ n ih =>
            intro y73 y74 H locs ls b_y73 b_y74 hm hT hS hl
            have ih21_75 := ih
            clear ih
            refine lv_iload hx hb dX11_middle_21 (lv_at hl 4 rfl) ?_
            refine lv_aload_n hx hb dX11_middle_23 rfl (lv_at hl 0 rfl) ?_
            refine tz_get (ci := 8) (v := .int h0f1) (C := RX11) (F := TX11) (N := 36) hx hb hU iX11 hown hK hT 1 rfl rfl 1 (by decide) w786 (fun _ h9 => h9) rfl dX11_middle_24 ?_
            refine lv_icmp_ge (tgt := 131) hx hb dX11_middle_27 (by decide) (fun c_76 => ?_) (fun c_76 => ?_)
            · skip
              have c_76 := ni_le c_76 rfl rfl
              refine lv_iload_n hx hb dX11_middle_131 rfl (lv_at hl 1 rfl) ?_
              refine lv_iload_n hx hb dX11_middle_132 rfl (lv_at hl 3 rfl) ?_
              refine lv_if_eq (tgt := 140) hx hb dX11_middle_133 (by decide) (fun c_77 => ?_) (fun c_77 => ?_)
              · skip
                have c_77 := ni_eq c_77 rfl li_0
                refine lv_iconst (v := 0) hx hb dX11_middle_140 (by decide) ?_
                refine lv_iadd hx hb dX11_middle_141 (lv_topi (fun v78 e_v78 => ?_))
                refine lv_istore_n (lv' := [(1, .int v78), (0, .ref h0), (2, .int y63), (3, .int y74), (4, .int y73)]) hx hb dX11_middle_142 rfl hl (by decide) rfl (fun ls hl => ?_)
                obtain ⟨v79, e_v79⟩ : ∃ x : Int32, x = y63 + Int32.ofInt 1 := ⟨_, rfl⟩
                have f_v79 := e_v79.symm
                have e_v79 : v79.toInt = y63.toInt + 1 := ai_add e_v79 rfl (show (Int32.ofInt 1).toInt = 1 from (by decide +kernel)) (by omega)
                refine lv_iinc (v := v79) (lv' := [(2, .int v79), (1, .int v78), (0, .ref h0), (3, .int y74), (4, .int y73)]) hx hb dX11_middle_143 hl (k := 2) rfl f_v79 (by decide) rfl (fun ls hl => ?_)
                refine lv_goto (tgt := 8) hx hb dX11_middle_146 (by decide) ?_
                exact ih8_65 v79 v78 _ _ _ (by omega)  (by omega) hT hS (lv_sub hl [2, 1, 0] rfl)
              · skip
                have c_77 := ni_ne c_77 rfl li_0
                refine lv_iconst (v := 1) hx hb dX11_middle_136 (by decide) ?_
                refine lv_goto (tgt := 141) hx hb dX11_middle_137 (by decide) ?_
                refine lv_iadd hx hb dX11_middle_141 (lv_topi (fun v80 e_v80 => ?_))
                refine lv_istore_n (lv' := [(1, .int v80), (0, .ref h0), (2, .int y63), (3, .int y74), (4, .int y73)]) hx hb dX11_middle_142 rfl hl (by decide) rfl (fun ls hl => ?_)
                obtain ⟨v81, e_v81⟩ : ∃ x : Int32, x = y63 + Int32.ofInt 1 := ⟨_, rfl⟩
                have f_v81 := e_v81.symm
                have e_v81 : v81.toInt = y63.toInt + 1 := ai_add e_v81 rfl (show (Int32.ofInt 1).toInt = 1 from (by decide +kernel)) (by omega)
                refine lv_iinc (v := v81) (lv' := [(2, .int v81), (1, .int v80), (0, .ref h0), (3, .int y74), (4, .int y73)]) hx hb dX11_middle_143 hl (k := 2) rfl f_v81 (by decide) rfl (fun ls hl => ?_)
                refine lv_goto (tgt := 8) hx hb dX11_middle_146 (by decide) ?_
                exact ih8_65 v81 v80 _ _ _ (by omega)  (by omega) hT hS (lv_sub hl [2, 1, 0] rfl)
            · skip
              have c_76 := ni_nle c_76 rfl rfl
              refine lv_aload_n hx hb dX11_middle_30 rfl (lv_at hl 0 rfl) ?_
              refine lv_iload_n hx hb dX11_middle_31 rfl (lv_at hl 2 rfl) ?_
              refine lv_aload_n hx hb dX11_middle_32 rfl (lv_at hl 0 rfl) ?_
              refine tz_get (ci := 8) (v := .ref h4) (C := RX11) (F := TX11) (N := 36) hx hb hU iX11 hown hK hT 1 rfl rfl 11 (by decide) w796 (fun _ h9 => h9) rfl dX11_middle_33 ?_
              refine tcV (Tc := [(h0, ob 8 [.int h0f0, .int h0f1, .int h0f2, .int h0f3, .int h0f4, .int h0f5, .ref h1, .ref h2, .int h0f8, .int v2, .ref h3, .ref h4, .ref h5, .ref h6, .ref h7, .ref h8, .ref h9, .int h0f17, .int h0f18, .int h0f19, .ref h10, .ref h11, .ref h12, .ref h13, .int v3, .int v4, .ref h14, .ref h15, .ref h16, .ref h17, .int h0f30, .int h0f31, .ref h18, .ref h19, .ref h20, .ref h21]), (h4, aJ (k 1) 9 anJ), (h10, aJ (k 1) 900 anJ)]) (Tr := [(h3, aJ (k 1) 9 anJ), (h1, aI (k 0) 36 anI), (h5, aJ (k 1) 9 anJ), (h6, aJ (k 1) 9 anJ), (h11, aI (k 0) 100 anI), (h12, aI (k 0) 100 anI), (h13, aI (k 0) 100 anI)]) (as := [h0, h4, h10]) (zcV (q0 := 1) (ci := 8) (As := [.int y63, .ref h4]) (rest := []) (Tc := [(h0, ob 8 [.int h0f0, .int h0f1, .int h0f2, .int h0f3, .int h0f4, .int h0f5, .ref h1, .ref h2, .int h0f8, .int v2, .ref h3, .ref h4, .ref h5, .ref h6, .ref h7, .ref h8, .ref h9, .int h0f17, .int h0f18, .int h0f19, .ref h10, .ref h11, .ref h12, .ref h13, .int v3, .int v4, .ref h14, .ref h15, .ref h16, .ref h17, .int h0f30, .int h0f31, .ref h18, .ref h19, .ref h20, .ref h21]), (h4, aJ (k 1) 9 anJ), (h10, aJ (k 1) 900 anJ)]) hx hb hml hown hU hK hT rfl rfl [1, 3, 6] rfl (by decide) (cX11_takesElement_537ef l D k _ h0 h4 h10 h1 h2 h3 h5 h6 h7 h8 h9 h11 h12 h13 h14 h15 h16 h17 h18 h19 h20 h21 y63 h0f0 h0f1 h0f2 h0f3 h0f4 h0f5 h0f8 v2 h0f17 h0f18 h0f19 v3 v4 h0f30 h0f31 (by omega) (by omega) (by omega) (by omega) (by omega) (by omega) (by omega) (by omega) (by omega) (by omega) (by omega) (by omega) (by omega) (by omega)) w1047 w1044 w1046 w49 w72 hdX11_takesElement ⟨rfl, rfl⟩ ⟨Nat.le_of_ble_eq_true rfl, Nat.le_of_ble_eq_true rfl⟩ rfl hl.1 (Nat.le_of_ble_eq_true rfl) dX11_middle_36 ⟨Nat.le_of_ble_eq_true rfl, Nat.le_of_ble_eq_true rfl⟩) hT hS hA [1, 3, 6] [0, 2, 4, 5, 7, 8, 9] rfl rfl rfl (by decide) (by decide) (fun H locs hB J hS => ?_)
              have hT1 := hB
              have hT := J _ hT1
              have hT : TP D A [(h3, aJ (k 1) 9 anJ), (h1, aI (k 0) 36 anI), (h5, aJ (k 1) 9 anJ), (h6, aJ (k 1) 9 anJ), (h11, aI (k 0) 100 anI), (h12, aI (k 0) 100 anI), (h13, aI (k 0) 100 anI), (h0, ob 8 [.int h0f0, .int h0f1, .int h0f2, .int h0f3, .int h0f4, .int h0f5, .ref h1, .ref h2, .int h0f8, .int v2, .ref h3, .ref h4, .ref h5, .ref h6, .ref h7, .ref h8, .ref h9, .int h0f17, .int h0f18, .int h0f19, .ref h10, .ref h11, .ref h12, .ref h13, .int v3, .int v4, .ref h14, .ref h15, .ref h16, .ref h17, .int h0f30, .int h0f31, .ref h18, .ref h19, .ref h20, .ref h21]), (h4, aJ (k 1) 9 anJ), (h10, aJ (k 1) 900 anJ)] H := hT
              refine lv_aload_n hx hb dX11_middle_39 rfl (lv_at hl 0 rfl) ?_
              refine lv_iload hx hb dX11_middle_40 (lv_at hl 4 rfl) ?_
              refine lv_aload_n hx hb dX11_middle_42 rfl (lv_at hl 0 rfl) ?_
              refine tz_get (ci := 8) (v := .ref h5) (C := RX11) (F := TX11) (N := 36) hx hb hU iX11 hown hK hT 7 rfl rfl 12 (by decide) w797 (fun _ h9 => h9) rfl dX11_middle_43 ?_
              refine tcV (Tc := [(h0, ob 8 [.int h0f0, .int h0f1, .int h0f2, .int h0f3, .int h0f4, .int h0f5, .ref h1, .ref h2, .int h0f8, .int v2, .ref h3, .ref h4, .ref h5, .ref h6, .ref h7, .ref h8, .ref h9, .int h0f17, .int h0f18, .int h0f19, .ref h10, .ref h11, .ref h12, .ref h13, .int v3, .int v4, .ref h14, .ref h15, .ref h16, .ref h17, .int h0f30, .int h0f31, .ref h18, .ref h19, .ref h20, .ref h21]), (h5, aJ (k 1) 9 anJ), (h1, aI (k 0) 36 anI)]) (Tr := [(h3, aJ (k 1) 9 anJ), (h6, aJ (k 1) 9 anJ), (h11, aI (k 0) 100 anI), (h12, aI (k 0) 100 anI), (h13, aI (k 0) 100 anI), (h4, aJ (k 1) 9 anJ), (h10, aJ (k 1) 900 anJ)]) (as := [h0, h5, h1]) (zcV (q0 := 7) (ci := 8) (As := [.int y73, .ref h5]) (rest := []) (Tc := [(h0, ob 8 [.int h0f0, .int h0f1, .int h0f2, .int h0f3, .int h0f4, .int h0f5, .ref h1, .ref h2, .int h0f8, .int v2, .ref h3, .ref h4, .ref h5, .ref h6, .ref h7, .ref h8, .ref h9, .int h0f17, .int h0f18, .int h0f19, .ref h10, .ref h11, .ref h12, .ref h13, .int v3, .int v4, .ref h14, .ref h15, .ref h16, .ref h17, .int h0f30, .int h0f31, .ref h18, .ref h19, .ref h20, .ref h21]), (h5, aJ (k 1) 9 anJ), (h1, aI (k 0) 36 anI)]) hx hb hml hown hU hK hT rfl rfl [7, 2, 1] rfl (by decide) (cX11_takes_c4d20 l D k _ h0 h5 h1 h2 h3 h4 h6 h7 h8 h9 h10 h11 h12 h13 h14 h15 h16 h17 h18 h19 h20 h21 y73 h0f0 h0f1 h0f2 h0f3 h0f4 h0f5 h0f8 v2 h0f17 h0f18 h0f19 v3 v4 h0f30 h0f31 (by omega) (by omega) (by omega) (by omega) (by omega) (by omega) (by omega) (by omega) (by omega) (by omega) (by omega) (by omega) (by omega) (by omega)) w939 w936 w938 w32 w72 hdX11_takes ⟨rfl, rfl⟩ ⟨Nat.le_of_ble_eq_true rfl, Nat.le_of_ble_eq_true rfl⟩ rfl hl.1 (Nat.le_of_ble_eq_true rfl) dX11_middle_46 ⟨Nat.le_of_ble_eq_true rfl, Nat.le_of_ble_eq_true rfl⟩) hT hS hA [7, 2, 1] [0, 3, 4, 5, 6, 8, 9] rfl rfl rfl (by decide) (by decide) (fun H locs hB J hS => ?_)
              have hT1 := hB
              have hT := J _ hT1
              have hT : TP D A [(h3, aJ (k 1) 9 anJ), (h6, aJ (k 1) 9 anJ), (h11, aI (k 0) 100 anI), (h12, aI (k 0) 100 anI), (h13, aI (k 0) 100 anI), (h4, aJ (k 1) 9 anJ), (h10, aJ (k 1) 900 anJ), (h0, ob 8 [.int h0f0, .int h0f1, .int h0f2, .int h0f3, .int h0f4, .int h0f5, .ref h1, .ref h2, .int h0f8, .int v2, .ref h3, .ref h4, .ref h5, .ref h6, .ref h7, .ref h8, .ref h9, .int h0f17, .int h0f18, .int h0f19, .ref h10, .ref h11, .ref h12, .ref h13, .int v3, .int v4, .ref h14, .ref h15, .ref h16, .ref h17, .int h0f30, .int h0f31, .ref h18, .ref h19, .ref h20, .ref h21]), (h5, aJ (k 1) 9 anJ), (h1, aI (k 0) 36 anI)] H := hT
              refine lv_aload_n hx hb dX11_middle_49 rfl (lv_at hl 0 rfl) ?_
              refine lv_aload_n hx hb dX11_middle_50 rfl (lv_at hl 0 rfl) ?_
              refine tz_get (ci := 8) (v := .ref h4) (C := RX11) (F := TX11) (N := 36) hx hb hU iX11 hown hK hT 7 rfl rfl 11 (by decide) w796 (fun _ h9 => h9) rfl dX11_middle_51 ?_
              refine lv_aload_n hx hb dX11_middle_54 rfl (lv_at hl 0 rfl) ?_
              refine tz_get (ci := 8) (v := .ref h5) (C := RX11) (F := TX11) (N := 36) hx hb hU iX11 hown hK hT 7 rfl rfl 12 (by decide) w797 (fun _ h9 => h9) rfl dX11_middle_55 ?_
              refine lv_aload_n hx hb dX11_middle_58 rfl (lv_at hl 0 rfl) ?_
              refine tz_get (ci := 8) (v := .ref h6) (C := RX11) (F := TX11) (N := 36) hx hb hU iX11 hown hK hT 7 rfl rfl 13 (by decide) w798 (fun _ h9 => h9) rfl dX11_middle_59 ?_
              refine tcV (Tc := [(h0, ob 8 [.int h0f0, .int h0f1, .int h0f2, .int h0f3, .int h0f4, .int h0f5, .ref h1, .ref h2, .int h0f8, .int v2, .ref h3, .ref h4, .ref h5, .ref h6, .ref h7, .ref h8, .ref h9, .int h0f17, .int h0f18, .int h0f19, .ref h10, .ref h11, .ref h12, .ref h13, .int v3, .int v4, .ref h14, .ref h15, .ref h16, .ref h17, .int h0f30, .int h0f31, .ref h18, .ref h19, .ref h20, .ref h21]), (h4, aJ (k 1) 9 anJ), (h5, aJ (k 1) 9 anJ), (h6, aJ (k 1) 9 anJ)]) (Tr := [(h3, aJ (k 1) 9 anJ), (h11, aI (k 0) 100 anI), (h12, aI (k 0) 100 anI), (h13, aI (k 0) 100 anI), (h10, aJ (k 1) 900 anJ), (h1, aI (k 0) 36 anI)]) (as := [h0, h4, h5, h6]) (zcV (q0 := 7) (ci := 8) (As := [.ref h4, .ref h5, .ref h6]) (rest := []) (Tc := [(h0, ob 8 [.int h0f0, .int h0f1, .int h0f2, .int h0f3, .int h0f4, .int h0f5, .ref h1, .ref h2, .int h0f8, .int v2, .ref h3, .ref h4, .ref h5, .ref h6, .ref h7, .ref h8, .ref h9, .int h0f17, .int h0f18, .int h0f19, .ref h10, .ref h11, .ref h12, .ref h13, .int v3, .int v4, .ref h14, .ref h15, .ref h16, .ref h17, .int h0f30, .int h0f31, .ref h18, .ref h19, .ref h20, .ref h21]), (h4, aJ (k 1) 9 anJ), (h5, aJ (k 1) 9 anJ), (h6, aJ (k 1) 9 anJ)]) hx hb hml hown hU hK hT rfl rfl [7, 5, 8, 1] rfl (by decide) (cX11_times_ef556 l D k _ h0 h4 h5 h6 h1 h2 h3 h7 h8 h9 h10 h11 h12 h13 h14 h15 h16 h17 h18 h19 h20 h21 h0f0 h0f1 h0f2 h0f3 h0f4 h0f5 h0f8 v2 h0f17 h0f18 h0f19 v3 v4 h0f30 h0f31 (by omega) (by omega) (by omega) (by omega) (by omega) (by omega) (by omega) (by omega) (by omega) (by omega) (by omega) (by omega) (by omega)) w943 w940 w942 w33 w72 hdX11_times ⟨rfl, rfl⟩ ⟨Nat.le_of_ble_eq_true rfl, Nat.le_of_ble_eq_true rfl⟩ rfl hl.1 (Nat.le_of_ble_eq_true rfl) dX11_middle_62 ⟨Nat.le_of_ble_eq_true rfl, Nat.le_of_ble_eq_true rfl⟩) hT hS hA [7, 5, 8, 1] [0, 2, 3, 4, 6, 9] rfl rfl rfl (by decide) (by decide) (fun H locs hB J hS => ?_)
              have hT1 := hB
              have hT := J _ hT1
              have hT : TP D A [(h3, aJ (k 1) 9 anJ), (h11, aI (k 0) 100 anI), (h12, aI (k 0) 100 anI), (h13, aI (k 0) 100 anI), (h10, aJ (k 1) 900 anJ), (h1, aI (k 0) 36 anI), (h0, ob 8 [.int h0f0, .int h0f1, .int h0f2, .int h0f3, .int h0f4, .int h0f5, .ref h1, .ref h2, .int h0f8, .int v2, .ref h3, .ref h4, .ref h5, .ref h6, .ref h7, .ref h8, .ref h9, .int h0f17, .int h0f18, .int h0f19, .ref h10, .ref h11, .ref h12, .ref h13, .int v3, .int v4, .ref h14, .ref h15, .ref h16, .ref h17, .int h0f30, .int h0f31, .ref h18, .ref h19, .ref h20, .ref h21]), (h4, aJ (k 1) 9 anJ), (h5, aJ (k 1) 9 anJ), (h6, aJ (k 1) 9 anJ)] H := hT
              refine lv_aload_n hx hb dX11_middle_65 rfl (lv_at hl 0 rfl) ?_
              refine lv_aload_n hx hb dX11_middle_66 rfl (lv_at hl 0 rfl) ?_
              refine tz_get (ci := 8) (v := .ref h5) (C := RX11) (F := TX11) (N := 36) hx hb hU iX11 hown hK hT 6 rfl rfl 12 (by decide) w797 (fun _ h9 => h9) rfl dX11_middle_67 ?_
              refine lv_aload_n hx hb dX11_middle_70 rfl (lv_at hl 0 rfl) ?_
              refine tz_get (ci := 8) (v := .ref h4) (C := RX11) (F := TX11) (N := 36) hx hb hU iX11 hown hK hT 6 rfl rfl 11 (by decide) w796 (fun _ h9 => h9) rfl dX11_middle_71 ?_
              refine lv_aload_n hx hb dX11_middle_74 rfl (lv_at hl 0 rfl) ?_
              refine tz_get (ci := 8) (v := .ref h3) (C := RX11) (F := TX11) (N := 36) hx hb hU iX11 hown hK hT 6 rfl rfl 10 (by decide) w795 (fun _ h9 => h9) rfl dX11_middle_75 ?_
              refine tcV (Tc := [(h0, ob 8 [.int h0f0, .int h0f1, .int h0f2, .int h0f3, .int h0f4, .int h0f5, .ref h1, .ref h2, .int h0f8, .int v2, .ref h3, .ref h4, .ref h5, .ref h6, .ref h7, .ref h8, .ref h9, .int h0f17, .int h0f18, .int h0f19, .ref h10, .ref h11, .ref h12, .ref h13, .int v3, .int v4, .ref h14, .ref h15, .ref h16, .ref h17, .int h0f30, .int h0f31, .ref h18, .ref h19, .ref h20, .ref h21]), (h5, aJ (k 1) 9 anJ), (h4, aJ (k 1) 9 anJ), (h3, aJ (k 1) 9 anJ)]) (Tr := [(h11, aI (k 0) 100 anI), (h12, aI (k 0) 100 anI), (h13, aI (k 0) 100 anI), (h10, aJ (k 1) 900 anJ), (h1, aI (k 0) 36 anI), (h6, aJ (k 1) 9 anJ)]) (as := [h0, h5, h4, h3]) (zcV (q0 := 6) (ci := 8) (As := [.ref h5, .ref h4, .ref h3]) (rest := []) (Tc := [(h0, ob 8 [.int h0f0, .int h0f1, .int h0f2, .int h0f3, .int h0f4, .int h0f5, .ref h1, .ref h2, .int h0f8, .int v2, .ref h3, .ref h4, .ref h5, .ref h6, .ref h7, .ref h8, .ref h9, .int h0f17, .int h0f18, .int h0f19, .ref h10, .ref h11, .ref h12, .ref h13, .int v3, .int v4, .ref h14, .ref h15, .ref h16, .ref h17, .int h0f30, .int h0f31, .ref h18, .ref h19, .ref h20, .ref h21]), (h5, aJ (k 1) 9 anJ), (h4, aJ (k 1) 9 anJ), (h3, aJ (k 1) 9 anJ)]) hx hb hml hown hU hK hT rfl rfl [6, 8, 7, 0] rfl (by decide) (cX11_times_e15ea l D k _ h0 h5 h4 h3 h1 h2 h6 h7 h8 h9 h10 h11 h12 h13 h14 h15 h16 h17 h18 h19 h20 h21 h0f0 h0f1 h0f2 h0f3 h0f4 h0f5 h0f8 v2 h0f17 h0f18 h0f19 v3 v4 h0f30 h0f31 (by omega) (by omega) (by omega) (by omega) (by omega) (by omega) (by omega) (by omega) (by omega) (by omega) (by omega) (by omega) (by omega)) w943 w940 w942 w33 w72 hdX11_times ⟨rfl, rfl⟩ ⟨Nat.le_of_ble_eq_true rfl, Nat.le_of_ble_eq_true rfl⟩ rfl hl.1 (Nat.le_of_ble_eq_true rfl) dX11_middle_78 ⟨Nat.le_of_ble_eq_true rfl, Nat.le_of_ble_eq_true rfl⟩) hT hS hA [6, 8, 7, 0] [1, 2, 3, 4, 5, 9] rfl rfl rfl (by decide) (by decide) (fun H locs hB J hS => ?_)
              have hT1 := hB
              have hT := J _ hT1
              have hT : TP D A [(h11, aI (k 0) 100 anI), (h12, aI (k 0) 100 anI), (h13, aI (k 0) 100 anI), (h10, aJ (k 1) 900 anJ), (h1, aI (k 0) 36 anI), (h6, aJ (k 1) 9 anJ), (h0, ob 8 [.int h0f0, .int h0f1, .int h0f2, .int h0f3, .int h0f4, .int h0f5, .ref h1, .ref h2, .int h0f8, .int v2, .ref h3, .ref h4, .ref h5, .ref h6, .ref h7, .ref h8, .ref h9, .int h0f17, .int h0f18, .int h0f19, .ref h10, .ref h11, .ref h12, .ref h13, .int v3, .int v4, .ref h14, .ref h15, .ref h16, .ref h17, .int h0f30, .int h0f31, .ref h18, .ref h19, .ref h20, .ref h21]), (h5, aJ (k 1) 9 anJ), (h4, aJ (k 1) 9 anJ), (h3, aJ (k 1) 9 anJ)] H := hT
              refine lv_iconst (v := 0) hx hb dX11_middle_81 (by decide) ?_
              refine lv_istore (lv' := [(5, .int 0), (0, .ref h0), (1, .int y64), (2, .int y63), (3, .int y74), (4, .int y73)]) hx hb dX11_middle_82 hl (by decide) rfl (fun ls hl => ?_)
              have lp84_100 : ∀ (n : Nat) (y98 : Int32) (y99 : Int32) (H : Heap) (locs : List Loc) (ls : Array Slot), (0 ≤ y98.toInt ∧ y98.toInt ≤ 9) → (0 ≤ y99.toInt ∧ y99.toInt ≤ 1) → ((-1) * y98.toInt + 9 + 1).toNat < n → TP D A [(h11, aI (k 0) 100 anI), (h12, aI (k 0) 100 anI), (h13, aI (k 0) 100 anI), (h10, aJ (k 1) 900 anJ), (h1, aI (k 0) 36 anI), (h6, aJ (k 1) 9 anJ), (h0, ob 8 [.int h0f0, .int h0f1, .int h0f2, .int h0f3, .int h0f4, .int h0f5, .ref h1, .ref h2, .int h0f8, .int v2, .ref h3, .ref h4, .ref h5, .ref h6, .ref h7, .ref h8, .ref h9, .int h0f17, .int h0f18, .int h0f19, .ref h10, .ref h11, .ref h12, .ref h13, .int v3, .int v4, .ref h14, .ref h15, .ref h16, .ref h17, .int h0f30, .int h0f31, .ref h18, .ref h19, .ref h20, .ref h21]), (h5, aJ (k 1) 9 anJ), (h4, aJ (k 1) 9 anJ), (h3, aJ (k 1) 9 anJ)] H → va_S A s.heap H locs → lv_has ls 6 [(0, .ref h0), (1, .int y64), (2, .int y63), (3, .int y99), (4, .int y73), (5, .int y98)] → W p l e Rm_cX11_middle_40c12 s m args below meth c H locs 0 0 Q (F0 m 84 ls []) := by
                intro n
                induction n with
                | zero => intro y98 y99 H locs ls b_y98 b_y99 hm hT hS hl; exact absurd hm (Nat.not_lt_zero _)
                | succ n ih =>
                  intro y98 y99 H locs ls b_y98 b_y99 hm hT hS hl
                  have ih84_100 := ih
                  clear ih
                  refine lv_iload hx hb dX11_middle_84 (lv_at hl 5 rfl) ?_
                  refine lv_bipush (v := 9) hx hb dX11_middle_86 (by decide) ?_
                  refine lv_icmp_ge (tgt := 125) hx hb dX11_middle_88 (by decide) (fun c_101 => ?_) (fun c_101 => ?_)
                  · skip
                    have c_101 := ni_le c_101 li_9 rfl
                    obtain ⟨v102, e_v102⟩ : ∃ x : Int32, x = y73 + Int32.ofInt 1 := ⟨_, rfl⟩
                    have f_v102 := e_v102.symm
                    have e_v102 : v102.toInt = y73.toInt + 1 := ai_add e_v102 rfl (show (Int32.ofInt 1).toInt = 1 from (by decide +kernel)) (by omega)
                    refine lv_iinc (v := v102) (lv' := [(4, .int v102), (0, .ref h0), (1, .int y64), (2, .int y63), (3, .int y99), (5, .int y98)]) hx hb dX11_middle_125 hl (k := 4) rfl f_v102 (by decide) rfl (fun ls hl => ?_)
                    refine lv_goto (tgt := 21) hx hb dX11_middle_128 (by decide) ?_
                    exact ih21_75 v102 y99 _ _ _ (by omega) (by omega)  (by omega) (hT.sub [9, 6, 4, 8, 7, 5, 3, 0, 1, 2] (by decide) rfl) hS (lv_sub hl [1, 2, 3, 4, 0] rfl)
                  · skip
                    have c_101 := ni_nle c_101 li_9 rfl
                    refine lv_iload_n hx hb dX11_middle_91 rfl (lv_at hl 3 rfl) ?_
                    refine lv_if_eq (tgt := 117) hx hb dX11_middle_92 (by decide) (fun c_103 => ?_) (fun c_103 => ?_)
                    · skip
                      have c_103 := ni_eq c_103 rfl li_0
                      refine lv_iconst (v := 0) hx hb dX11_middle_117 (by decide) ?_
                      refine lv_istore_n (lv' := [(3, .int 0), (0, .ref h0), (1, .int y64), (2, .int y63), (4, .int y73), (5, .int y98)]) hx hb dX11_middle_118 rfl hl (by decide) rfl (fun ls hl => ?_)
                      obtain ⟨v104, e_v104⟩ : ∃ x : Int32, x = y98 + Int32.ofInt 1 := ⟨_, rfl⟩
                      have f_v104 := e_v104.symm
                      have e_v104 : v104.toInt = y98.toInt + 1 := ai_add e_v104 rfl (show (Int32.ofInt 1).toInt = 1 from (by decide +kernel)) (by omega)
                      refine lv_iinc (v := v104) (lv' := [(5, .int v104), (3, .int 0), (0, .ref h0), (1, .int y64), (2, .int y63), (4, .int y73)]) hx hb dX11_middle_119 hl (k := 5) rfl f_v104 (by decide) rfl (fun ls hl => ?_)
                      refine lv_goto (tgt := 84) hx hb dX11_middle_122 (by decide) ?_
                      exact ih84_100 v104 (0) _ _ _ (by have := li_0; omega) (by have := li_0; omega)  (by have := li_0; omega) hT hS (lv_sub hl [2, 3, 4, 1, 5, 0] rfl)
                    · skip
                      have c_103 := ni_ne c_103 rfl li_0
                      refine lv_aload_n hx hb dX11_middle_95 rfl (lv_at hl 0 rfl) ?_
                      refine tz_get (ci := 8) (v := .ref h6) (C := RX11) (F := TX11) (N := 36) hx hb hU iX11 hown hK hT 6 rfl rfl 13 (by decide) w798 (fun _ h9 => h9) rfl dX11_middle_96 ?_
                      refine lv_iload hx hb dX11_middle_99 (lv_at hl 5 rfl) ?_
                      refine tz_lald hx hb hK hT 5 rfl (by omega) dX11_middle_101 (fun v105 e_v105 => ?_)
                      clear e_v105
                      refine lv_aload_n hx hb dX11_middle_102 rfl (lv_at hl 0 rfl) ?_
                      refine tz_get (ci := 8) (v := .ref h3) (C := RX11) (F := TX11) (N := 36) hx hb hU iX11 hown hK hT 6 rfl rfl 10 (by decide) w795 (fun _ h9 => h9) rfl dX11_middle_103 ?_
                      refine lv_iload hx hb dX11_middle_106 (lv_at hl 5 rfl) ?_
                      refine tz_lald hx hb hK hT 9 rfl (by omega) dX11_middle_108 (fun v106 e_v106 => ?_)
                      clear e_v106
                      refine W.lcmp hx hb dX11_middle_109 ?_
                      refine lv_if_ne (tgt := 117) hx hb dX11_middle_110 (by decide) (fun c_107 => ?_) (fun c_107 => ?_)
                      · skip
                        have c_107 := nl_ne c_107 rfl rfl
                        refine lv_iconst (v := 0) hx hb dX11_middle_117 (by decide) ?_
                        refine lv_istore_n (lv' := [(3, .int 0), (0, .ref h0), (1, .int y64), (2, .int y63), (4, .int y73), (5, .int y98)]) hx hb dX11_middle_118 rfl hl (by decide) rfl (fun ls hl => ?_)
                        obtain ⟨v108, e_v108⟩ : ∃ x : Int32, x = y98 + Int32.ofInt 1 := ⟨_, rfl⟩
                        have f_v108 := e_v108.symm
                        have e_v108 : v108.toInt = y98.toInt + 1 := ai_add e_v108 rfl (show (Int32.ofInt 1).toInt = 1 from (by decide +kernel)) (by omega)
                        refine lv_iinc (v := v108) (lv' := [(5, .int v108), (3, .int 0), (0, .ref h0), (1, .int y64), (2, .int y63), (4, .int y73)]) hx hb dX11_middle_119 hl (k := 5) rfl f_v108 (by decide) rfl (fun ls hl => ?_)
                        refine lv_goto (tgt := 84) hx hb dX11_middle_122 (by decide) ?_
                        exact ih84_100 v108 (0) _ _ _ (by have := li_0; omega) (by have := li_0; omega)  (by have := li_0; omega) hT hS (lv_sub hl [2, 3, 4, 1, 5, 0] rfl)
                      · skip
                        have c_107 := nl_eq c_107 rfl rfl
                        refine lv_iconst (v := 1) hx hb dX11_middle_113 (by decide) ?_
                        refine lv_goto (tgt := 118) hx hb dX11_middle_114 (by decide) ?_
                        refine lv_istore_n (lv' := [(3, .int 1), (0, .ref h0), (1, .int y64), (2, .int y63), (4, .int y73), (5, .int y98)]) hx hb dX11_middle_118 rfl hl (by decide) rfl (fun ls hl => ?_)
                        obtain ⟨v109, e_v109⟩ : ∃ x : Int32, x = y98 + Int32.ofInt 1 := ⟨_, rfl⟩
                        have f_v109 := e_v109.symm
                        have e_v109 : v109.toInt = y98.toInt + 1 := ai_add e_v109 rfl (show (Int32.ofInt 1).toInt = 1 from (by decide +kernel)) (by omega)
                        refine lv_iinc (v := v109) (lv' := [(5, .int v109), (3, .int 1), (0, .ref h0), (1, .int y64), (2, .int y63), (4, .int y73)]) hx hb dX11_middle_119 hl (k := 5) rfl f_v109 (by decide) rfl (fun ls hl => ?_)
                        refine lv_goto (tgt := 84) hx hb dX11_middle_122 (by decide) ?_
                        exact ih84_100 v109 (1) _ _ _ (by have := li_1; omega) (by have := li_1; omega)  (by have := li_1; omega) hT hS (lv_sub hl [2, 3, 4, 1, 5, 0] rfl)
              exact lp84_100 (((-1) * (0 : Int32).toInt + 9 + 1).toNat + 1) (0) y74 _ _ _ (by have := li_0; omega) (by have := li_0; omega)  (Nat.lt_succ_self _) hT hS (lv_sub hl [1, 2, 3, 4, 5, 0] rfl)
        exact lp21_75 ((h0f1.toInt + (-1) * (0 : Int32).toInt + 1).toNat + 1) (0) (1) _ _ _ (by have := li_0; have := li_1; omega) (by have := li_0; have := li_1; omega)  (Nat.lt_succ_self _) hT hS (lv_sub hl [2, 3, 4, 1, 0] rfl)
  exact lp8_65 ((v3.toInt + (-1) * (0 : Int32).toInt + 1).toNat + 1) (0) (0) _ _ _ (by have := li_0; omega)  (Nat.lt_succ_self _) hT hS (lv_sub hl [2, 1, 0] rfl)
abbrev Rm_cX7_addUp_32ffe : Room := { frames := 0, cells := 0, slots := 0, locals := 0 }
abbrev B_cX7_addUp_32ffe (D : va_G) (k : Nat → ClassId) (h0 : Nat) (x1 : Int32) (x2 : Int32) (x4 : Int32) (x5 : Int32) (x6 : Int32) (A : Nat → Prop) (r : Int64) (H : Heap) : Prop := TP D A [(h0, aJ (k 1) 900 anJ)] H
set_option maxHeartbeats 4000000 in
set_option maxRecDepth 100000 in
theorem cX7_addUp_32ffe (l : Launch) (D : va_G) (k : Nat → ClassId) (sz : Nat) (h0 : Nat) (x1 : Int32) (x2 : Int32) (x4 : Int32) (x5 : Int32) (x6 : Int32) (b_x1 : 0 ≤ x1.toInt ∧ x1.toInt ≤ 893) (b_x2 : 1 ≤ x2.toInt ∧ x2.toInt ≤ 3) (b_x4 : 0 ≤ x4.toInt ∧ x4.toInt ≤ 893) (b_x5 : 1 ≤ x5.toInt ∧ x5.toInt ≤ 3) (b_x6 : 1 ≤ x6.toInt ∧ x6.toInt ≤ 3) : Met l yX7_addUp (Cond.code yX7_addUp cX7_addUp 10 (some .long) :: uw) Rm_cX7_addUp_32ffe (pT D k sz [.ref h0, .int x1, .int x2, .ref h0, .int x4, .int x5, .int x6] [(h0, aJ (k 1) 900 anJ)]) (qL (B_cX7_addUp_32ffe D k h0 x1 x2 x4 x5 x6 (zA [h0] sz)) (zA [h0] sz)) 0 0 (zA [h0] sz) := by
  refine tz_begin (as := [h0]) (Qc := fun A => qL (B_cX7_addUp_32ffe D k h0 x1 x2 x4 x5 x6 A) A) (by decide +kernel) rfl (Nat.le_of_ble_eq_true rfl) ?_
  intro p e s m args below meth c ls A Q hx hb hr hml hown hlocks hin hU hK hT hS hA hl hQ
  have hl : lv_has ls 10 [(0, .ref h0), (1, .int x1), (2, .int x2), (3, .ref h0), (4, .int x4), (5, .int x5), (6, .int x6)] := hl
  have hT : TP D A [(h0, aJ (k 1) 900 anJ)] s.heap := hT
  refine lv_lconst (v := 0) hx hb dX7_addUp_0 (by decide) ?_
  refine lv_lstore (lv' := [(7, .long 0), (0, .ref h0), (1, .int x1), (2, .int x2), (3, .ref h0), (4, .int x4), (5, .int x5), (6, .int x6)]) hx hb dX7_addUp_1 hl (by decide) rfl (fun ls hl => ?_)
  refine lv_iconst (v := 0) hx hb dX7_addUp_3 (by decide) ?_
  refine lv_istore (lv' := [(9, .int 0), (7, .long 0), (0, .ref h0), (1, .int x1), (2, .int x2), (3, .ref h0), (4, .int x4), (5, .int x5), (6, .int x6)]) hx hb dX7_addUp_4 hl (by decide) rfl (fun ls hl => ?_)
  have lp6_7 : ∀ (n : Nat) (y5 : Int32) (y6 : Int64) (H : Heap) (locs : List Loc) (ls : Array Slot), (0 ≤ y5.toInt ∧ y5.toInt ≤ 3) → (x6.toInt + (-1) * y5.toInt + 1).toNat < n → TP D A [(h0, aJ (k 1) 900 anJ)] H → va_S A s.heap H locs → lv_has ls 10 [(0, .ref h0), (1, .int x1), (2, .int x2), (3, .ref h0), (4, .int x4), (5, .int x5), (6, .int x6), (7, .long y6), (9, .int y5)] → W p l e Rm_cX7_addUp_32ffe s m args below meth c H locs 0 0 Q (F0 m 6 ls []) := by
    intro n
    induction n with
    | zero => intro y5 y6 H locs ls b_y5 hm hT hS hl; exact absurd hm (Nat.not_lt_zero _)
    | succ n ih =>
      intro y5 y6 H locs ls b_y5 hm hT hS hl
      have ih6_7 := ih
      clear ih
      refine lv_iload hx hb dX7_addUp_6 (lv_at hl 8 rfl) ?_
      refine lv_iload hx hb dX7_addUp_8 (lv_at hl 6 rfl) ?_
      refine lv_icmp_ge (tgt := 43) hx hb dX7_addUp_10 (by decide) (fun c_8 => ?_) (fun c_8 => ?_)
      · skip
        have c_8 := ni_le c_8 rfl rfl
        refine lv_lload hx hb dX7_addUp_43 (lv_at hl 7 rfl) ?_
        exact tz_retL (B := B_cX7_addUp_32ffe D k h0 x1 x2 x4 x5 x6) (v := y6) hQ hx hb hr hlocks hS (Nat.le_of_ble_eq_true rfl) (Nat.le_of_ble_eq_true rfl) dX7_addUp_45 (hT)
      · skip
        have c_8 := ni_nle c_8 rfl rfl
        refine lv_lload hx hb dX7_addUp_13 (lv_at hl 7 rfl) ?_
        refine lv_aload_n hx hb dX7_addUp_15 rfl (lv_at hl 0 rfl) ?_
        refine lv_iload_n hx hb dX7_addUp_16 rfl (lv_at hl 1 rfl) ?_
        refine lv_iload hx hb dX7_addUp_17 (lv_at hl 8 rfl) ?_
        refine lv_iload_n hx hb dX7_addUp_19 rfl (lv_at hl 2 rfl) ?_
        refine lv_imul hx hb dX7_addUp_20 (lv_topi (fun v9 e_v9 => ?_))
        have e_v9 := ai_mm (la := 0) (ua := 2) (lb := 1) (ub := 3) e_v9 rfl rfl (by omega) (by decide)
        refine lv_iadd hx hb dX7_addUp_21 (lv_topi (fun v10 e_v10 => ?_))
        have e_v10 := ai_add e_v10 rfl rfl (by omega)
        refine tz_lald hx hb hK hT 0 rfl (by omega) dX7_addUp_22 (fun v11 e_v11 => ?_)
        clear e_v11
        refine lv_aload_n hx hb dX7_addUp_23 rfl (lv_at hl 3 rfl) ?_
        refine lv_iload hx hb dX7_addUp_24 (lv_at hl 4 rfl) ?_
        refine lv_iload hx hb dX7_addUp_26 (lv_at hl 8 rfl) ?_
        refine lv_iload hx hb dX7_addUp_28 (lv_at hl 5 rfl) ?_
        refine lv_imul hx hb dX7_addUp_30 (lv_topi (fun v12 e_v12 => ?_))
        have e_v12 := ai_mm (la := 0) (ua := 2) (lb := 1) (ub := 3) e_v12 rfl rfl (by omega) (by decide)
        refine lv_iadd hx hb dX7_addUp_31 (lv_topi (fun v13 e_v13 => ?_))
        have e_v13 := ai_add e_v13 rfl rfl (by omega)
        refine tz_lald hx hb hK hT 0 rfl (by omega) dX7_addUp_32 (fun v14 e_v14 => ?_)
        clear e_v14
        refine lv_lmul hx hb dX7_addUp_33 (lv_topl (fun v15 e_v15 => ?_))
        refine lv_ladd hx hb dX7_addUp_34 (lv_topl (fun v16 e_v16 => ?_))
        refine lv_lstore (lv' := [(7, .long v16), (0, .ref h0), (1, .int x1), (2, .int x2), (3, .ref h0), (4, .int x4), (5, .int x5), (6, .int x6), (9, .int y5)]) hx hb dX7_addUp_35 hl (by decide) rfl (fun ls hl => ?_)
        obtain ⟨v17, e_v17⟩ : ∃ x : Int32, x = y5 + Int32.ofInt 1 := ⟨_, rfl⟩
        have f_v17 := e_v17.symm
        have e_v17 : v17.toInt = y5.toInt + 1 := ai_add e_v17 rfl (show (Int32.ofInt 1).toInt = 1 from (by decide +kernel)) (by omega)
        refine lv_iinc (v := v17) (lv' := [(9, .int v17), (7, .long v16), (0, .ref h0), (1, .int x1), (2, .int x2), (3, .ref h0), (4, .int x4), (5, .int x5), (6, .int x6)]) hx hb dX7_addUp_37 hl (k := 8) rfl f_v17 (by decide) rfl (fun ls hl => ?_)
        refine lv_goto (tgt := 6) hx hb dX7_addUp_40 (by decide) ?_
        exact ih6_7 v17 v16 _ _ _ (by omega)  (by omega) hT hS (lv_sub hl [2, 3, 4, 5, 6, 7, 8, 1, 0] rfl)
  exact lp6_7 ((x6.toInt + (-1) * (0 : Int32).toInt + 1).toNat + 1) (0) (0) _ _ _ (by have := li_0; have := ll_0; omega)  (Nat.lt_succ_self _) hT hS (lv_sub hl [2, 3, 4, 5, 6, 7, 8, 1, 0] rfl)
abbrev Rm_cX7_multiplyTurned_0e5b8 : Room := { frames := 1, cells := 0, slots := 0, locals := 29 }
abbrev B_cX7_multiplyTurned_0e5b8 (D : va_G) (k : Nat → ClassId) (h0 h1 : Nat) (x1 : Int32) (x3 : Int32) (x5 : Int32) (A : Nat → Prop) (H : Heap) : Prop := TP D A [(h0, aJ (k 1) 900 anJ), (h1, aJ (k 1) 9 anJ)] H
set_option maxHeartbeats 4000000 in
set_option maxRecDepth 100000 in
theorem cX7_multiplyTurned_0e5b8 (l : Launch) (D : va_G) (k : Nat → ClassId) (sz : Nat) (h0 h1 : Nat) (x1 : Int32) (x3 : Int32) (x5 : Int32) (b_x1 : 0 ≤ x1.toInt ∧ x1.toInt ≤ 891) (b_x3 : 0 ≤ x3.toInt ∧ x3.toInt ≤ 891) (b_x5 : 1 ≤ x5.toInt ∧ x5.toInt ≤ 3) : Met l yX7_multiplyTurned (Cond.code yX7_multiplyTurned cX7_multiplyTurned 8 none :: uw) Rm_cX7_multiplyTurned_0e5b8 (pT D k sz [.ref h0, .int x1, .ref h0, .int x3, .ref h1, .int x5] [(h0, aJ (k 1) 900 anJ), (h1, aJ (k 1) 9 anJ)]) (qV (B_cX7_multiplyTurned_0e5b8 D k h0 h1 x1 x3 x5 (zA [h0, h1] sz)) (zA [h0, h1] sz)) 0 0 (zA [h0, h1] sz) := by
  refine tz_begin (as := [h0, h1]) (Qc := fun A => qV (B_cX7_multiplyTurned_0e5b8 D k h0 h1 x1 x3 x5 A) A) (by decide +kernel) rfl (Nat.le_of_ble_eq_true rfl) ?_
  intro p e s m args below meth c ls A Q hx hb hr hml hown hlocks hin hU hK hT hS hA hl hQ
  have hl : lv_has ls 8 [(0, .ref h0), (1, .int x1), (2, .ref h0), (3, .int x3), (4, .ref h1), (5, .int x5)] := hl
  have hT : TP D A [(h0, aJ (k 1) 900 anJ), (h1, aJ (k 1) 9 anJ)] s.heap := hT
  refine lv_iconst (v := 0) hx hb dX7_multiplyTurned_0 (by decide) ?_
  refine lv_istore (lv' := [(6, .int 0), (0, .ref h0), (1, .int x1), (2, .ref h0), (3, .int x3), (4, .ref h1), (5, .int x5)]) hx hb dX7_multiplyTurned_1 hl (by decide) rfl (fun ls hl => ?_)
  have lp3_4 : ∀ (n : Nat) (y3 : Int32) (H : Heap) (locs : List Loc) (ls : Array Slot), (0 ≤ y3.toInt ∧ y3.toInt ≤ 3) → (x5.toInt + (-1) * y3.toInt + 1).toNat < n → TP D A [(h0, aJ (k 1) 900 anJ), (h1, aJ (k 1) 9 anJ)] H → va_S A s.heap H locs → lv_has ls 8 [(0, .ref h0), (1, .int x1), (2, .ref h0), (3, .int x3), (4, .ref h1), (5, .int x5), (6, .int y3)] → W p l e Rm_cX7_multiplyTurned_0e5b8 s m args below meth c H locs 0 0 Q (F0 m 3 ls []) := by
    intro n
    induction n with
    | zero => intro y3 H locs ls b_y3 hm hT hS hl; exact absurd hm (Nat.not_lt_zero _)
    | succ n ih =>
      intro y3 H locs ls b_y3 hm hT hS hl
      have ih3_4 := ih
      clear ih
      refine lv_iload hx hb dX7_multiplyTurned_3 (lv_at hl 6 rfl) ?_
      refine lv_iload hx hb dX7_multiplyTurned_5 (lv_at hl 5 rfl) ?_
      refine lv_icmp_ge (tgt := 62) hx hb dX7_multiplyTurned_7 (by decide) (fun c_5 => ?_) (fun c_5 => ?_)
      · skip
        have c_5 := ni_le c_5 rfl rfl
        exact tz_retV (B := B_cX7_multiplyTurned_0e5b8 D k h0 h1 x1 x3 x5) hQ hx hb hr hlocks hS (Nat.le_of_ble_eq_true rfl) (Nat.le_of_ble_eq_true rfl) dX7_multiplyTurned_62 (hT)
      · skip
        have c_5 := ni_nle c_5 rfl rfl
        refine lv_iconst (v := 0) hx hb dX7_multiplyTurned_10 (by decide) ?_
        refine lv_istore (lv' := [(7, .int 0), (0, .ref h0), (1, .int x1), (2, .ref h0), (3, .int x3), (4, .ref h1), (5, .int x5), (6, .int y3)]) hx hb dX7_multiplyTurned_11 hl (by decide) rfl (fun ls hl => ?_)
        have lp13_9 : ∀ (n : Nat) (y8 : Int32) (H : Heap) (locs : List Loc) (ls : Array Slot), (0 ≤ y8.toInt ∧ y8.toInt ≤ 3) → (x5.toInt + (-1) * y8.toInt + 1).toNat < n → TP D A [(h0, aJ (k 1) 900 anJ), (h1, aJ (k 1) 9 anJ)] H → va_S A s.heap H locs → lv_has ls 8 [(0, .ref h0), (1, .int x1), (2, .ref h0), (3, .int x3), (4, .ref h1), (5, .int x5), (6, .int y3), (7, .int y8)] → W p l e Rm_cX7_multiplyTurned_0e5b8 s m args below meth c H locs 0 0 Q (F0 m 13 ls []) := by
          intro n
          induction n with
          | zero => intro y8 H locs ls b_y8 hm hT hS hl; exact absurd hm (Nat.not_lt_zero _)
          | succ n ih =>
            intro y8 H locs ls b_y8 hm hT hS hl
            have ih13_9 := ih
            clear ih
            refine lv_iload hx hb dX7_multiplyTurned_13 (lv_at hl 7 rfl) ?_
            refine lv_iload hx hb dX7_multiplyTurned_15 (lv_at hl 5 rfl) ?_
            refine lv_icmp_ge (tgt := 56) hx hb dX7_multiplyTurned_17 (by decide) (fun c_10 => ?_) (fun c_10 => ?_)
            · skip
              have c_10 := ni_le c_10 rfl rfl
              obtain ⟨v11, e_v11⟩ : ∃ x : Int32, x = y3 + Int32.ofInt 1 := ⟨_, rfl⟩
              have f_v11 := e_v11.symm
              have e_v11 : v11.toInt = y3.toInt + 1 := ai_add e_v11 rfl (show (Int32.ofInt 1).toInt = 1 from (by decide +kernel)) (by omega)
              refine lv_iinc (v := v11) (lv' := [(6, .int v11), (0, .ref h0), (1, .int x1), (2, .ref h0), (3, .int x3), (4, .ref h1), (5, .int x5), (7, .int y8)]) hx hb dX7_multiplyTurned_56 hl (k := 6) rfl f_v11 (by decide) rfl (fun ls hl => ?_)
              refine lv_goto (tgt := 3) hx hb dX7_multiplyTurned_59 (by decide) ?_
              exact ih3_4 v11 _ _ _ (by omega)  (by omega) hT hS (lv_sub hl [1, 2, 3, 4, 5, 6, 0] rfl)
            · skip
              have c_10 := ni_nle c_10 rfl rfl
              refine lv_aload hx hb dX7_multiplyTurned_20 (lv_at hl 4 rfl) ?_
              refine lv_iload hx hb dX7_multiplyTurned_22 (lv_at hl 6 rfl) ?_
              refine lv_iload hx hb dX7_multiplyTurned_24 (lv_at hl 5 rfl) ?_
              refine lv_imul hx hb dX7_multiplyTurned_26 (lv_topi (fun v12 e_v12 => ?_))
              have e_v12 := ai_mm (la := 0) (ua := 2) (lb := 1) (ub := 3) e_v12 rfl rfl (by omega) (by decide)
              refine lv_iload hx hb dX7_multiplyTurned_27 (lv_at hl 7 rfl) ?_
              refine lv_iadd hx hb dX7_multiplyTurned_29 (lv_topi (fun v13 e_v13 => ?_))
              have e_v13 := ai_add e_v13 rfl rfl (by omega)
              refine lv_aload_n hx hb dX7_multiplyTurned_30 rfl (lv_at hl 0 rfl) ?_
              refine lv_iload_n hx hb dX7_multiplyTurned_31 rfl (lv_at hl 1 rfl) ?_
              refine lv_iload hx hb dX7_multiplyTurned_32 (lv_at hl 6 rfl) ?_
              refine lv_iadd hx hb dX7_multiplyTurned_34 (lv_topi (fun v14 e_v14 => ?_))
              have e_v14 := ai_add e_v14 rfl rfl (by omega)
              refine lv_iload hx hb dX7_multiplyTurned_35 (lv_at hl 5 rfl) ?_
              refine lv_aload_n hx hb dX7_multiplyTurned_37 rfl (lv_at hl 2 rfl) ?_
              refine lv_iload_n hx hb dX7_multiplyTurned_38 rfl (lv_at hl 3 rfl) ?_
              refine lv_iload hx hb dX7_multiplyTurned_39 (lv_at hl 7 rfl) ?_
              refine lv_iadd hx hb dX7_multiplyTurned_41 (lv_topi (fun v15 e_v15 => ?_))
              have e_v15 := ai_add e_v15 rfl rfl (by omega)
              refine lv_iload hx hb dX7_multiplyTurned_42 (lv_at hl 5 rfl) ?_
              refine lv_iload hx hb dX7_multiplyTurned_44 (lv_at hl 5 rfl) ?_
              refine tcL (Tc := [(h0, aJ (k 1) 900 anJ)]) (Tr := [(h1, aJ (k 1) 9 anJ)]) (as := [h0]) (zcS (As := [.ref h0, .int v14, .int x5, .ref h0, .int v15, .int x5, .int x5]) (rest := [.int v13, .ref h1]) (Tc := [(h0, aJ (k 1) 900 anJ)]) hx hb hml hown hU hK hT [0] rfl (by decide) (cX7_addUp_32ffe l D k _ h0 v14 x5 v15 x5 x5 (by omega) (by omega) (by omega) (by omega) (by omega)) w366 w364 w365 w74 hdX7_addUp ⟨rfl, rfl⟩ ⟨Nat.le_of_ble_eq_true rfl, Nat.le_of_ble_eq_true rfl⟩ rfl hl.1 (Nat.le_of_ble_eq_true rfl) dX7_multiplyTurned_46 ⟨Nat.le_of_ble_eq_true rfl, Nat.le_of_ble_eq_true rfl⟩) hT hS hA [0] [1] rfl rfl rfl (by decide) (by decide) (fun r16 H locs hB J hS => ?_)
              have hT1 := hB
              have hT := J _ hT1
              have hT : TP D A [(h1, aJ (k 1) 9 anJ), (h0, aJ (k 1) 900 anJ)] H := hT
              refine tz_last hx hb hK hT hS 0 rfl (by omega) (fun _ _ => trivial) dX7_multiplyTurned_49 (fun H locs hT hS => ?_)
              obtain ⟨v17, e_v17⟩ : ∃ x : Int32, x = y8 + Int32.ofInt 1 := ⟨_, rfl⟩
              have f_v17 := e_v17.symm
              have e_v17 : v17.toInt = y8.toInt + 1 := ai_add e_v17 rfl (show (Int32.ofInt 1).toInt = 1 from (by decide +kernel)) (by omega)
              refine lv_iinc (v := v17) (lv' := [(7, .int v17), (0, .ref h0), (1, .int x1), (2, .ref h0), (3, .int x3), (4, .ref h1), (5, .int x5), (6, .int y3)]) hx hb dX7_multiplyTurned_50 hl (k := 7) rfl f_v17 (by decide) rfl (fun ls hl => ?_)
              refine lv_goto (tgt := 13) hx hb dX7_multiplyTurned_53 (by decide) ?_
              exact ih13_9 v17 _ _ _ (by omega)  (by omega) (hT.sub [1, 0] (by decide) rfl) hS (lv_sub hl [1, 2, 3, 4, 5, 6, 7, 0] rfl)
        exact lp13_9 ((x5.toInt + (-1) * (0 : Int32).toInt + 1).toNat + 1) (0) _ _ _ (by have := li_0; omega)  (Nat.lt_succ_self _) hT hS (lv_sub hl [1, 2, 3, 4, 5, 6, 7, 0] rfl)
  exact lp3_4 ((x5.toInt + (-1) * (0 : Int32).toInt + 1).toNat + 1) (0) _ _ _ (by have := li_0; omega)  (Nat.lt_succ_self _) hT hS (lv_sub hl [1, 2, 3, 4, 5, 6, 0] rfl)
abbrev Rm_cX10_addUpForm_d1202 : Room := { frames := 2, cells := 0, slots := 0, locals := 56 }
abbrev B_cX10_addUpForm_d1202 (D : va_G) (k : Nat → ClassId) (h0 h1 h5 h11 h12 h21 h2 h3 h4 h6 h7 h8 h9 h10 h13 h22 h23 h24 h25 h26 h27 h28 : Nat) (h0f2 : Int32) (h0f6 : Int32) (h0f8 : Int32) (h0f11 : Int32) (h1f0 : Int32) (h1f1 : Int32) (h1f2 : Int32) (h5f8 : Int32) (h5f9 : Int32) (h5f10 : Int32) (h5f11 : Int32) (A : Nat → Prop) (r : Int32) (H : Heap) : Prop := (0 ≤ r.toInt ∧ r.toInt ≤ 1) ∧ TP D A [(h0, ob 7 [.ref h1, .ref h2, .int h0f2, .ref h3, .ref h4, .ref h5, .int h0f6, .ref h6, .int h0f8, .null, .ref h7, .int h0f11, .ref h8, .ref h9, .ref h10, .ref h11, .ref h12]), (h1, ob 4 [.int h1f0, .int h1f1, .int h1f2, .ref h13]), (h5, ob 3 [.ref h21, .ref h22, .ref h23, .ref h24, .ref h25, .ref h26, .ref h27, .ref h28, .int h5f8, .int h5f9, .int h5f10, .int h5f11]), (h11, aJ (k 1) 9 anJ), (h12, aJ (k 1) 9 anJ), (h21, aJ (k 1) 900 anJ)] H
set_option maxHeartbeats 4000000 in
set_option maxRecDepth 100000 in
theorem cX10_addUpForm_d1202 (l : Launch) (D : va_G) (k : Nat → ClassId) (sz : Nat) (h0 h1 h5 h11 h12 h21 h2 h3 h4 h6 h7 h8 h9 h10 h13 h22 h23 h24 h25 h26 h27 h28 : Nat) (h0f2 : Int32) (h0f6 : Int32) (h0f8 : Int32) (h0f11 : Int32) (h1f0 : Int32) (h1f1 : Int32) (h1f2 : Int32) (h5f8 : Int32) (h5f9 : Int32) (h5f10 : Int32) (h5f11 : Int32) (b_h0f2 : 0 ≤ h0f2.toInt ∧ h0f2.toInt ≤ 1) (b_h0f6 : 1 ≤ h0f6.toInt ∧ h0f6.toInt ≤ 1) (b_h0f8 : 0 ≤ h0f8.toInt ∧ h0f8.toInt ≤ 1) (b_h0f11 : 0 ≤ h0f11.toInt ∧ h0f11.toInt ≤ 200) (b_h1f0 : 1 ≤ h1f0.toInt ∧ h1f0.toInt ≤ 3) (b_h1f1 : 0 ≤ h1f1.toInt ∧ h1f1.toInt ≤ 4) (b_h5f8 : 0 ≤ h5f8.toInt ∧ h5f8.toInt ≤ 9) (b_h5f9 : 0 ≤ h5f9.toInt ∧ h5f9.toInt ≤ 100) (b_h5f10 : 0 ≤ h5f10.toInt ∧ h5f10.toInt ≤ 100) (b_h5f11 : 1 ≤ h5f11.toInt ∧ h5f11.toInt ≤ 1) : Met l yX10_addUpForm (Cond.code yX10_addUpForm cX10_addUpForm 6 (some .boolean) :: uw) Rm_cX10_addUpForm_d1202 (pT D k sz [.ref h0] [(h0, ob 7 [.ref h1, .ref h2, .int h0f2, .ref h3, .ref h4, .ref h5, .int h0f6, .ref h6, .int h0f8, .null, .ref h7, .int h0f11, .ref h8, .ref h9, .ref h10, .ref h11, .ref h12]), (h1, ob 4 [.int h1f0, .int h1f1, .int h1f2, .ref h13]), (h5, ob 3 [.ref h21, .ref h22, .ref h23, .ref h24, .ref h25, .ref h26, .ref h27, .ref h28, .int h5f8, .int h5f9, .int h5f10, .int h5f11]), (h11, aJ (k 1) 9 anJ), (h12, aJ (k 1) 9 anJ), (h21, aJ (k 1) 900 anJ)]) (qI (B_cX10_addUpForm_d1202 D k h0 h1 h5 h11 h12 h21 h2 h3 h4 h6 h7 h8 h9 h10 h13 h22 h23 h24 h25 h26 h27 h28 h0f2 h0f6 h0f8 h0f11 h1f0 h1f1 h1f2 h5f8 h5f9 h5f10 h5f11 (zA [h0, h1, h5, h11, h12, h21] sz)) (zA [h0, h1, h5, h11, h12, h21] sz)) 0 0 (zA [h0, h1, h5, h11, h12, h21] sz) := by
  refine tz_begin (as := [h0, h1, h5, h11, h12, h21]) (Qc := fun A => qI (B_cX10_addUpForm_d1202 D k h0 h1 h5 h11 h12 h21 h2 h3 h4 h6 h7 h8 h9 h10 h13 h22 h23 h24 h25 h26 h27 h28 h0f2 h0f6 h0f8 h0f11 h1f0 h1f1 h1f2 h5f8 h5f9 h5f10 h5f11 A) A) (by decide +kernel) rfl (Nat.le_of_ble_eq_true rfl) ?_
  intro p e s m args below meth c ls A Q hx hb hr hml hown hlocks hin hU hK hT hS hA hl hQ
  have hl : lv_has ls 6 [(0, .ref h0)] := hl
  have hT : TP D A [(h0, ob 7 [.ref h1, .ref h2, .int h0f2, .ref h3, .ref h4, .ref h5, .int h0f6, .ref h6, .int h0f8, .null, .ref h7, .int h0f11, .ref h8, .ref h9, .ref h10, .ref h11, .ref h12]), (h1, ob 4 [.int h1f0, .int h1f1, .int h1f2, .ref h13]), (h5, ob 3 [.ref h21, .ref h22, .ref h23, .ref h24, .ref h25, .ref h26, .ref h27, .ref h28, .int h5f8, .int h5f9, .int h5f10, .int h5f11]), (h11, aJ (k 1) 9 anJ), (h12, aJ (k 1) 9 anJ), (h21, aJ (k 1) 900 anJ)] s.heap := hT
  refine lv_aload_n hx hb dX10_addUpForm_0 rfl (lv_at hl 0 rfl) ?_
  refine tz_get (ci := 7) (v := .ref h1) (C := RX10) (F := TX10) (N := 17) hx hb hU iX10 hown hK hT 0 rfl rfl 0 (by decide) w249 (fun _ h9 => h9) rfl dX10_addUpForm_1 ?_
  refine tcI (Tc := [(h1, ob 4 [.int h1f0, .int h1f1, .int h1f2, .ref h13])]) (Tr := [(h0, ob 7 [.ref h1, .ref h2, .int h0f2, .ref h3, .ref h4, .ref h5, .int h0f6, .ref h6, .int h0f8, .null, .ref h7, .int h0f11, .ref h8, .ref h9, .ref h10, .ref h11, .ref h12]), (h5, ob 3 [.ref h21, .ref h22, .ref h23, .ref h24, .ref h25, .ref h26, .ref h27, .ref h28, .int h5f8, .int h5f9, .int h5f10, .int h5f11]), (h11, aJ (k 1) 9 anJ), (h12, aJ (k 1) 9 anJ), (h21, aJ (k 1) 900 anJ)]) (as := [h1]) (zcV (q0 := 1) (ci := 4) (As := []) (rest := []) (Tc := [(h1, ob 4 [.int h1f0, .int h1f1, .int h1f2, .ref h13])]) hx hb hml hown hU hK hT rfl rfl [1] rfl (by decide) (cX5_cellCount_642c9 l D k _ h1 h13 h1f0 h1f1 h1f2 (by omega) (by omega)) w385 w382 w383 w384 w64 hdX5_cellCount ⟨rfl, rfl⟩ ⟨Nat.le_of_ble_eq_true rfl, Nat.le_of_ble_eq_true rfl⟩ rfl hl.1 (Nat.le_of_ble_eq_true rfl) dX10_addUpForm_4 ⟨Nat.le_of_ble_eq_true rfl, Nat.le_of_ble_eq_true rfl⟩) hT hS hA [1] [0, 2, 3, 4, 5] rfl rfl rfl (by decide) (by decide) (fun r1 H locs hB J hS => ?_)
  obtain ⟨b_r1, hT1⟩ := hB
  have hT := J _ hT1
  have hT : TP D A [(h0, ob 7 [.ref h1, .ref h2, .int h0f2, .ref h3, .ref h4, .ref h5, .int h0f6, .ref h6, .int h0f8, .null, .ref h7, .int h0f11, .ref h8, .ref h9, .ref h10, .ref h11, .ref h12]), (h5, ob 3 [.ref h21, .ref h22, .ref h23, .ref h24, .ref h25, .ref h26, .ref h27, .ref h28, .int h5f8, .int h5f9, .int h5f10, .int h5f11]), (h11, aJ (k 1) 9 anJ), (h12, aJ (k 1) 9 anJ), (h21, aJ (k 1) 900 anJ), (h1, ob 4 [.int h1f0, .int h1f1, .int h1f2, .ref h13])] H := hT
  refine lv_istore_n (lv' := [(1, .int r1), (0, .ref h0)]) hx hb dX10_addUpForm_7 rfl hl (by decide) rfl (fun ls hl => ?_)
  refine lv_aload_n hx hb dX10_addUpForm_8 rfl (lv_at hl 1 rfl) ?_
  refine tz_get (ci := 7) (v := .ref h11) (C := RX10) (F := TX10) (N := 17) hx hb hU iX10 hown hK hT 0 rfl rfl 15 (by decide) w264 (fun _ h9 => h9) rfl dX10_addUpForm_9 ?_
  refine lv_lconst (v := 0) hx hb dX10_addUpForm_12 (by decide) ?_
  have q_q3 := ll_0
  refine tcV (Tc := [(h11, aJ (k 1) 9 anJ)]) (Tr := [(h0, ob 7 [.ref h1, .ref h2, .int h0f2, .ref h3, .ref h4, .ref h5, .int h0f6, .ref h6, .int h0f8, .null, .ref h7, .int h0f11, .ref h8, .ref h9, .ref h10, .ref h11, .ref h12]), (h5, ob 3 [.ref h21, .ref h22, .ref h23, .ref h24, .ref h25, .ref h26, .ref h27, .ref h28, .int h5f8, .int h5f9, .int h5f10, .int h5f11]), (h12, aJ (k 1) 9 anJ), (h21, aJ (k 1) 900 anJ), (h1, ob 4 [.int h1f0, .int h1f1, .int h1f2, .ref h13])]) (as := [h11]) (zcS (As := [.ref h11, .long 0]) (rest := []) (Tc := [(h11, aJ (k 1) 9 anJ)]) hx hb hml hown hU hK hT [2] rfl (by decide) (cJ7_fill_d0a16_660e4 l D k _ h11 (0) (by have := ll_0; omega)) w336 w617 w335 w73 hdJ7_fill_d0a16 ⟨rfl, rfl⟩ ⟨Nat.le_of_ble_eq_true rfl, Nat.le_of_ble_eq_true rfl⟩ rfl hl.1 (Nat.le_of_ble_eq_true rfl) dX10_addUpForm_13 ⟨Nat.le_of_ble_eq_true rfl, Nat.le_of_ble_eq_true rfl⟩) hT hS hA [2] [0, 1, 3, 4, 5] rfl rfl rfl (by decide) (by decide) (fun H locs hB J hS => ?_)
  have hT1 := hB
  have hT := J _ hT1
  have hT : TP D A [(h0, ob 7 [.ref h1, .ref h2, .int h0f2, .ref h3, .ref h4, .ref h5, .int h0f6, .ref h6, .int h0f8, .null, .ref h7, .int h0f11, .ref h8, .ref h9, .ref h10, .ref h11, .ref h12]), (h5, ob 3 [.ref h21, .ref h22, .ref h23, .ref h24, .ref h25, .ref h26, .ref h27, .ref h28, .int h5f8, .int h5f9, .int h5f10, .int h5f11]), (h12, aJ (k 1) 9 anJ), (h21, aJ (k 1) 900 anJ), (h1, ob 4 [.int h1f0, .int h1f1, .int h1f2, .ref h13]), (h11, aJ (k 1) 9 anJ)] H := hT
  refine lv_iconst (v := 0) hx hb dX10_addUpForm_16 (by decide) ?_
  refine lv_istore_n (lv' := [(2, .int 0), (1, .int r1), (0, .ref h0)]) hx hb dX10_addUpForm_17 rfl hl (by decide) rfl (fun ls hl => ?_)
  have lp18_17 : ∀ (n : Nat) (y16 : Int32) (H : Heap) (locs : List Loc) (ls : Array Slot), (0 ≤ y16.toInt ∧ y16.toInt ≤ 100) → (h5f10.toInt + (-1) * y16.toInt + 1).toNat < n → TP D A [(h0, ob 7 [.ref h1, .ref h2, .int h0f2, .ref h3, .ref h4, .ref h5, .int h0f6, .ref h6, .int h0f8, .null, .ref h7, .int h0f11, .ref h8, .ref h9, .ref h10, .ref h11, .ref h12]), (h5, ob 3 [.ref h21, .ref h22, .ref h23, .ref h24, .ref h25, .ref h26, .ref h27, .ref h28, .int h5f8, .int h5f9, .int h5f10, .int h5f11]), (h12, aJ (k 1) 9 anJ), (h21, aJ (k 1) 900 anJ), (h1, ob 4 [.int h1f0, .int h1f1, .int h1f2, .ref h13]), (h11, aJ (k 1) 9 anJ)] H → va_S A s.heap H locs → lv_has ls 6 [(0, .ref h0), (1, .int r1), (2, .int y16)] → W p l e Rm_cX10_addUpForm_d1202 s m args below meth c H locs 0 0 Q (F0 m 18 ls []) := by
    intro n
    induction n with
    | zero => intro y16 H locs ls b_y16 hm hT hS hl; exact absurd hm (Nat.not_lt_zero _)
    | succ n ih =>
      intro y16 H locs ls b_y16 hm hT hS hl
      have ih18_17 := ih
      clear ih
      refine lv_iload_n hx hb dX10_addUpForm_18 rfl (lv_at hl 2 rfl) ?_
      refine lv_aload_n hx hb dX10_addUpForm_19 rfl (lv_at hl 0 rfl) ?_
      refine tz_get (ci := 7) (v := .ref h5) (C := RX10) (F := TX10) (N := 17) hx hb hU iX10 hown hK hT 0 rfl rfl 5 (by decide) w254 (fun _ h9 => h9) rfl dX10_addUpForm_20 ?_
      refine tz_get (ci := 3) (v := .int h5f10) (C := RX4) (F := TX4) (N := 12) hx hb hU iX4 hown hK hT 1 rfl rfl 10 (by decide) w166 (fun _ h9 => h9) rfl dX10_addUpForm_23 ?_
      refine lv_icmp_ge (tgt := 141) hx hb dX10_addUpForm_26 (by decide) (fun c_18 => ?_) (fun c_18 => ?_)
      · skip
        have c_18 := ni_le c_18 rfl rfl
        refine lv_iconst (v := 1) hx hb dX10_addUpForm_141 (by decide) ?_
        exact tz_retZ (B := B_cX10_addUpForm_d1202 D k h0 h1 h5 h11 h12 h21 h2 h3 h4 h6 h7 h8 h9 h10 h13 h22 h23 h24 h25 h26 h27 h28 h0f2 h0f6 h0f8 h0f11 h1f0 h1f1 h1f2 h5f8 h5f9 h5f10 h5f11) (v := 1) hQ hx hb hr hlocks hS (Nat.le_of_ble_eq_true rfl) (Nat.le_of_ble_eq_true rfl) dX10_addUpForm_142 (by have := li_1; omega) (⟨(by have := li_1; omega), (hT.sub [0, 4, 1, 5, 2, 3] (by decide) rfl)⟩)
      · skip
        have c_18 := ni_nle c_18 rfl rfl
        refine lv_aload_n hx hb dX10_addUpForm_29 rfl (lv_at hl 0 rfl) ?_
        refine tz_get (ci := 7) (v := .ref h5) (C := RX10) (F := TX10) (N := 17) hx hb hU iX10 hown hK hT 0 rfl rfl 5 (by decide) w254 (fun _ h9 => h9) rfl dX10_addUpForm_30 ?_
        refine tz_get (ci := 3) (v := .ref h21) (C := RX4) (F := TX4) (N := 12) hx hb hU iX4 hown hK hT 1 rfl rfl 0 (by decide) w150 (fun _ h9 => h9) rfl dX10_addUpForm_33 ?_
        refine lv_aload_n hx hb dX10_addUpForm_36 rfl (lv_at hl 0 rfl) ?_
        refine tz_get (ci := 7) (v := .ref h5) (C := RX10) (F := TX10) (N := 17) hx hb hU iX10 hown hK hT 0 rfl rfl 5 (by decide) w254 (fun _ h9 => h9) rfl dX10_addUpForm_37 ?_
        refine lv_iload_n hx hb dX10_addUpForm_40 rfl (lv_at hl 2 rfl) ?_
        refine tcI (Tc := [(h5, ob 3 [.ref h21, .ref h22, .ref h23, .ref h24, .ref h25, .ref h26, .ref h27, .ref h28, .int h5f8, .int h5f9, .int h5f10, .int h5f11])]) (Tr := [(h0, ob 7 [.ref h1, .ref h2, .int h0f2, .ref h3, .ref h4, .ref h5, .int h0f6, .ref h6, .int h0f8, .null, .ref h7, .int h0f11, .ref h8, .ref h9, .ref h10, .ref h11, .ref h12]), (h12, aJ (k 1) 9 anJ), (h21, aJ (k 1) 900 anJ), (h1, ob 4 [.int h1f0, .int h1f1, .int h1f2, .ref h13]), (h11, aJ (k 1) 9 anJ)]) (as := [h5]) (zcV (q0 := 1) (ci := 3) (As := [.int y16]) (rest := [.ref h21]) (Tc := [(h5, ob 3 [.ref h21, .ref h22, .ref h23, .ref h24, .ref h25, .ref h26, .ref h27, .ref h28, .int h5f8, .int h5f9, .int h5f10, .int h5f11])]) hx hb hml hown hU hK hT rfl rfl [1] rfl (by decide) (cX4_start_d01b0 l D k _ h5 h21 h22 h23 h24 h25 h26 h27 h28 y16 h5f8 h5f9 h5f10 h5f11 (by omega) (by omega) (by omega) (by omega) (by omega)) w505 w574 w503 w504 w66 hdX4_start ⟨rfl, rfl⟩ ⟨Nat.le_of_ble_eq_true rfl, Nat.le_of_ble_eq_true rfl⟩ rfl hl.1 (Nat.le_of_ble_eq_true rfl) dX10_addUpForm_41 ⟨Nat.le_of_ble_eq_true rfl, Nat.le_of_ble_eq_true rfl⟩) hT hS hA [1] [0, 2, 3, 4, 5] rfl rfl rfl (by decide) (by decide) (fun r19 H locs hB J hS => ?_)
        obtain ⟨b_r19, hT1⟩ := hB
        have hT := J _ hT1
        have hT : TP D A [(h0, ob 7 [.ref h1, .ref h2, .int h0f2, .ref h3, .ref h4, .ref h5, .int h0f6, .ref h6, .int h0f8, .null, .ref h7, .int h0f11, .ref h8, .ref h9, .ref h10, .ref h11, .ref h12]), (h12, aJ (k 1) 9 anJ), (h21, aJ (k 1) 900 anJ), (h1, ob 4 [.int h1f0, .int h1f1, .int h1f2, .ref h13]), (h11, aJ (k 1) 9 anJ), (h5, ob 3 [.ref h21, .ref h22, .ref h23, .ref h24, .ref h25, .ref h26, .ref h27, .ref h28, .int h5f8, .int h5f9, .int h5f10, .int h5f11])] H := hT
        refine lv_aload_n hx hb dX10_addUpForm_44 rfl (lv_at hl 0 rfl) ?_
        refine tz_get (ci := 7) (v := .ref h5) (C := RX10) (F := TX10) (N := 17) hx hb hU iX10 hown hK hT 0 rfl rfl 5 (by decide) w254 (fun _ h9 => h9) rfl dX10_addUpForm_45 ?_
        refine tz_get (ci := 3) (v := .ref h21) (C := RX4) (F := TX4) (N := 12) hx hb hU iX4 hown hK hT 5 rfl rfl 0 (by decide) w150 (fun _ h9 => h9) rfl dX10_addUpForm_48 ?_
        refine lv_aload_n hx hb dX10_addUpForm_51 rfl (lv_at hl 0 rfl) ?_
        refine tz_get (ci := 7) (v := .ref h5) (C := RX10) (F := TX10) (N := 17) hx hb hU iX10 hown hK hT 0 rfl rfl 5 (by decide) w254 (fun _ h9 => h9) rfl dX10_addUpForm_52 ?_
        refine lv_iload_n hx hb dX10_addUpForm_55 rfl (lv_at hl 2 rfl) ?_
        refine tcI (Tc := [(h5, ob 3 [.ref h21, .ref h22, .ref h23, .ref h24, .ref h25, .ref h26, .ref h27, .ref h28, .int h5f8, .int h5f9, .int h5f10, .int h5f11])]) (Tr := [(h0, ob 7 [.ref h1, .ref h2, .int h0f2, .ref h3, .ref h4, .ref h5, .int h0f6, .ref h6, .int h0f8, .null, .ref h7, .int h0f11, .ref h8, .ref h9, .ref h10, .ref h11, .ref h12]), (h12, aJ (k 1) 9 anJ), (h21, aJ (k 1) 900 anJ), (h1, ob 4 [.int h1f0, .int h1f1, .int h1f2, .ref h13]), (h11, aJ (k 1) 9 anJ)]) (as := [h5]) (zcV (q0 := 5) (ci := 3) (As := [.int y16]) (rest := [.ref h21, .int r19, .ref h21]) (Tc := [(h5, ob 3 [.ref h21, .ref h22, .ref h23, .ref h24, .ref h25, .ref h26, .ref h27, .ref h28, .int h5f8, .int h5f9, .int h5f10, .int h5f11])]) hx hb hml hown hU hK hT rfl rfl [5] rfl (by decide) (cX4_start_d01b0 l D k _ h5 h21 h22 h23 h24 h25 h26 h27 h28 y16 h5f8 h5f9 h5f10 h5f11 (by omega) (by omega) (by omega) (by omega) (by omega)) w505 w574 w503 w504 w66 hdX4_start ⟨rfl, rfl⟩ ⟨Nat.le_of_ble_eq_true rfl, Nat.le_of_ble_eq_true rfl⟩ rfl hl.1 (Nat.le_of_ble_eq_true rfl) dX10_addUpForm_56 ⟨Nat.le_of_ble_eq_true rfl, Nat.le_of_ble_eq_true rfl⟩) hT hS hA [5] [0, 1, 2, 3, 4] rfl rfl rfl (by decide) (by decide) (fun r20 H locs hB J hS => ?_)
        obtain ⟨b_r20, hT1⟩ := hB
        have hT := J _ hT1
        have hT : TP D A [(h0, ob 7 [.ref h1, .ref h2, .int h0f2, .ref h3, .ref h4, .ref h5, .int h0f6, .ref h6, .int h0f8, .null, .ref h7, .int h0f11, .ref h8, .ref h9, .ref h10, .ref h11, .ref h12]), (h12, aJ (k 1) 9 anJ), (h21, aJ (k 1) 900 anJ), (h1, ob 4 [.int h1f0, .int h1f1, .int h1f2, .ref h13]), (h11, aJ (k 1) 9 anJ), (h5, ob 3 [.ref h21, .ref h22, .ref h23, .ref h24, .ref h25, .ref h26, .ref h27, .ref h28, .int h5f8, .int h5f9, .int h5f10, .int h5f11])] H := hT
        refine lv_aload_n hx hb dX10_addUpForm_59 rfl (lv_at hl 0 rfl) ?_
        refine tz_get (ci := 7) (v := .ref h12) (C := RX10) (F := TX10) (N := 17) hx hb hU iX10 hown hK hT 0 rfl rfl 16 (by decide) w265 (fun _ h9 => h9) rfl dX10_addUpForm_60 ?_
        refine lv_aload_n hx hb dX10_addUpForm_63 rfl (lv_at hl 0 rfl) ?_
        refine tz_get (ci := 7) (v := .ref h1) (C := RX10) (F := TX10) (N := 17) hx hb hU iX10 hown hK hT 0 rfl rfl 0 (by decide) w249 (fun _ h9 => h9) rfl dX10_addUpForm_64 ?_
        refine tz_get (ci := 4) (v := .int h1f0) (C := RX5) (F := TX5) (N := 4) hx hb hU iX5 hown hK hT 3 rfl rfl 0 (by decide) w93 (fun _ h9 => h9) rfl dX10_addUpForm_67 ?_
        refine tcV (Tc := [(h21, aJ (k 1) 900 anJ), (h12, aJ (k 1) 9 anJ)]) (Tr := [(h0, ob 7 [.ref h1, .ref h2, .int h0f2, .ref h3, .ref h4, .ref h5, .int h0f6, .ref h6, .int h0f8, .null, .ref h7, .int h0f11, .ref h8, .ref h9, .ref h10, .ref h11, .ref h12]), (h1, ob 4 [.int h1f0, .int h1f1, .int h1f2, .ref h13]), (h11, aJ (k 1) 9 anJ), (h5, ob 3 [.ref h21, .ref h22, .ref h23, .ref h24, .ref h25, .ref h26, .ref h27, .ref h28, .int h5f8, .int h5f9, .int h5f10, .int h5f11])]) (as := [h21, h12]) (zcS (As := [.ref h21, .int r19, .ref h21, .int r20, .ref h12, .int h1f0]) (rest := []) (Tc := [(h21, aJ (k 1) 900 anJ), (h12, aJ (k 1) 9 anJ)]) hx hb hml hown hU hK hT [2, 1] rfl (by decide) (cX7_multiplyTurned_0e5b8 l D k _ h21 h12 r19 r20 h1f0 (by omega) (by omega) (by omega)) w620 w618 w619 w74 hdX7_multiplyTurned ⟨rfl, rfl⟩ ⟨Nat.le_of_ble_eq_true rfl, Nat.le_of_ble_eq_true rfl⟩ rfl hl.1 (Nat.le_of_ble_eq_true rfl) dX10_addUpForm_70 ⟨Nat.le_of_ble_eq_true rfl, Nat.le_of_ble_eq_true rfl⟩) hT hS hA [2, 1] [0, 3, 4, 5] rfl rfl rfl (by decide) (by decide) (fun H locs hB J hS => ?_)
        have hT1 := hB
        have hT := J _ hT1
        have hT : TP D A [(h0, ob 7 [.ref h1, .ref h2, .int h0f2, .ref h3, .ref h4, .ref h5, .int h0f6, .ref h6, .int h0f8, .null, .ref h7, .int h0f11, .ref h8, .ref h9, .ref h10, .ref h11, .ref h12]), (h1, ob 4 [.int h1f0, .int h1f1, .int h1f2, .ref h13]), (h11, aJ (k 1) 9 anJ), (h5, ob 3 [.ref h21, .ref h22, .ref h23, .ref h24, .ref h25, .ref h26, .ref h27, .ref h28, .int h5f8, .int h5f9, .int h5f10, .int h5f11]), (h21, aJ (k 1) 900 anJ), (h12, aJ (k 1) 9 anJ)] H := hT
        refine lv_iconst (v := 0) hx hb dX10_addUpForm_73 (by decide) ?_
        refine lv_istore_n (lv' := [(3, .int 0), (0, .ref h0), (1, .int r1), (2, .int y16)]) hx hb dX10_addUpForm_74 rfl hl (by decide) rfl (fun ls hl => ?_)
        have lp75_29 : ∀ (n : Nat) (y28 : Int32) (H : Heap) (locs : List Loc) (ls : Array Slot), (0 ≤ y28.toInt ∧ y28.toInt ≤ 9) → (r1.toInt + (-1) * y28.toInt + 1).toNat < n → TP D A [(h0, ob 7 [.ref h1, .ref h2, .int h0f2, .ref h3, .ref h4, .ref h5, .int h0f6, .ref h6, .int h0f8, .null, .ref h7, .int h0f11, .ref h8, .ref h9, .ref h10, .ref h11, .ref h12]), (h1, ob 4 [.int h1f0, .int h1f1, .int h1f2, .ref h13]), (h11, aJ (k 1) 9 anJ), (h5, ob 3 [.ref h21, .ref h22, .ref h23, .ref h24, .ref h25, .ref h26, .ref h27, .ref h28, .int h5f8, .int h5f9, .int h5f10, .int h5f11]), (h21, aJ (k 1) 900 anJ), (h12, aJ (k 1) 9 anJ)] H → va_S A s.heap H locs → lv_has ls 6 [(0, .ref h0), (1, .int r1), (2, .int y16), (3, .int y28)] → W p l e Rm_cX10_addUpForm_d1202 s m args below meth c H locs 0 0 Q (F0 m 75 ls []) := by
          intro n
          induction n with
          | zero => intro y28 H locs ls b_y28 hm hT hS hl; exact absurd hm (Nat.not_lt_zero _)
          | succ n ih =>
            intro y28 H locs ls b_y28 hm hT hS hl
            have ih75_29 := ih
            clear ih
            refine lv_iload_n hx hb dX10_addUpForm_75 rfl (lv_at hl 3 rfl) ?_
            refine lv_iload_n hx hb dX10_addUpForm_76 rfl (lv_at hl 1 rfl) ?_
            refine lv_icmp_ge (tgt := 135) hx hb dX10_addUpForm_77 (by decide) (fun c_30 => ?_) (fun c_30 => ?_)
            · skip
              have c_30 := ni_le c_30 rfl rfl
              obtain ⟨v31, e_v31⟩ : ∃ x : Int32, x = y16 + Int32.ofInt 1 := ⟨_, rfl⟩
              have f_v31 := e_v31.symm
              have e_v31 : v31.toInt = y16.toInt + 1 := ai_add e_v31 rfl (show (Int32.ofInt 1).toInt = 1 from (by decide +kernel)) (by omega)
              refine lv_iinc (v := v31) (lv' := [(2, .int v31), (0, .ref h0), (1, .int r1), (3, .int y28)]) hx hb dX10_addUpForm_135 hl (k := 2) rfl f_v31 (by decide) rfl (fun ls hl => ?_)
              refine lv_goto (tgt := 18) hx hb dX10_addUpForm_138 (by decide) ?_
              exact ih18_17 v31 _ _ _ (by omega)  (by omega) (hT.sub [0, 3, 5, 4, 1, 2] (by decide) rfl) hS (lv_sub hl [1, 2, 0] rfl)
            · skip
              have c_30 := ni_nle c_30 rfl rfl
              refine lv_aload_n hx hb dX10_addUpForm_80 rfl (lv_at hl 0 rfl) ?_
              refine tz_get (ci := 7) (v := .ref h11) (C := RX10) (F := TX10) (N := 17) hx hb hU iX10 hown hK hT 0 rfl rfl 15 (by decide) w264 (fun _ h9 => h9) rfl dX10_addUpForm_81 ?_
              refine lv_iload_n hx hb dX10_addUpForm_84 rfl (lv_at hl 3 rfl) ?_
              refine tz_lald hx hb hK hT 2 rfl (by omega) dX10_addUpForm_85 (fun v32 e_v32 => ?_)
              clear e_v32
              refine lv_aload_n hx hb dX10_addUpForm_86 rfl (lv_at hl 0 rfl) ?_
              refine tz_get (ci := 7) (v := .ref h12) (C := RX10) (F := TX10) (N := 17) hx hb hU iX10 hown hK hT 0 rfl rfl 16 (by decide) w265 (fun _ h9 => h9) rfl dX10_addUpForm_87 ?_
              refine lv_iload_n hx hb dX10_addUpForm_90 rfl (lv_at hl 3 rfl) ?_
              refine tz_lald hx hb hK hT 5 rfl (by omega) dX10_addUpForm_91 (fun v33 e_v33 => ?_)
              clear e_v33
              refine lv_ladd hx hb dX10_addUpForm_92 (lv_topl (fun v34 e_v34 => ?_))
              refine lv_lstore (lv' := [(4, .long v34), (0, .ref h0), (1, .int r1), (2, .int y16), (3, .int y28)]) hx hb dX10_addUpForm_93 hl (by decide) rfl (fun ls hl => ?_)
              refine lv_aload_n hx hb dX10_addUpForm_95 rfl (lv_at hl 1 rfl) ?_
              refine tz_get (ci := 7) (v := .ref h11) (C := RX10) (F := TX10) (N := 17) hx hb hU iX10 hown hK hT 0 rfl rfl 15 (by decide) w264 (fun _ h9 => h9) rfl dX10_addUpForm_96 ?_
              refine lv_iload_n hx hb dX10_addUpForm_99 rfl (lv_at hl 4 rfl) ?_
              refine tz_lald hx hb hK hT 2 rfl (by omega) dX10_addUpForm_100 (fun v35 e_v35 => ?_)
              clear e_v35
              refine lv_lload hx hb dX10_addUpForm_101 (lv_at hl 0 rfl) ?_
              refine lv_lxor hx hb dX10_addUpForm_103 (lv_topl (fun v36 e_v36 => ?_))
              refine lv_aload_n hx hb dX10_addUpForm_104 rfl (lv_at hl 1 rfl) ?_
              refine tz_get (ci := 7) (v := .ref h12) (C := RX10) (F := TX10) (N := 17) hx hb hU iX10 hown hK hT 0 rfl rfl 16 (by decide) w265 (fun _ h9 => h9) rfl dX10_addUpForm_105 ?_
              refine lv_iload_n hx hb dX10_addUpForm_108 rfl (lv_at hl 4 rfl) ?_
              refine tz_lald hx hb hK hT 5 rfl (by omega) dX10_addUpForm_109 (fun v37 e_v37 => ?_)
              clear e_v37
              refine lv_lload hx hb dX10_addUpForm_110 (lv_at hl 0 rfl) ?_
              refine lv_lxor hx hb dX10_addUpForm_112 (lv_topl (fun v38 e_v38 => ?_))
              refine lv_land hx hb dX10_addUpForm_113 (lv_topl (fun v39 e_v39 => ?_))
              refine lv_lconst (v := 0) hx hb dX10_addUpForm_114 (by decide) ?_
              refine W.lcmp hx hb dX10_addUpForm_115 ?_
              refine lv_if_ge (tgt := 121) hx hb dX10_addUpForm_116 (by decide) (fun c_40 => ?_) (fun c_40 => ?_)
              · skip
                have c_40 := nl_ge c_40 rfl ll_0
                refine lv_aload_n hx hb dX10_addUpForm_121 rfl (lv_at hl 1 rfl) ?_
                refine tz_get (ci := 7) (v := .ref h11) (C := RX10) (F := TX10) (N := 17) hx hb hU iX10 hown hK hT 0 rfl rfl 15 (by decide) w264 (fun _ h9 => h9) rfl dX10_addUpForm_122 ?_
                refine lv_iload_n hx hb dX10_addUpForm_125 rfl (lv_at hl 4 rfl) ?_
                refine lv_lload hx hb dX10_addUpForm_126 (lv_at hl 0 rfl) ?_
                refine tz_last hx hb hK hT hS 2 rfl (by omega) (fun _ _ => trivial) dX10_addUpForm_128 (fun H locs hT hS => ?_)
                obtain ⟨v41, e_v41⟩ : ∃ x : Int32, x = y28 + Int32.ofInt 1 := ⟨_, rfl⟩
                have f_v41 := e_v41.symm
                have e_v41 : v41.toInt = y28.toInt + 1 := ai_add e_v41 rfl (show (Int32.ofInt 1).toInt = 1 from (by decide +kernel)) (by omega)
                refine lv_iinc (v := v41) (lv' := [(3, .int v41), (4, .long v34), (0, .ref h0), (1, .int r1), (2, .int y16)]) hx hb dX10_addUpForm_129 hl (k := 4) rfl f_v41 (by decide) rfl (fun ls hl => ?_)
                refine lv_goto (tgt := 75) hx hb dX10_addUpForm_132 (by decide) ?_
                exact ih75_29 v41 _ _ _ (by omega)  (by omega) hT hS (lv_sub hl [2, 3, 4, 0] rfl)
              · skip
                have c_40 := nl_nge c_40 rfl ll_0
                refine lv_iconst (v := 0) hx hb dX10_addUpForm_119 (by decide) ?_
                exact tz_retZ (B := B_cX10_addUpForm_d1202 D k h0 h1 h5 h11 h12 h21 h2 h3 h4 h6 h7 h8 h9 h10 h13 h22 h23 h24 h25 h26 h27 h28 h0f2 h0f6 h0f8 h0f11 h1f0 h1f1 h1f2 h5f8 h5f9 h5f10 h5f11) (v := 0) hQ hx hb hr hlocks hS (Nat.le_of_ble_eq_true rfl) (Nat.le_of_ble_eq_true rfl) dX10_addUpForm_120 (by have := li_0; omega) (⟨(by have := li_0; omega), (hT.sub [0, 1, 3, 2, 5, 4] (by decide) rfl)⟩)
        exact lp75_29 ((r1.toInt + (-1) * (0 : Int32).toInt + 1).toNat + 1) (0) _ _ _ (by have := li_0; omega)  (Nat.lt_succ_self _) hT hS (lv_sub hl [1, 2, 3, 0] rfl)
  exact lp18_17 ((h5f10.toInt + (-1) * (0 : Int32).toInt + 1).toNat + 1) (0) _ _ _ (by have := li_0; omega)  (Nat.lt_succ_self _) hT hS (lv_sub hl [2, 1, 0] rfl)
abbrev Rm_cJ9_abs_067f4_c4792 : Room := { frames := 0, cells := 0, slots := 0, locals := 0 }
abbrev B_cJ9_abs_067f4_c4792 (D : va_G) (k : Nat → ClassId) (x0 : Int64) (A : Nat → Prop) (r : Int64) (H : Heap) : Prop := TP D A [] H
set_option maxHeartbeats 4000000 in
set_option maxRecDepth 100000 in
theorem cJ9_abs_067f4_c4792 (l : Launch) (D : va_G) (k : Nat → ClassId) (sz : Nat) (x0 : Int64) : Met l yJ9_abs_067f4 (Cond.code yJ9_abs_067f4 cJ9_abs_067f4 2 (some .long) :: uw) Rm_cJ9_abs_067f4_c4792 (pT D k sz [.long x0] []) (qL (B_cJ9_abs_067f4_c4792 D k x0 (zA [] sz)) (zA [] sz)) 0 0 (zA [] sz) := by
  refine tz_beginF (as := []) (Qc := fun A => qL (B_cJ9_abs_067f4_c4792 D k x0 A) A) (by decide +kernel) rfl (Nat.le_of_ble_eq_true rfl) ?_
  intro p e s m args below meth c ls A Q hx hb hr hml hown hlocks hin hU hK hT hS hA hl hQ
  have hl : lv_has ls 2 [(0, .long x0)] := hl
  have hT : TP D A [] s.heap := hT
  refine lv_lload_n hx hb dJ9_abs_067f4_0 rfl (lv_at hl 0 rfl) ?_
  refine lv_lconst (v := 0) hx hb dJ9_abs_067f4_1 (by decide) ?_
  refine W.lcmp hx hb dJ9_abs_067f4_2 ?_
  refine lv_if_ge (tgt := 11) hx hb dJ9_abs_067f4_3 (by decide) (fun c_1 => ?_) (fun c_1 => ?_)
  · skip
    have c_1 := nl_ge c_1 rfl ll_0
    refine lv_lload_n hx hb dJ9_abs_067f4_11 rfl (lv_at hl 0 rfl) ?_
    exact tz_retL (B := B_cJ9_abs_067f4_c4792 D k x0) (v := x0) hQ hx hb hr hlocks hS (Nat.le_of_ble_eq_true rfl) (Nat.le_of_ble_eq_true rfl) dJ9_abs_067f4_12 (hT)
  · skip
    have c_1 := nl_nge c_1 rfl ll_0
    refine lv_lload_n hx hb dJ9_abs_067f4_6 rfl (lv_at hl 0 rfl) ?_
    refine lv_lneg hx hb dJ9_abs_067f4_7 (lv_topl (fun v2 e_v2 => ?_))
    refine lv_goto (tgt := 12) hx hb dJ9_abs_067f4_8 (by decide) ?_
    exact tz_retL (B := B_cJ9_abs_067f4_c4792 D k x0) (v := v2) hQ hx hb hr hlocks hS (Nat.le_of_ble_eq_true rfl) (Nat.le_of_ble_eq_true rfl) dJ9_abs_067f4_12 (hT)
abbrev Rm_cX7_commonDivisor_2e0d5 : Room := { frames := 1, cells := 0, slots := 0, locals := 21 }
abbrev B_cX7_commonDivisor_2e0d5 (D : va_G) (k : Nat → ClassId) (h0 : Nat) (x1 : Int32) (A : Nat → Prop) (r : Int64) (H : Heap) : Prop := TP D A [(h0, aJ (k 1) 9 anJ)] H
set_option maxHeartbeats 4000000 in
set_option maxRecDepth 100000 in
theorem cX7_commonDivisor_2e0d5 (l : Launch) (D : va_G) (k : Nat → ClassId) (sz : Nat) (h0 : Nat) (x1 : Int32) (b_x1 : 1 ≤ x1.toInt ∧ x1.toInt ≤ 9) : Met l yX7_commonDivisor (Cond.code yX7_commonDivisor cX7_commonDivisor 10 (some .long) :: uw) Rm_cX7_commonDivisor_2e0d5 (pT D k sz [.ref h0, .int x1] [(h0, aJ (k 1) 9 anJ)]) (qL (B_cX7_commonDivisor_2e0d5 D k h0 x1 (zA [h0] sz)) (zA [h0] sz)) 0 0 (zA [h0] sz) := by
  refine tz_begin (as := [h0]) (Qc := fun A => qL (B_cX7_commonDivisor_2e0d5 D k h0 x1 A) A) (by decide +kernel) rfl (Nat.le_of_ble_eq_true rfl) ?_
  intro p e s m args below meth c ls A Q hx hb hr hml hown hlocks hin hU hK hT hS hA hl hQ
  have hl : lv_has ls 10 [(0, .ref h0), (1, .int x1)] := hl
  have hT : TP D A [(h0, aJ (k 1) 9 anJ)] s.heap := hT
  refine lv_lconst (v := 0) hx hb dX7_commonDivisor_0 (by decide) ?_
  refine lv_lstore_n (lv' := [(2, .long 0), (0, .ref h0), (1, .int x1)]) hx hb dX7_commonDivisor_1 rfl hl (by decide) rfl (fun ls hl => ?_)
  refine lv_iconst (v := 0) hx hb dX7_commonDivisor_2 (by decide) ?_
  refine lv_istore (lv' := [(4, .int 0), (2, .long 0), (0, .ref h0), (1, .int x1)]) hx hb dX7_commonDivisor_3 hl (by decide) rfl (fun ls hl => ?_)
  have lp5_15 : ∀ (n : Nat) (y13 : Int32) (y14 : Int64) (H : Heap) (locs : List Loc) (ls : Array Slot), (0 ≤ y13.toInt ∧ y13.toInt ≤ 9) → (x1.toInt + (-1) * y13.toInt + 1).toNat < n → TP D A [(h0, aJ (k 1) 9 anJ)] H → va_S A s.heap H locs → lv_has ls 10 [(0, .ref h0), (1, .int x1), (2, .long y14), (4, .int y13)] → W p l e Rm_cX7_commonDivisor_2e0d5 s m args below meth c H locs 0 0 Q (F0 m 5 ls []) := by
    intro n
    induction n with
    | zero => intro y13 y14 H locs ls b_y13 hm hT hS hl; exact absurd hm (Nat.not_lt_zero _)
    | succ n ih =>
      intro y13 y14 H locs ls b_y13 hm hT hS hl
      have ih5_15 := ih
      clear ih
      refine lv_iload hx hb dX7_commonDivisor_5 (lv_at hl 3 rfl) ?_
      refine lv_iload_n hx hb dX7_commonDivisor_7 rfl (lv_at hl 1 rfl) ?_
      refine lv_icmp_ge (tgt := 60) hx hb dX7_commonDivisor_8 (by decide) (fun c_16 => ?_) (fun c_16 => ?_)
      · skip
        have c_16 := ni_le c_16 rfl rfl
        refine lv_lload_n hx hb dX7_commonDivisor_60 rfl (lv_at hl 2 rfl) ?_
        refine tcL (Tc := []) (Tr := [(h0, aJ (k 1) 9 anJ)]) (as := []) (zcS (As := [.long y14]) (rest := []) (Tc := []) hx hb hml hown hU hK hT [] rfl (by decide) (cJ9_abs_067f4_c4792 l D k _ y14) w626 w624 w625 w77 hdJ9_abs_067f4 ⟨rfl, rfl⟩ ⟨Nat.le_of_ble_eq_true rfl, Nat.le_of_ble_eq_true rfl⟩ rfl hl.1 (Nat.le_of_ble_eq_true rfl) dX7_commonDivisor_61 ⟨Nat.le_of_ble_eq_true rfl, Nat.le_of_ble_eq_true rfl⟩) hT hS hA [] [0] rfl rfl rfl (by decide) (by decide) (fun r17 H locs hB J hS => ?_)
        have hT1 := hB
        have hT := J _ hT1
        have hT : TP D A [(h0, aJ (k 1) 9 anJ)] H := hT
        exact tz_retL (B := B_cX7_commonDivisor_2e0d5 D k h0 x1) (v := r17) hQ hx hb hr hlocks hS (Nat.le_of_ble_eq_true rfl) (Nat.le_of_ble_eq_true rfl) dX7_commonDivisor_64 (hT)
      · skip
        have c_16 := ni_nle c_16 rfl rfl
        refine lv_aload_n hx hb dX7_commonDivisor_11 rfl (lv_at hl 0 rfl) ?_
        refine lv_iload hx hb dX7_commonDivisor_12 (lv_at hl 3 rfl) ?_
        refine tz_lald hx hb hK hT 0 rfl (by omega) dX7_commonDivisor_14 (fun v18 e_v18 => ?_)
        clear e_v18
        refine lv_lstore (lv' := [(5, .long v18), (0, .ref h0), (1, .int x1), (2, .long y14), (4, .int y13)]) hx hb dX7_commonDivisor_15 hl (by decide) rfl (fun ls hl => ?_)
        refine lv_iconst (v := 0) hx hb dX7_commonDivisor_17 (by decide) ?_
        refine lv_istore (lv' := [(7, .int 0), (5, .long v18), (0, .ref h0), (1, .int x1), (2, .long y14), (4, .int y13)]) hx hb dX7_commonDivisor_18 hl (by decide) rfl (fun ls hl => ?_)
        have lp20_79 : ∀ (n : Nat) (y76 : Int32) (y77 : Int64) (y78 : Int64) (H : Heap) (locs : List Loc) (ls : Array Slot), (0 ≤ y76.toInt ∧ y76.toInt ≤ 200) → ((-1) * y76.toInt + 200 + 1).toNat < n → TP D A [(h0, aJ (k 1) 9 anJ)] H → va_S A s.heap H locs → lv_has ls 10 [(0, .ref h0), (1, .int x1), (2, .long y78), (4, .int y13), (5, .long y77), (7, .int y76)] → W p l e Rm_cX7_commonDivisor_2e0d5 s m args below meth c H locs 0 0 Q (F0 m 20 ls []) := by
          intro n
          induction n with
          | zero => intro y76 y77 y78 H locs ls b_y76 hm hT hS hl; exact absurd hm (Nat.not_lt_zero _)
          | succ n ih =>
            intro y76 y77 y78 H locs ls b_y76 hm hT hS hl
            have ih20_79 := ih
            clear ih
            refine lv_iload hx hb dX7_commonDivisor_20 (lv_at hl 5 rfl) ?_
            refine lv_sipush (v := 200) hx hb dX7_commonDivisor_22 (by decide) ?_
            refine lv_icmp_ge (tgt := 54) hx hb dX7_commonDivisor_25 (by decide) (fun c_80 => ?_) (fun c_80 => ?_)
            · skip
              have c_80 := ni_le c_80 li_200 rfl
              obtain ⟨v81, e_v81⟩ : ∃ x : Int32, x = y13 + Int32.ofInt 1 := ⟨_, rfl⟩
              have f_v81 := e_v81.symm
              have e_v81 : v81.toInt = y13.toInt + 1 := ai_add e_v81 rfl (show (Int32.ofInt 1).toInt = 1 from (by decide +kernel)) (by omega)
              refine lv_iinc (v := v81) (lv' := [(4, .int v81), (0, .ref h0), (1, .int x1), (2, .long y78), (5, .long y77), (7, .int y76)]) hx hb dX7_commonDivisor_54 hl (k := 3) rfl f_v81 (by decide) rfl (fun ls hl => ?_)
              refine lv_goto (tgt := 5) hx hb dX7_commonDivisor_57 (by decide) ?_
              exact ih5_15 v81 y78 _ _ _ (by omega)  (by omega) hT hS (lv_sub hl [1, 2, 3, 0] rfl)
            · skip
              have c_80 := ni_nle c_80 li_200 rfl
              refine lv_lload hx hb dX7_commonDivisor_28 (lv_at hl 4 rfl) ?_
              refine lv_lconst (v := 0) hx hb dX7_commonDivisor_30 (by decide) ?_
              refine W.lcmp hx hb dX7_commonDivisor_31 ?_
              refine lv_if_eq (tgt := 54) hx hb dX7_commonDivisor_32 (by decide) (fun c_82 => ?_) (fun c_82 => ?_)
              · skip
                have c_82 := nl_eq c_82 rfl ll_0
                obtain ⟨v83, e_v83⟩ : ∃ x : Int32, x = y13 + Int32.ofInt 1 := ⟨_, rfl⟩
                have f_v83 := e_v83.symm
                have e_v83 : v83.toInt = y13.toInt + 1 := ai_add e_v83 rfl (show (Int32.ofInt 1).toInt = 1 from (by decide +kernel)) (by omega)
                refine lv_iinc (v := v83) (lv' := [(4, .int v83), (0, .ref h0), (1, .int x1), (2, .long y78), (5, .long y77), (7, .int y76)]) hx hb dX7_commonDivisor_54 hl (k := 3) rfl f_v83 (by decide) rfl (fun ls hl => ?_)
                refine lv_goto (tgt := 5) hx hb dX7_commonDivisor_57 (by decide) ?_
                exact ih5_15 v83 y78 _ _ _ (by omega)  (by omega) hT hS (lv_sub hl [1, 2, 3, 0] rfl)
              · skip
                have c_82 := nl_ne c_82 rfl ll_0
                refine lv_lload_n hx hb dX7_commonDivisor_35 rfl (lv_at hl 2 rfl) ?_
                refine lv_lload hx hb dX7_commonDivisor_36 (lv_at hl 4 rfl) ?_
                refine lv_lrem hx hb dX7_commonDivisor_38 (nz64 (y := y77.toInt) rfl (by omega)) (lv_topl (fun v84 e_v84 => ?_))
                have e_v84 := al_rem e_v84 (nz64 (y := y77.toInt) rfl (by omega))
                refine lv_lstore (lv' := [(8, .long v84), (0, .ref h0), (1, .int x1), (2, .long y78), (4, .int y13), (5, .long y77), (7, .int y76)]) hx hb dX7_commonDivisor_39 hl (by decide) rfl (fun ls hl => ?_)
                refine lv_lload hx hb dX7_commonDivisor_41 (lv_at hl 5 rfl) ?_
                refine lv_lstore_n (lv' := [(2, .long y77), (8, .long v84), (0, .ref h0), (1, .int x1), (4, .int y13), (5, .long y77), (7, .int y76)]) hx hb dX7_commonDivisor_43 rfl hl (by decide) rfl (fun ls hl => ?_)
                refine lv_lload hx hb dX7_commonDivisor_44 (lv_at hl 1 rfl) ?_
                refine lv_lstore (lv' := [(5, .long v84), (2, .long y77), (8, .long v84), (0, .ref h0), (1, .int x1), (4, .int y13), (7, .int y76)]) hx hb dX7_commonDivisor_46 hl (by decide) rfl (fun ls hl => ?_)
                obtain ⟨v85, e_v85⟩ : ∃ x : Int32, x = y76 + Int32.ofInt 1 := ⟨_, rfl⟩
                have f_v85 := e_v85.symm
                have e_v85 : v85.toInt = y76.toInt + 1 := ai_add e_v85 rfl (show (Int32.ofInt 1).toInt = 1 from (by decide +kernel)) (by omega)
                refine lv_iinc (v := v85) (lv' := [(7, .int v85), (5, .long v84), (2, .long y77), (8, .long v84), (0, .ref h0), (1, .int x1), (4, .int y13)]) hx hb dX7_commonDivisor_48 hl (k := 6) rfl f_v85 (by decide) rfl (fun ls hl => ?_)
                refine lv_goto (tgt := 20) hx hb dX7_commonDivisor_51 (by decide) ?_
                exact ih20_79 v85 v84 y77 _ _ _ (by omega)  (by omega) hT hS (lv_sub hl [4, 5, 2, 6, 1, 0] rfl)
        exact lp20_79 (((-1) * (0 : Int32).toInt + 200 + 1).toNat + 1) (0) v18 y14 _ _ _ (by have := li_0; omega)  (Nat.lt_succ_self _) hT hS (lv_sub hl [2, 3, 4, 5, 1, 0] rfl)
  exact lp5_15 ((x1.toInt + (-1) * (0 : Int32).toInt + 1).toNat + 1) (0) (0) _ _ _ (by have := li_0; have := ll_0; omega)  (Nat.lt_succ_self _) hT hS (lv_sub hl [2, 3, 1, 0] rfl)
abbrev Rm_cJ9_max_f86c9_eaa09 : Room := { frames := 0, cells := 0, slots := 0, locals := 0 }
abbrev B_cJ9_max_f86c9_eaa09 (D : va_G) (k : Nat → ClassId) (x0 : Int64) (x1 : Int64) (A : Nat → Prop) (r : Int64) (H : Heap) : Prop := (x0.toInt < x1.toInt ∧ x1 = r ∧ TP D A [] H) ∨ (x1.toInt ≤ x0.toInt ∧ x0 = r ∧ TP D A [] H)
set_option maxHeartbeats 4000000 in
set_option maxRecDepth 100000 in
theorem cJ9_max_f86c9_eaa09 (l : Launch) (D : va_G) (k : Nat → ClassId) (sz : Nat) (x0 : Int64) (x1 : Int64) (b_x0 : 1 ≤ x0.toInt ∧ x0.toInt ≤ 1) : Met l yJ9_max_f86c9 (Cond.code yJ9_max_f86c9 cJ9_max_f86c9 4 (some .long) :: uw) Rm_cJ9_max_f86c9_eaa09 (pT D k sz [.long x0, .long x1] []) (qL (B_cJ9_max_f86c9_eaa09 D k x0 x1 (zA [] sz)) (zA [] sz)) 0 0 (zA [] sz) := by
  refine tz_beginF (as := []) (Qc := fun A => qL (B_cJ9_max_f86c9_eaa09 D k x0 x1 A) A) (by decide +kernel) rfl (Nat.le_of_ble_eq_true rfl) ?_
  intro p e s m args below meth c ls A Q hx hb hr hml hown hlocks hin hU hK hT hS hA hl hQ
  have hl : lv_has ls 4 [(0, .long x0), (2, .long x1)] := hl
  have hT : TP D A [] s.heap := hT
  refine lv_lload_n hx hb dJ9_max_f86c9_0 rfl (lv_at hl 0 rfl) ?_
  refine lv_lload_n hx hb dJ9_max_f86c9_1 rfl (lv_at hl 1 rfl) ?_
  refine W.lcmp hx hb dJ9_max_f86c9_2 ?_
  refine lv_if_lt (tgt := 10) hx hb dJ9_max_f86c9_3 (by decide) (fun c_1 => ?_) (fun c_1 => ?_)
  · skip
    have c_1 := nl_lt c_1 rfl rfl
    refine lv_lload_n hx hb dJ9_max_f86c9_10 rfl (lv_at hl 1 rfl) ?_
    exact tz_retL (B := B_cJ9_max_f86c9_eaa09 D k x0 x1) (v := x1) hQ hx hb hr hlocks hS (Nat.le_of_ble_eq_true rfl) (Nat.le_of_ble_eq_true rfl) dJ9_max_f86c9_11 (Or.inl ⟨(by omega), rfl, hT⟩)
  · skip
    have c_1 := nl_nlt c_1 rfl rfl
    refine lv_lload_n hx hb dJ9_max_f86c9_6 rfl (lv_at hl 0 rfl) ?_
    refine lv_goto (tgt := 11) hx hb dJ9_max_f86c9_7 (by decide) ?_
    exact tz_retL (B := B_cJ9_max_f86c9_eaa09 D k x0 x1) (v := x0) hQ hx hb hr hlocks hS (Nat.le_of_ble_eq_true rfl) (Nat.le_of_ble_eq_true rfl) dJ9_max_f86c9_11 (Or.inr (⟨(by omega), rfl, hT⟩))
abbrev Rm_cX10_form_d1db2 : Room := { frames := 6, cells := 0, slots := 0, locals := 149 }
abbrev B_cX10_form_d1db2 (D : va_G) (k : Nat → ClassId) (h0 h1 h5 h8 h11 h12 h13 h21 h22 h23 h24 h25 h26 h27 h28 h2 h3 h4 h6 h7 h9 h10 : Nat) (x1 : Int32) (x2 : Int32) (h0f2 : Int32) (h0f6 : Int32) (h0f8 : Int32) (h0f11 : Int32) (h1f0 : Int32) (h1f1 : Int32) (h1f2 : Int32) (h5f8 : Int32) (h5f9 : Int32) (h5f10 : Int32) (h5f11 : Int32) (h8f1 : Int32) (A : Nat → Prop) (r : Int64) (H : Heap) : Prop := ∃ o0 : Int32, ∃ o1 : Int32, ∃ o2 : Int32, ∃ o3 : Int32, ∃ o4 : Int32, ∃ o5 : Int32, (0 ≤ o0.toInt ∧ o0.toInt ≤ 1) ∧ (0 ≤ o1.toInt ∧ o1.toInt ≤ 9) ∧ (0 ≤ o2.toInt ∧ o2.toInt ≤ 100) ∧ (0 ≤ o3.toInt ∧ o3.toInt ≤ 100) ∧ (0 ≤ o4.toInt ∧ o4.toInt ≤ 1) ∧ (0 ≤ o5.toInt ∧ o5.toInt ≤ 7) ∧ TP D A [(h0, ob 7 [.ref h1, .ref h2, .int h0f2, .ref h3, .ref h4, .ref h5, .int o0, .ref h6, .int h0f8, .null, .ref h7, .int h0f11, .ref h8, .ref h9, .ref h10, .ref h11, .ref h12]), (h1, ob 4 [.int h1f0, .int h1f1, .int h1f2, .ref h13]), (h5, ob 3 [.ref h21, .ref h22, .ref h23, .ref h24, .ref h25, .ref h26, .ref h27, .ref h28, .int o1, .int o2, .int o3, .int o4]), (h8, ob 2 [.ref h1, .int o5]), (h11, aJ (k 1) 9 anJ), (h12, aJ (k 1) 9 anJ), (h13, aJ (k 1) 36 anJ), (h21, aJ (k 1) 900 anJ), (h22, aI (k 0) 100 anI), (h23, aI (k 0) 100 anI), (h24, aI (k 0) 100 anI), (h25, aI (k 0) 400 anI), (h26, aI (k 0) 256 (rgI (-1) 99)), (h27, aI (k 0) 100 (rgI (-1) 99)), (h28, aJ (k 1) 60 anJ)] H
set_option maxHeartbeats 4000000 in
set_option maxRecDepth 100000 in
theorem cX10_form_d1db2 (l : Launch) (D : va_G) (k : Nat → ClassId) (sz : Nat) (h0 h1 h5 h8 h11 h12 h13 h21 h22 h23 h24 h25 h26 h27 h28 h2 h3 h4 h6 h7 h9 h10 : Nat) (x1 : Int32) (x2 : Int32) (h0f2 : Int32) (h0f6 : Int32) (h0f8 : Int32) (h0f11 : Int32) (h1f0 : Int32) (h1f1 : Int32) (h1f2 : Int32) (h5f8 : Int32) (h5f9 : Int32) (h5f10 : Int32) (h5f11 : Int32) (h8f1 : Int32) (b_h0f2 : 0 ≤ h0f2.toInt ∧ h0f2.toInt ≤ 1) (b_h0f6 : 0 ≤ h0f6.toInt ∧ h0f6.toInt ≤ 1) (b_h0f8 : 0 ≤ h0f8.toInt ∧ h0f8.toInt ≤ 1) (b_h0f11 : 0 ≤ h0f11.toInt ∧ h0f11.toInt ≤ 200) (b_h1f0 : 1 ≤ h1f0.toInt ∧ h1f0.toInt ≤ 3) (b_h1f1 : 0 ≤ h1f1.toInt ∧ h1f1.toInt ≤ 4) (b_h5f8 : 0 ≤ h5f8.toInt ∧ h5f8.toInt ≤ 9) (b_h5f9 : 0 ≤ h5f9.toInt ∧ h5f9.toInt ≤ 100) (b_h5f10 : 0 ≤ h5f10.toInt ∧ h5f10.toInt ≤ 100) (b_h5f11 : 0 ≤ h5f11.toInt ∧ h5f11.toInt ≤ 1) (b_h8f1 : 0 ≤ h8f1.toInt ∧ h8f1.toInt ≤ 7) : Met l yX10_form (Cond.code yX10_form cX10_form 5 (some .long) :: uw) Rm_cX10_form_d1db2 (pT D k sz [.ref h0, .int x1, .int x2] [(h0, ob 7 [.ref h1, .ref h2, .int h0f2, .ref h3, .ref h4, .ref h5, .int h0f6, .ref h6, .int h0f8, .null, .ref h7, .int h0f11, .ref h8, .ref h9, .ref h10, .ref h11, .ref h12]), (h1, ob 4 [.int h1f0, .int h1f1, .int h1f2, .ref h13]), (h5, ob 3 [.ref h21, .ref h22, .ref h23, .ref h24, .ref h25, .ref h26, .ref h27, .ref h28, .int h5f8, .int h5f9, .int h5f10, .int h5f11]), (h8, ob 2 [.ref h1, .int h8f1]), (h11, aJ (k 1) 9 anJ), (h12, aJ (k 1) 9 anJ), (h13, aJ (k 1) 36 anJ), (h21, aJ (k 1) 900 anJ), (h22, aI (k 0) 100 anI), (h23, aI (k 0) 100 anI), (h24, aI (k 0) 100 anI), (h25, aI (k 0) 400 anI), (h26, aI (k 0) 256 (rgI (-1) 99)), (h27, aI (k 0) 100 (rgI (-1) 99)), (h28, aJ (k 1) 60 anJ)]) (qL (B_cX10_form_d1db2 D k h0 h1 h5 h8 h11 h12 h13 h21 h22 h23 h24 h25 h26 h27 h28 h2 h3 h4 h6 h7 h9 h10 x1 x2 h0f2 h0f6 h0f8 h0f11 h1f0 h1f1 h1f2 h5f8 h5f9 h5f10 h5f11 h8f1 (zA [h0, h1, h5, h8, h11, h12, h13, h21, h22, h23, h24, h25, h26, h27, h28] sz)) (zA [h0, h1, h5, h8, h11, h12, h13, h21, h22, h23, h24, h25, h26, h27, h28] sz)) 0 0 (zA [h0, h1, h5, h8, h11, h12, h13, h21, h22, h23, h24, h25, h26, h27, h28] sz) := by
  refine tz_begin (as := [h0, h1, h5, h8, h11, h12, h13, h21, h22, h23, h24, h25, h26, h27, h28]) (Qc := fun A => qL (B_cX10_form_d1db2 D k h0 h1 h5 h8 h11 h12 h13 h21 h22 h23 h24 h25 h26 h27 h28 h2 h3 h4 h6 h7 h9 h10 x1 x2 h0f2 h0f6 h0f8 h0f11 h1f0 h1f1 h1f2 h5f8 h5f9 h5f10 h5f11 h8f1 A) A) (by decide +kernel) rfl (Nat.le_of_ble_eq_true rfl) ?_
  intro p e s m args below meth c ls A Q hx hb hr hml hown hlocks hin hU hK hT hS hA hl hQ
  have hl : lv_has ls 5 [(0, .ref h0), (1, .int x1), (2, .int x2)] := hl
  have hT : TP D A [(h0, ob 7 [.ref h1, .ref h2, .int h0f2, .ref h3, .ref h4, .ref h5, .int h0f6, .ref h6, .int h0f8, .null, .ref h7, .int h0f11, .ref h8, .ref h9, .ref h10, .ref h11, .ref h12]), (h1, ob 4 [.int h1f0, .int h1f1, .int h1f2, .ref h13]), (h5, ob 3 [.ref h21, .ref h22, .ref h23, .ref h24, .ref h25, .ref h26, .ref h27, .ref h28, .int h5f8, .int h5f9, .int h5f10, .int h5f11]), (h8, ob 2 [.ref h1, .int h8f1]), (h11, aJ (k 1) 9 anJ), (h12, aJ (k 1) 9 anJ), (h13, aJ (k 1) 36 anJ), (h21, aJ (k 1) 900 anJ), (h22, aI (k 0) 100 anI), (h23, aI (k 0) 100 anI), (h24, aI (k 0) 100 anI), (h25, aI (k 0) 400 anI), (h26, aI (k 0) 256 (rgI (-1) 99)), (h27, aI (k 0) 100 (rgI (-1) 99)), (h28, aJ (k 1) 60 anJ)] s.heap := hT
  refine lv_aload_n hx hb dX10_form_0 rfl (lv_at hl 0 rfl) ?_
  refine tz_get (ci := 7) (v := .ref h1) (C := RX10) (F := TX10) (N := 17) hx hb hU iX10 hown hK hT 0 rfl rfl 0 (by decide) w249 (fun _ h9 => h9) rfl dX10_form_1 ?_
  refine lv_iload_n hx hb dX10_form_4 rfl (lv_at hl 1 rfl) ?_
  refine lv_iload_n hx hb dX10_form_5 rfl (lv_at hl 2 rfl) ?_
  refine tcI (Tc := [(h1, ob 4 [.int h1f0, .int h1f1, .int h1f2, .ref h13])]) (Tr := [(h0, ob 7 [.ref h1, .ref h2, .int h0f2, .ref h3, .ref h4, .ref h5, .int h0f6, .ref h6, .int h0f8, .null, .ref h7, .int h0f11, .ref h8, .ref h9, .ref h10, .ref h11, .ref h12]), (h5, ob 3 [.ref h21, .ref h22, .ref h23, .ref h24, .ref h25, .ref h26, .ref h27, .ref h28, .int h5f8, .int h5f9, .int h5f10, .int h5f11]), (h8, ob 2 [.ref h1, .int h8f1]), (h11, aJ (k 1) 9 anJ), (h12, aJ (k 1) 9 anJ), (h13, aJ (k 1) 36 anJ), (h21, aJ (k 1) 900 anJ), (h22, aI (k 0) 100 anI), (h23, aI (k 0) 100 anI), (h24, aI (k 0) 100 anI), (h25, aI (k 0) 400 anI), (h26, aI (k 0) 256 (rgI (-1) 99)), (h27, aI (k 0) 100 (rgI (-1) 99)), (h28, aJ (k 1) 60 anJ)]) (as := [h1]) (zcV (q0 := 1) (ci := 4) (As := [.int x1, .int x2]) (rest := []) (Tc := [(h1, ob 4 [.int h1f0, .int h1f1, .int h1f2, .ref h13])]) hx hb hml hown hU hK hT rfl rfl [1] rfl (by decide) (cX5_isPlace_ce953 l D k _ h1 h13 x1 x2 h1f0 h1f1 h1f2 (by omega) (by omega)) w319 w316 w317 w318 w64 hdX5_isPlace ⟨rfl, rfl⟩ ⟨Nat.le_of_ble_eq_true rfl, Nat.le_of_ble_eq_true rfl⟩ rfl hl.1 (Nat.le_of_ble_eq_true rfl) dX10_form_6 ⟨Nat.le_of_ble_eq_true rfl, Nat.le_of_ble_eq_true rfl⟩) hT hS hA [1] [0, 2, 3, 4, 5, 6, 7, 8, 9, 10, 11, 12, 13, 14] rfl rfl rfl (by decide) (by decide) (fun r1 H locs hB J hS => ?_)
  rcases hB with ⟨rfl, hT1⟩ | ⟨c_2, c_3, c_4, c_5, rfl, hT1⟩
  · skip
    have hT := J _ hT1
    have hT : TP D A [(h0, ob 7 [.ref h1, .ref h2, .int h0f2, .ref h3, .ref h4, .ref h5, .int h0f6, .ref h6, .int h0f8, .null, .ref h7, .int h0f11, .ref h8, .ref h9, .ref h10, .ref h11, .ref h12]), (h5, ob 3 [.ref h21, .ref h22, .ref h23, .ref h24, .ref h25, .ref h26, .ref h27, .ref h28, .int h5f8, .int h5f9, .int h5f10, .int h5f11]), (h8, ob 2 [.ref h1, .int h8f1]), (h11, aJ (k 1) 9 anJ), (h12, aJ (k 1) 9 anJ), (h13, aJ (k 1) 36 anJ), (h21, aJ (k 1) 900 anJ), (h22, aI (k 0) 100 anI), (h23, aI (k 0) 100 anI), (h24, aI (k 0) 100 anI), (h25, aI (k 0) 400 anI), (h26, aI (k 0) 256 (rgI (-1) 99)), (h27, aI (k 0) 100 (rgI (-1) 99)), (h28, aJ (k 1) 60 anJ), (h1, ob 4 [.int h1f0, .int h1f1, .int h1f2, .ref h13])] H := hT
    refine lv_if_ne (tgt := 17) hx hb dX10_form_9 (by decide) (fun cc => absurd (by decide +kernel) cc) (fun _ => ?_)
    refine lv_iconst (v := (-1)) hx hb dX10_form_12 (by decide) ?_
    have q_q7 := li_m1
    refine tcL (Tc := []) (Tr := [(h0, ob 7 [.ref h1, .ref h2, .int h0f2, .ref h3, .ref h4, .ref h5, .int h0f6, .ref h6, .int h0f8, .null, .ref h7, .int h0f11, .ref h8, .ref h9, .ref h10, .ref h11, .ref h12]), (h5, ob 3 [.ref h21, .ref h22, .ref h23, .ref h24, .ref h25, .ref h26, .ref h27, .ref h28, .int h5f8, .int h5f9, .int h5f10, .int h5f11]), (h8, ob 2 [.ref h1, .int h8f1]), (h11, aJ (k 1) 9 anJ), (h12, aJ (k 1) 9 anJ), (h13, aJ (k 1) 36 anJ), (h21, aJ (k 1) 900 anJ), (h22, aI (k 0) 100 anI), (h23, aI (k 0) 100 anI), (h24, aI (k 0) 100 anI), (h25, aI (k 0) 400 anI), (h26, aI (k 0) 256 (rgI (-1) 99)), (h27, aI (k 0) 100 (rgI (-1) 99)), (h28, aJ (k 1) 60 anJ), (h1, ob 4 [.int h1f0, .int h1f1, .int h1f2, .ref h13])]) (as := []) (zcS (As := [.int (-1)]) (rest := []) (Tc := []) hx hb hml hown hU hK hT [] rfl (by decide) (cX10_asLong_5cc16 l D k _ ((-1)) (by have := li_m1; omega)) w572 w570 w571 w63 hdX10_asLong ⟨rfl, rfl⟩ ⟨Nat.le_of_ble_eq_true rfl, Nat.le_of_ble_eq_true rfl⟩ rfl hl.1 (Nat.le_of_ble_eq_true rfl) dX10_form_13 ⟨Nat.le_of_ble_eq_true rfl, Nat.le_of_ble_eq_true rfl⟩) hT hS hA [] [0, 1, 2, 3, 4, 5, 6, 7, 8, 9, 10, 11, 12, 13, 14] rfl rfl rfl (by decide) (by decide) (fun r6 H locs hB J hS => ?_)
    obtain ⟨b_r6, hT1⟩ := hB
    have hT := J _ hT1
    have hT : TP D A [(h0, ob 7 [.ref h1, .ref h2, .int h0f2, .ref h3, .ref h4, .ref h5, .int h0f6, .ref h6, .int h0f8, .null, .ref h7, .int h0f11, .ref h8, .ref h9, .ref h10, .ref h11, .ref h12]), (h5, ob 3 [.ref h21, .ref h22, .ref h23, .ref h24, .ref h25, .ref h26, .ref h27, .ref h28, .int h5f8, .int h5f9, .int h5f10, .int h5f11]), (h8, ob 2 [.ref h1, .int h8f1]), (h11, aJ (k 1) 9 anJ), (h12, aJ (k 1) 9 anJ), (h13, aJ (k 1) 36 anJ), (h21, aJ (k 1) 900 anJ), (h22, aI (k 0) 100 anI), (h23, aI (k 0) 100 anI), (h24, aI (k 0) 100 anI), (h25, aI (k 0) 400 anI), (h26, aI (k 0) 256 (rgI (-1) 99)), (h27, aI (k 0) 100 (rgI (-1) 99)), (h28, aJ (k 1) 60 anJ), (h1, ob 4 [.int h1f0, .int h1f1, .int h1f2, .ref h13])] H := hT
    exact tz_retL (B := B_cX10_form_d1db2 D k h0 h1 h5 h8 h11 h12 h13 h21 h22 h23 h24 h25 h26 h27 h28 h2 h3 h4 h6 h7 h9 h10 x1 x2 h0f2 h0f6 h0f8 h0f11 h1f0 h1f1 h1f2 h5f8 h5f9 h5f10 h5f11 h8f1) (v := r6) hQ hx hb hr hlocks hS (Nat.le_of_ble_eq_true rfl) (Nat.le_of_ble_eq_true rfl) dX10_form_16 (⟨h0f6, h5f8, h5f9, h5f10, h5f11, h8f1, (by omega), (by omega), (by omega), (by omega), (by omega), (by omega), (hT.sub [0, 14, 1, 2, 3, 4, 5, 6, 7, 8, 9, 10, 11, 12, 13] (by decide) rfl)⟩)
  · skip
    have hT := J _ hT1
    have hT : TP D A [(h0, ob 7 [.ref h1, .ref h2, .int h0f2, .ref h3, .ref h4, .ref h5, .int h0f6, .ref h6, .int h0f8, .null, .ref h7, .int h0f11, .ref h8, .ref h9, .ref h10, .ref h11, .ref h12]), (h5, ob 3 [.ref h21, .ref h22, .ref h23, .ref h24, .ref h25, .ref h26, .ref h27, .ref h28, .int h5f8, .int h5f9, .int h5f10, .int h5f11]), (h8, ob 2 [.ref h1, .int h8f1]), (h11, aJ (k 1) 9 anJ), (h12, aJ (k 1) 9 anJ), (h13, aJ (k 1) 36 anJ), (h21, aJ (k 1) 900 anJ), (h22, aI (k 0) 100 anI), (h23, aI (k 0) 100 anI), (h24, aI (k 0) 100 anI), (h25, aI (k 0) 400 anI), (h26, aI (k 0) 256 (rgI (-1) 99)), (h27, aI (k 0) 100 (rgI (-1) 99)), (h28, aJ (k 1) 60 anJ), (h1, ob 4 [.int h1f0, .int h1f1, .int h1f2, .ref h13])] H := hT
    refine lv_if_ne (tgt := 17) hx hb dX10_form_9 (by decide) (fun _ => ?_) (fun cc => absurd cc (by decide +kernel))
    refine lv_aload_n hx hb dX10_form_17 rfl (lv_at hl 0 rfl) ?_
    refine tcV (Tc := [(h0, ob 7 [.ref h1, .ref h2, .int h0f2, .ref h3, .ref h4, .ref h5, .int h0f6, .ref h6, .int h0f8, .null, .ref h7, .int h0f11, .ref h8, .ref h9, .ref h10, .ref h11, .ref h12]), (h1, ob 4 [.int h1f0, .int h1f1, .int h1f2, .ref h13]), (h5, ob 3 [.ref h21, .ref h22, .ref h23, .ref h24, .ref h25, .ref h26, .ref h27, .ref h28, .int h5f8, .int h5f9, .int h5f10, .int h5f11]), (h8, ob 2 [.ref h1, .int h8f1]), (h11, aJ (k 1) 9 anJ), (h13, aJ (k 1) 36 anJ), (h21, aJ (k 1) 900 anJ), (h22, aI (k 0) 100 anI), (h23, aI (k 0) 100 anI), (h24, aI (k 0) 100 anI), (h25, aI (k 0) 400 anI), (h26, aI (k 0) 256 (rgI (-1) 99)), (h27, aI (k 0) 100 (rgI (-1) 99)), (h28, aJ (k 1) 60 anJ)]) (Tr := [(h12, aJ (k 1) 9 anJ)]) (as := [h0, h1, h5, h8, h11, h13, h21, h22, h23, h24, h25, h26, h27, h28]) (zcV (q0 := 0) (ci := 7) (As := []) (rest := []) (Tc := [(h0, ob 7 [.ref h1, .ref h2, .int h0f2, .ref h3, .ref h4, .ref h5, .int h0f6, .ref h6, .int h0f8, .null, .ref h7, .int h0f11, .ref h8, .ref h9, .ref h10, .ref h11, .ref h12]), (h1, ob 4 [.int h1f0, .int h1f1, .int h1f2, .ref h13]), (h5, ob 3 [.ref h21, .ref h22, .ref h23, .ref h24, .ref h25, .ref h26, .ref h27, .ref h28, .int h5f8, .int h5f9, .int h5f10, .int h5f11]), (h8, ob 2 [.ref h1, .int h8f1]), (h11, aJ (k 1) 9 anJ), (h13, aJ (k 1) 36 anJ), (h21, aJ (k 1) 900 anJ), (h22, aI (k 0) 100 anI), (h23, aI (k 0) 100 anI), (h24, aI (k 0) 100 anI), (h25, aI (k 0) 400 anI), (h26, aI (k 0) 256 (rgI (-1) 99)), (h27, aI (k 0) 100 (rgI (-1) 99)), (h28, aJ (k 1) 60 anJ)]) hx hb hml hown hU hK hT rfl rfl [0, 14, 1, 2, 3, 5, 6, 7, 8, 9, 10, 11, 12, 13] rfl (by decide) (cX10_listAll_fe300 l D k _ h0 h1 h5 h8 h11 h13 h21 h22 h23 h24 h25 h26 h27 h28 h2 h3 h4 h6 h7 h9 h10 h12 h0f2 h0f6 h0f8 h0f11 h1f0 h1f1 h1f2 h5f8 h5f9 h5f10 h5f11 h8f1 (by omega) (by omega) (by omega) (by omega) (by omega) (by omega) (by omega) (by omega) (by omega) (by omega) (by omega)) w492 w489 w491 w10 w63 hdX10_listAll ⟨rfl, rfl⟩ ⟨Nat.le_of_ble_eq_true rfl, Nat.le_of_ble_eq_true rfl⟩ rfl hl.1 (Nat.le_of_ble_eq_true rfl) dX10_form_18 ⟨Nat.le_of_ble_eq_true rfl, Nat.le_of_ble_eq_true rfl⟩) hT hS hA [0, 14, 1, 2, 3, 5, 6, 7, 8, 9, 10, 11, 12, 13] [4] rfl rfl rfl (by decide) (by decide) (fun H locs hB J hS => ?_)
    obtain ⟨v9, v10, v11, v12, v13, v14, b_v9, b_v10, b_v11, b_v12, b_v13, b_v14, hT1⟩ := hB
    have hT := J _ hT1
    have hT : TP D A [(h12, aJ (k 1) 9 anJ), (h0, ob 7 [.ref h1, .ref h2, .int h0f2, .ref h3, .ref h4, .ref h5, .int v9, .ref h6, .int h0f8, .null, .ref h7, .int h0f11, .ref h8, .ref h9, .ref h10, .ref h11, .ref h12]), (h1, ob 4 [.int h1f0, .int h1f1, .int h1f2, .ref h13]), (h5, ob 3 [.ref h21, .ref h22, .ref h23, .ref h24, .ref h25, .ref h26, .ref h27, .ref h28, .int v10, .int v11, .int v12, .int v13]), (h8, ob 2 [.ref h1, .int v14]), (h11, aJ (k 1) 9 anJ), (h13, aJ (k 1) 36 anJ), (h21, aJ (k 1) 900 anJ), (h22, aI (k 0) 100 anI), (h23, aI (k 0) 100 anI), (h24, aI (k 0) 100 anI), (h25, aI (k 0) 400 anI), (h26, aI (k 0) 256 (rgI (-1) 99)), (h27, aI (k 0) 100 (rgI (-1) 99)), (h28, aJ (k 1) 60 anJ)] H := hT
    refine lv_aload_n hx hb dX10_form_21 rfl (lv_at hl 0 rfl) ?_
    refine tz_get (ci := 7) (v := .ref h5) (C := RX10) (F := TX10) (N := 17) hx hb hU iX10 hown hK hT 1 rfl rfl 5 (by decide) w254 (fun _ h9 => h9) rfl dX10_form_22 ?_
    refine tz_get (ci := 3) (v := .int v13) (C := RX4) (F := TX4) (N := 12) hx hb hU iX4 hown hK hT 3 rfl rfl 11 (by decide) w168 (fun _ h9 => h9) rfl dX10_form_25 ?_
    refine lv_if_ne (tgt := 37) hx hb dX10_form_28 (by decide) (fun c_15 => ?_) (fun c_15 => ?_)
    · skip
      have c_15 := ni_ne c_15 rfl li_0
      refine lv_aload_n hx hb dX10_form_37 rfl (lv_at hl 0 rfl) ?_
      refine tcI (Tc := [(h0, ob 7 [.ref h1, .ref h2, .int h0f2, .ref h3, .ref h4, .ref h5, .int v9, .ref h6, .int h0f8, .null, .ref h7, .int h0f11, .ref h8, .ref h9, .ref h10, .ref h11, .ref h12]), (h1, ob 4 [.int h1f0, .int h1f1, .int h1f2, .ref h13]), (h5, ob 3 [.ref h21, .ref h22, .ref h23, .ref h24, .ref h25, .ref h26, .ref h27, .ref h28, .int v10, .int v11, .int v12, .int v13]), (h11, aJ (k 1) 9 anJ), (h12, aJ (k 1) 9 anJ), (h21, aJ (k 1) 900 anJ)]) (Tr := [(h8, ob 2 [.ref h1, .int v14]), (h13, aJ (k 1) 36 anJ), (h22, aI (k 0) 100 anI), (h23, aI (k 0) 100 anI), (h24, aI (k 0) 100 anI), (h25, aI (k 0) 400 anI), (h26, aI (k 0) 256 (rgI (-1) 99)), (h27, aI (k 0) 100 (rgI (-1) 99)), (h28, aJ (k 1) 60 anJ)]) (as := [h0, h1, h5, h11, h12, h21]) (zcV (q0 := 1) (ci := 7) (As := []) (rest := []) (Tc := [(h0, ob 7 [.ref h1, .ref h2, .int h0f2, .ref h3, .ref h4, .ref h5, .int v9, .ref h6, .int h0f8, .null, .ref h7, .int h0f11, .ref h8, .ref h9, .ref h10, .ref h11, .ref h12]), (h1, ob 4 [.int h1f0, .int h1f1, .int h1f2, .ref h13]), (h5, ob 3 [.ref h21, .ref h22, .ref h23, .ref h24, .ref h25, .ref h26, .ref h27, .ref h28, .int v10, .int v11, .int v12, .int v13]), (h11, aJ (k 1) 9 anJ), (h12, aJ (k 1) 9 anJ), (h21, aJ (k 1) 900 anJ)]) hx hb hml hown hU hK hT rfl rfl [1, 2, 3, 5, 0, 7] rfl (by decide) (cX10_addUpForm_d1202 l D k _ h0 h1 h5 h11 h12 h21 h2 h3 h4 h6 h7 h8 h9 h10 h13 h22 h23 h24 h25 h26 h27 h28 h0f2 v9 h0f8 h0f11 h1f0 h1f1 h1f2 v10 v11 v12 v13 (by omega) (by omega) (by omega) (by omega) (by omega) (by omega) (by omega) (by omega) (by omega) (by omega)) w616 w613 w615 w17 w63 hdX10_addUpForm ⟨rfl, rfl⟩ ⟨Nat.le_of_ble_eq_true rfl, Nat.le_of_ble_eq_true rfl⟩ rfl hl.1 (Nat.le_of_ble_eq_true rfl) dX10_form_38 ⟨Nat.le_of_ble_eq_true rfl, Nat.le_of_ble_eq_true rfl⟩) hT hS hA [1, 2, 3, 5, 0, 7] [4, 6, 8, 9, 10, 11, 12, 13, 14] rfl rfl rfl (by decide) (by decide) (fun r16 H locs hB J hS => ?_)
      obtain ⟨b_r16, hT1⟩ := hB
      have hT := J _ hT1
      have hT : TP D A [(h8, ob 2 [.ref h1, .int v14]), (h13, aJ (k 1) 36 anJ), (h22, aI (k 0) 100 anI), (h23, aI (k 0) 100 anI), (h24, aI (k 0) 100 anI), (h25, aI (k 0) 400 anI), (h26, aI (k 0) 256 (rgI (-1) 99)), (h27, aI (k 0) 100 (rgI (-1) 99)), (h28, aJ (k 1) 60 anJ), (h0, ob 7 [.ref h1, .ref h2, .int h0f2, .ref h3, .ref h4, .ref h5, .int v9, .ref h6, .int h0f8, .null, .ref h7, .int h0f11, .ref h8, .ref h9, .ref h10, .ref h11, .ref h12]), (h1, ob 4 [.int h1f0, .int h1f1, .int h1f2, .ref h13]), (h5, ob 3 [.ref h21, .ref h22, .ref h23, .ref h24, .ref h25, .ref h26, .ref h27, .ref h28, .int v10, .int v11, .int v12, .int v13]), (h11, aJ (k 1) 9 anJ), (h12, aJ (k 1) 9 anJ), (h21, aJ (k 1) 900 anJ)] H := hT
      refine lv_if_ne (tgt := 50) hx hb dX10_form_41 (by decide) (fun c_17 => ?_) (fun c_17 => ?_)
      · skip
        have c_17 := ni_ne c_17 rfl li_0
        refine lv_aload_n hx hb dX10_form_50 rfl (lv_at hl 0 rfl) ?_
        refine tz_get (ci := 7) (v := .ref h11) (C := RX10) (F := TX10) (N := 17) hx hb hU iX10 hown hK hT 9 rfl rfl 15 (by decide) w264 (fun _ h9 => h9) rfl dX10_form_51 ?_
        refine lv_aload_n hx hb dX10_form_54 rfl (lv_at hl 0 rfl) ?_
        refine tz_get (ci := 7) (v := .ref h1) (C := RX10) (F := TX10) (N := 17) hx hb hU iX10 hown hK hT 9 rfl rfl 0 (by decide) w249 (fun _ h9 => h9) rfl dX10_form_55 ?_
        refine tcI (Tc := [(h1, ob 4 [.int h1f0, .int h1f1, .int h1f2, .ref h13])]) (Tr := [(h8, ob 2 [.ref h1, .int v14]), (h13, aJ (k 1) 36 anJ), (h22, aI (k 0) 100 anI), (h23, aI (k 0) 100 anI), (h24, aI (k 0) 100 anI), (h25, aI (k 0) 400 anI), (h26, aI (k 0) 256 (rgI (-1) 99)), (h27, aI (k 0) 100 (rgI (-1) 99)), (h28, aJ (k 1) 60 anJ), (h0, ob 7 [.ref h1, .ref h2, .int h0f2, .ref h3, .ref h4, .ref h5, .int v9, .ref h6, .int h0f8, .null, .ref h7, .int h0f11, .ref h8, .ref h9, .ref h10, .ref h11, .ref h12]), (h5, ob 3 [.ref h21, .ref h22, .ref h23, .ref h24, .ref h25, .ref h26, .ref h27, .ref h28, .int v10, .int v11, .int v12, .int v13]), (h11, aJ (k 1) 9 anJ), (h12, aJ (k 1) 9 anJ), (h21, aJ (k 1) 900 anJ)]) (as := [h1]) (zcV (q0 := 10) (ci := 4) (As := []) (rest := [.ref h11]) (Tc := [(h1, ob 4 [.int h1f0, .int h1f1, .int h1f2, .ref h13])]) hx hb hml hown hU hK hT rfl rfl [10] rfl (by decide) (cX5_cellCount_642c9 l D k _ h1 h13 h1f0 h1f1 h1f2 (by omega) (by omega)) w385 w382 w383 w384 w64 hdX5_cellCount ⟨rfl, rfl⟩ ⟨Nat.le_of_ble_eq_true rfl, Nat.le_of_ble_eq_true rfl⟩ rfl hl.1 (Nat.le_of_ble_eq_true rfl) dX10_form_58 ⟨Nat.le_of_ble_eq_true rfl, Nat.le_of_ble_eq_true rfl⟩) hT hS hA [10] [0, 1, 2, 3, 4, 5, 6, 7, 8, 9, 11, 12, 13, 14] rfl rfl rfl (by decide) (by decide) (fun r18 H locs hB J hS => ?_)
        obtain ⟨b_r18, hT1⟩ := hB
        have hT := J _ hT1
        have hT : TP D A [(h8, ob 2 [.ref h1, .int v14]), (h13, aJ (k 1) 36 anJ), (h22, aI (k 0) 100 anI), (h23, aI (k 0) 100 anI), (h24, aI (k 0) 100 anI), (h25, aI (k 0) 400 anI), (h26, aI (k 0) 256 (rgI (-1) 99)), (h27, aI (k 0) 100 (rgI (-1) 99)), (h28, aJ (k 1) 60 anJ), (h0, ob 7 [.ref h1, .ref h2, .int h0f2, .ref h3, .ref h4, .ref h5, .int v9, .ref h6, .int h0f8, .null, .ref h7, .int h0f11, .ref h8, .ref h9, .ref h10, .ref h11, .ref h12]), (h5, ob 3 [.ref h21, .ref h22, .ref h23, .ref h24, .ref h25, .ref h26, .ref h27, .ref h28, .int v10, .int v11, .int v12, .int v13]), (h11, aJ (k 1) 9 anJ), (h12, aJ (k 1) 9 anJ), (h21, aJ (k 1) 900 anJ), (h1, ob 4 [.int h1f0, .int h1f1, .int h1f2, .ref h13])] H := hT
        refine tcL (Tc := [(h11, aJ (k 1) 9 anJ)]) (Tr := [(h8, ob 2 [.ref h1, .int v14]), (h13, aJ (k 1) 36 anJ), (h22, aI (k 0) 100 anI), (h23, aI (k 0) 100 anI), (h24, aI (k 0) 100 anI), (h25, aI (k 0) 400 anI), (h26, aI (k 0) 256 (rgI (-1) 99)), (h27, aI (k 0) 100 (rgI (-1) 99)), (h28, aJ (k 1) 60 anJ), (h0, ob 7 [.ref h1, .ref h2, .int h0f2, .ref h3, .ref h4, .ref h5, .int v9, .ref h6, .int h0f8, .null, .ref h7, .int h0f11, .ref h8, .ref h9, .ref h10, .ref h11, .ref h12]), (h5, ob 3 [.ref h21, .ref h22, .ref h23, .ref h24, .ref h25, .ref h26, .ref h27, .ref h28, .int v10, .int v11, .int v12, .int v13]), (h12, aJ (k 1) 9 anJ), (h21, aJ (k 1) 900 anJ), (h1, ob 4 [.int h1f0, .int h1f1, .int h1f2, .ref h13])]) (as := [h11]) (zcS (As := [.ref h11, .int r18]) (rest := []) (Tc := [(h11, aJ (k 1) 9 anJ)]) hx hb hml hown hU hK hT [11] rfl (by decide) (cX7_commonDivisor_2e0d5 l D k _ h11 r18 (by omega)) w623 w621 w622 w74 hdX7_commonDivisor ⟨rfl, rfl⟩ ⟨Nat.le_of_ble_eq_true rfl, Nat.le_of_ble_eq_true rfl⟩ rfl hl.1 (Nat.le_of_ble_eq_true rfl) dX10_form_61 ⟨Nat.le_of_ble_eq_true rfl, Nat.le_of_ble_eq_true rfl⟩) hT hS hA [11] [0, 1, 2, 3, 4, 5, 6, 7, 8, 9, 10, 12, 13, 14] rfl rfl rfl (by decide) (by decide) (fun r19 H locs hB J hS => ?_)
        have hT1 := hB
        have hT := J _ hT1
        have hT : TP D A [(h8, ob 2 [.ref h1, .int v14]), (h13, aJ (k 1) 36 anJ), (h22, aI (k 0) 100 anI), (h23, aI (k 0) 100 anI), (h24, aI (k 0) 100 anI), (h25, aI (k 0) 400 anI), (h26, aI (k 0) 256 (rgI (-1) 99)), (h27, aI (k 0) 100 (rgI (-1) 99)), (h28, aJ (k 1) 60 anJ), (h0, ob 7 [.ref h1, .ref h2, .int h0f2, .ref h3, .ref h4, .ref h5, .int v9, .ref h6, .int h0f8, .null, .ref h7, .int h0f11, .ref h8, .ref h9, .ref h10, .ref h11, .ref h12]), (h5, ob 3 [.ref h21, .ref h22, .ref h23, .ref h24, .ref h25, .ref h26, .ref h27, .ref h28, .int v10, .int v11, .int v12, .int v13]), (h12, aJ (k 1) 9 anJ), (h21, aJ (k 1) 900 anJ), (h1, ob 4 [.int h1f0, .int h1f1, .int h1f2, .ref h13]), (h11, aJ (k 1) 9 anJ)] H := hT
        refine lv_lstore_n (lv' := [(3, .long r19), (0, .ref h0), (1, .int x1), (2, .int x2)]) hx hb dX10_form_64 rfl hl (by decide) rfl (fun ls hl => ?_)
        refine lv_aload_n hx hb dX10_form_65 rfl (lv_at hl 1 rfl) ?_
        refine tz_get (ci := 7) (v := .ref h11) (C := RX10) (F := TX10) (N := 17) hx hb hU iX10 hown hK hT 9 rfl rfl 15 (by decide) w264 (fun _ h9 => h9) rfl dX10_form_66 ?_
        refine lv_iload_n hx hb dX10_form_69 rfl (lv_at hl 2 rfl) ?_
        refine lv_aload_n hx hb dX10_form_70 rfl (lv_at hl 1 rfl) ?_
        refine tz_get (ci := 7) (v := .ref h1) (C := RX10) (F := TX10) (N := 17) hx hb hU iX10 hown hK hT 9 rfl rfl 0 (by decide) w249 (fun _ h9 => h9) rfl dX10_form_71 ?_
        refine tz_get (ci := 4) (v := .int h1f0) (C := RX5) (F := TX5) (N := 4) hx hb hU iX5 hown hK hT 13 rfl rfl 0 (by decide) w93 (fun _ h9 => h9) rfl dX10_form_74 ?_
        refine lv_imul hx hb dX10_form_77 (lv_topi (fun v20 e_v20 => ?_))
        have e_v20 := ai_mm (la := 0) (ua := 2) (lb := 1) (ub := 3) e_v20 rfl rfl (by omega) (by decide)
        refine lv_iload_n hx hb dX10_form_78 rfl (lv_at hl 3 rfl) ?_
        refine lv_iadd hx hb dX10_form_79 (lv_topi (fun v21 e_v21 => ?_))
        have e_v21 := ai_add e_v21 rfl rfl (by omega)
        refine tz_lald hx hb hK hT 14 rfl (by omega) dX10_form_80 (fun v22 e_v22 => ?_)
        clear e_v22
        refine lv_lconst (v := 1) hx hb dX10_form_81 (by decide) ?_
        refine lv_lload_n hx hb dX10_form_82 rfl (lv_at hl 0 rfl) ?_
        have q_q24 := ll_1
        refine tcL (Tc := []) (Tr := [(h8, ob 2 [.ref h1, .int v14]), (h13, aJ (k 1) 36 anJ), (h22, aI (k 0) 100 anI), (h23, aI (k 0) 100 anI), (h24, aI (k 0) 100 anI), (h25, aI (k 0) 400 anI), (h26, aI (k 0) 256 (rgI (-1) 99)), (h27, aI (k 0) 100 (rgI (-1) 99)), (h28, aJ (k 1) 60 anJ), (h0, ob 7 [.ref h1, .ref h2, .int h0f2, .ref h3, .ref h4, .ref h5, .int v9, .ref h6, .int h0f8, .null, .ref h7, .int h0f11, .ref h8, .ref h9, .ref h10, .ref h11, .ref h12]), (h5, ob 3 [.ref h21, .ref h22, .ref h23, .ref h24, .ref h25, .ref h26, .ref h27, .ref h28, .int v10, .int v11, .int v12, .int v13]), (h12, aJ (k 1) 9 anJ), (h21, aJ (k 1) 900 anJ), (h1, ob 4 [.int h1f0, .int h1f1, .int h1f2, .ref h13]), (h11, aJ (k 1) 9 anJ)]) (as := []) (zcS (As := [.long 1, .long r19]) (rest := [.long v22]) (Tc := []) hx hb hml hown hU hK hT [] rfl (by decide) (cJ9_max_f86c9_eaa09 l D k _ (1) r19 (by have := ll_1; omega)) w629 w627 w628 w77 hdJ9_max_f86c9 ⟨rfl, rfl⟩ ⟨Nat.le_of_ble_eq_true rfl, Nat.le_of_ble_eq_true rfl⟩ rfl hl.1 (Nat.le_of_ble_eq_true rfl) dX10_form_83 ⟨Nat.le_of_ble_eq_true rfl, Nat.le_of_ble_eq_true rfl⟩) hT hS hA [] [0, 1, 2, 3, 4, 5, 6, 7, 8, 9, 10, 11, 12, 13, 14] rfl rfl rfl (by decide) (by decide) (fun r23 H locs hB J hS => ?_)
        rcases hB with ⟨c_25, rfl, hT1⟩ | ⟨c_26, rfl, hT1⟩
        · skip
          have hT := J _ hT1
          have hT : TP D A [(h8, ob 2 [.ref h1, .int v14]), (h13, aJ (k 1) 36 anJ), (h22, aI (k 0) 100 anI), (h23, aI (k 0) 100 anI), (h24, aI (k 0) 100 anI), (h25, aI (k 0) 400 anI), (h26, aI (k 0) 256 (rgI (-1) 99)), (h27, aI (k 0) 100 (rgI (-1) 99)), (h28, aJ (k 1) 60 anJ), (h0, ob 7 [.ref h1, .ref h2, .int h0f2, .ref h3, .ref h4, .ref h5, .int v9, .ref h6, .int h0f8, .null, .ref h7, .int h0f11, .ref h8, .ref h9, .ref h10, .ref h11, .ref h12]), (h5, ob 3 [.ref h21, .ref h22, .ref h23, .ref h24, .ref h25, .ref h26, .ref h27, .ref h28, .int v10, .int v11, .int v12, .int v13]), (h12, aJ (k 1) 9 anJ), (h21, aJ (k 1) 900 anJ), (h1, ob 4 [.int h1f0, .int h1f1, .int h1f2, .ref h13]), (h11, aJ (k 1) 9 anJ)] H := hT
          refine lv_ldiv hx hb dX10_form_86 (nz64 (y := r19.toInt) rfl (by omega)) (lv_topl (fun v27 e_v27 => ?_))
          exact tz_retL (B := B_cX10_form_d1db2 D k h0 h1 h5 h8 h11 h12 h13 h21 h22 h23 h24 h25 h26 h27 h28 h2 h3 h4 h6 h7 h9 h10 x1 x2 h0f2 h0f6 h0f8 h0f11 h1f0 h1f1 h1f2 h5f8 h5f9 h5f10 h5f11 h8f1) (v := v27) hQ hx hb hr hlocks hS (Nat.le_of_ble_eq_true rfl) (Nat.le_of_ble_eq_true rfl) dX10_form_87 (⟨v9, v10, v11, v12, v13, v14, (by omega), (by omega), (by omega), (by omega), (by omega), (by omega), (hT.sub [9, 13, 10, 0, 14, 11, 1, 12, 2, 3, 4, 5, 6, 7, 8] (by decide) rfl)⟩)
        · skip
          have hT := J _ hT1
          have hT : TP D A [(h8, ob 2 [.ref h1, .int v14]), (h13, aJ (k 1) 36 anJ), (h22, aI (k 0) 100 anI), (h23, aI (k 0) 100 anI), (h24, aI (k 0) 100 anI), (h25, aI (k 0) 400 anI), (h26, aI (k 0) 256 (rgI (-1) 99)), (h27, aI (k 0) 100 (rgI (-1) 99)), (h28, aJ (k 1) 60 anJ), (h0, ob 7 [.ref h1, .ref h2, .int h0f2, .ref h3, .ref h4, .ref h5, .int v9, .ref h6, .int h0f8, .null, .ref h7, .int h0f11, .ref h8, .ref h9, .ref h10, .ref h11, .ref h12]), (h5, ob 3 [.ref h21, .ref h22, .ref h23, .ref h24, .ref h25, .ref h26, .ref h27, .ref h28, .int v10, .int v11, .int v12, .int v13]), (h12, aJ (k 1) 9 anJ), (h21, aJ (k 1) 900 anJ), (h1, ob 4 [.int h1f0, .int h1f1, .int h1f2, .ref h13]), (h11, aJ (k 1) 9 anJ)] H := hT
          refine lv_ldiv hx hb dX10_form_86 (by decide +kernel) (lv_topl (fun v28 e_v28 => ?_))
          exact tz_retL (B := B_cX10_form_d1db2 D k h0 h1 h5 h8 h11 h12 h13 h21 h22 h23 h24 h25 h26 h27 h28 h2 h3 h4 h6 h7 h9 h10 x1 x2 h0f2 h0f6 h0f8 h0f11 h1f0 h1f1 h1f2 h5f8 h5f9 h5f10 h5f11 h8f1) (v := v28) hQ hx hb hr hlocks hS (Nat.le_of_ble_eq_true rfl) (Nat.le_of_ble_eq_true rfl) dX10_form_87 (⟨v9, v10, v11, v12, v13, v14, (by omega), (by omega), (by omega), (by omega), (by omega), (by omega), (hT.sub [9, 13, 10, 0, 14, 11, 1, 12, 2, 3, 4, 5, 6, 7, 8] (by decide) rfl)⟩)
      · skip
        have c_17 := ni_eq c_17 rfl li_0
        refine lv_bipush (v := (-16)) hx hb dX10_form_44 (by decide) ?_
        have q_q30 := li_m16
        refine tcL (Tc := []) (Tr := [(h8, ob 2 [.ref h1, .int v14]), (h13, aJ (k 1) 36 anJ), (h22, aI (k 0) 100 anI), (h23, aI (k 0) 100 anI), (h24, aI (k 0) 100 anI), (h25, aI (k 0) 400 anI), (h26, aI (k 0) 256 (rgI (-1) 99)), (h27, aI (k 0) 100 (rgI (-1) 99)), (h28, aJ (k 1) 60 anJ), (h0, ob 7 [.ref h1, .ref h2, .int h0f2, .ref h3, .ref h4, .ref h5, .int v9, .ref h6, .int h0f8, .null, .ref h7, .int h0f11, .ref h8, .ref h9, .ref h10, .ref h11, .ref h12]), (h1, ob 4 [.int h1f0, .int h1f1, .int h1f2, .ref h13]), (h5, ob 3 [.ref h21, .ref h22, .ref h23, .ref h24, .ref h25, .ref h26, .ref h27, .ref h28, .int v10, .int v11, .int v12, .int v13]), (h11, aJ (k 1) 9 anJ), (h12, aJ (k 1) 9 anJ), (h21, aJ (k 1) 900 anJ)]) (as := []) (zcS (As := [.int (-16)]) (rest := []) (Tc := []) hx hb hml hown hU hK hT [] rfl (by decide) (cX10_asLong_5cc16 l D k _ ((-16)) (by have := li_m16; omega)) w572 w570 w571 w63 hdX10_asLong ⟨rfl, rfl⟩ ⟨Nat.le_of_ble_eq_true rfl, Nat.le_of_ble_eq_true rfl⟩ rfl hl.1 (Nat.le_of_ble_eq_true rfl) dX10_form_46 ⟨Nat.le_of_ble_eq_true rfl, Nat.le_of_ble_eq_true rfl⟩) hT hS hA [] [0, 1, 2, 3, 4, 5, 6, 7, 8, 9, 10, 11, 12, 13, 14] rfl rfl rfl (by decide) (by decide) (fun r29 H locs hB J hS => ?_)
        obtain ⟨b_r29, hT1⟩ := hB
        have hT := J _ hT1
        have hT : TP D A [(h8, ob 2 [.ref h1, .int v14]), (h13, aJ (k 1) 36 anJ), (h22, aI (k 0) 100 anI), (h23, aI (k 0) 100 anI), (h24, aI (k 0) 100 anI), (h25, aI (k 0) 400 anI), (h26, aI (k 0) 256 (rgI (-1) 99)), (h27, aI (k 0) 100 (rgI (-1) 99)), (h28, aJ (k 1) 60 anJ), (h0, ob 7 [.ref h1, .ref h2, .int h0f2, .ref h3, .ref h4, .ref h5, .int v9, .ref h6, .int h0f8, .null, .ref h7, .int h0f11, .ref h8, .ref h9, .ref h10, .ref h11, .ref h12]), (h1, ob 4 [.int h1f0, .int h1f1, .int h1f2, .ref h13]), (h5, ob 3 [.ref h21, .ref h22, .ref h23, .ref h24, .ref h25, .ref h26, .ref h27, .ref h28, .int v10, .int v11, .int v12, .int v13]), (h11, aJ (k 1) 9 anJ), (h12, aJ (k 1) 9 anJ), (h21, aJ (k 1) 900 anJ)] H := hT
        exact tz_retL (B := B_cX10_form_d1db2 D k h0 h1 h5 h8 h11 h12 h13 h21 h22 h23 h24 h25 h26 h27 h28 h2 h3 h4 h6 h7 h9 h10 x1 x2 h0f2 h0f6 h0f8 h0f11 h1f0 h1f1 h1f2 h5f8 h5f9 h5f10 h5f11 h8f1) (v := r29) hQ hx hb hr hlocks hS (Nat.le_of_ble_eq_true rfl) (Nat.le_of_ble_eq_true rfl) dX10_form_49 (⟨v9, v10, v11, v12, v13, v14, (by omega), (by omega), (by omega), (by omega), (by omega), (by omega), (hT.sub [9, 10, 11, 0, 12, 13, 1, 14, 2, 3, 4, 5, 6, 7, 8] (by decide) rfl)⟩)
    · skip
      have c_15 := ni_eq c_15 rfl li_0
      refine lv_bipush (v := (-3)) hx hb dX10_form_31 (by decide) ?_
      have q_q32 := li_m3
      refine tcL (Tc := []) (Tr := [(h12, aJ (k 1) 9 anJ), (h0, ob 7 [.ref h1, .ref h2, .int h0f2, .ref h3, .ref h4, .ref h5, .int v9, .ref h6, .int h0f8, .null, .ref h7, .int h0f11, .ref h8, .ref h9, .ref h10, .ref h11, .ref h12]), (h1, ob 4 [.int h1f0, .int h1f1, .int h1f2, .ref h13]), (h5, ob 3 [.ref h21, .ref h22, .ref h23, .ref h24, .ref h25, .ref h26, .ref h27, .ref h28, .int v10, .int v11, .int v12, .int v13]), (h8, ob 2 [.ref h1, .int v14]), (h11, aJ (k 1) 9 anJ), (h13, aJ (k 1) 36 anJ), (h21, aJ (k 1) 900 anJ), (h22, aI (k 0) 100 anI), (h23, aI (k 0) 100 anI), (h24, aI (k 0) 100 anI), (h25, aI (k 0) 400 anI), (h26, aI (k 0) 256 (rgI (-1) 99)), (h27, aI (k 0) 100 (rgI (-1) 99)), (h28, aJ (k 1) 60 anJ)]) (as := []) (zcS (As := [.int (-3)]) (rest := []) (Tc := []) hx hb hml hown hU hK hT [] rfl (by decide) (cX10_asLong_5cc16 l D k _ ((-3)) (by have := li_m3; omega)) w572 w570 w571 w63 hdX10_asLong ⟨rfl, rfl⟩ ⟨Nat.le_of_ble_eq_true rfl, Nat.le_of_ble_eq_true rfl⟩ rfl hl.1 (Nat.le_of_ble_eq_true rfl) dX10_form_33 ⟨Nat.le_of_ble_eq_true rfl, Nat.le_of_ble_eq_true rfl⟩) hT hS hA [] [0, 1, 2, 3, 4, 5, 6, 7, 8, 9, 10, 11, 12, 13, 14] rfl rfl rfl (by decide) (by decide) (fun r31 H locs hB J hS => ?_)
      obtain ⟨b_r31, hT1⟩ := hB
      have hT := J _ hT1
      have hT : TP D A [(h12, aJ (k 1) 9 anJ), (h0, ob 7 [.ref h1, .ref h2, .int h0f2, .ref h3, .ref h4, .ref h5, .int v9, .ref h6, .int h0f8, .null, .ref h7, .int h0f11, .ref h8, .ref h9, .ref h10, .ref h11, .ref h12]), (h1, ob 4 [.int h1f0, .int h1f1, .int h1f2, .ref h13]), (h5, ob 3 [.ref h21, .ref h22, .ref h23, .ref h24, .ref h25, .ref h26, .ref h27, .ref h28, .int v10, .int v11, .int v12, .int v13]), (h8, ob 2 [.ref h1, .int v14]), (h11, aJ (k 1) 9 anJ), (h13, aJ (k 1) 36 anJ), (h21, aJ (k 1) 900 anJ), (h22, aI (k 0) 100 anI), (h23, aI (k 0) 100 anI), (h24, aI (k 0) 100 anI), (h25, aI (k 0) 400 anI), (h26, aI (k 0) 256 (rgI (-1) 99)), (h27, aI (k 0) 100 (rgI (-1) 99)), (h28, aJ (k 1) 60 anJ)] H := hT
      exact tz_retL (B := B_cX10_form_d1db2 D k h0 h1 h5 h8 h11 h12 h13 h21 h22 h23 h24 h25 h26 h27 h28 h2 h3 h4 h6 h7 h9 h10 x1 x2 h0f2 h0f6 h0f8 h0f11 h1f0 h1f1 h1f2 h5f8 h5f9 h5f10 h5f11 h8f1) (v := r31) hQ hx hb hr hlocks hS (Nat.le_of_ble_eq_true rfl) (Nat.le_of_ble_eq_true rfl) dX10_form_36 (⟨v9, v10, v11, v12, v13, v14, (by omega), (by omega), (by omega), (by omega), (by omega), (by omega), (hT.sub [1, 2, 3, 4, 5, 0, 6, 7, 8, 9, 10, 11, 12, 13, 14] (by decide) rfl)⟩)
abbrev Rm_cX10_addUpForm_bdb42 : Room := { frames := 2, cells := 0, slots := 0, locals := 56 }
abbrev B_cX10_addUpForm_bdb42 (D : va_G) (k : Nat → ClassId) (h0 h1 h5 h12 h13 h22 h2 h3 h4 h6 h7 h8 h9 h10 h11 h14 h23 h24 h25 h26 h27 h28 h29 : Nat) (h0f2 : Int32) (h0f6 : Int32) (h0f8 : Int32) (h0f11 : Int32) (h1f0 : Int32) (h1f1 : Int32) (h1f2 : Int32) (h5f8 : Int32) (h5f9 : Int32) (h5f10 : Int32) (h5f11 : Int32) (A : Nat → Prop) (r : Int32) (H : Heap) : Prop := (0 ≤ r.toInt ∧ r.toInt ≤ 1) ∧ TP D A [(h0, ob 7 [.ref h1, .ref h2, .int h0f2, .ref h3, .ref h4, .ref h5, .int h0f6, .ref h6, .int h0f8, .ref h7, .ref h8, .int h0f11, .ref h9, .ref h10, .ref h11, .ref h12, .ref h13]), (h1, ob 4 [.int h1f0, .int h1f1, .int h1f2, .ref h14]), (h5, ob 3 [.ref h22, .ref h23, .ref h24, .ref h25, .ref h26, .ref h27, .ref h28, .ref h29, .int h5f8, .int h5f9, .int h5f10, .int h5f11]), (h12, aJ (k 1) 9 anJ), (h13, aJ (k 1) 9 anJ), (h22, aJ (k 1) 900 anJ)] H
set_option maxHeartbeats 4000000 in
set_option maxRecDepth 100000 in
theorem cX10_addUpForm_bdb42 (l : Launch) (D : va_G) (k : Nat → ClassId) (sz : Nat) (h0 h1 h5 h12 h13 h22 h2 h3 h4 h6 h7 h8 h9 h10 h11 h14 h23 h24 h25 h26 h27 h28 h29 : Nat) (h0f2 : Int32) (h0f6 : Int32) (h0f8 : Int32) (h0f11 : Int32) (h1f0 : Int32) (h1f1 : Int32) (h1f2 : Int32) (h5f8 : Int32) (h5f9 : Int32) (h5f10 : Int32) (h5f11 : Int32) (b_h0f2 : 0 ≤ h0f2.toInt ∧ h0f2.toInt ≤ 1) (b_h0f6 : 1 ≤ h0f6.toInt ∧ h0f6.toInt ≤ 1) (b_h0f8 : 0 ≤ h0f8.toInt ∧ h0f8.toInt ≤ 1) (b_h0f11 : 0 ≤ h0f11.toInt ∧ h0f11.toInt ≤ 200) (b_h1f0 : 1 ≤ h1f0.toInt ∧ h1f0.toInt ≤ 3) (b_h1f1 : 0 ≤ h1f1.toInt ∧ h1f1.toInt ≤ 4) (b_h5f8 : 0 ≤ h5f8.toInt ∧ h5f8.toInt ≤ 9) (b_h5f9 : 0 ≤ h5f9.toInt ∧ h5f9.toInt ≤ 100) (b_h5f10 : 0 ≤ h5f10.toInt ∧ h5f10.toInt ≤ 100) (b_h5f11 : 1 ≤ h5f11.toInt ∧ h5f11.toInt ≤ 1) : Met l yX10_addUpForm (Cond.code yX10_addUpForm cX10_addUpForm 6 (some .boolean) :: uw) Rm_cX10_addUpForm_bdb42 (pT D k sz [.ref h0] [(h0, ob 7 [.ref h1, .ref h2, .int h0f2, .ref h3, .ref h4, .ref h5, .int h0f6, .ref h6, .int h0f8, .ref h7, .ref h8, .int h0f11, .ref h9, .ref h10, .ref h11, .ref h12, .ref h13]), (h1, ob 4 [.int h1f0, .int h1f1, .int h1f2, .ref h14]), (h5, ob 3 [.ref h22, .ref h23, .ref h24, .ref h25, .ref h26, .ref h27, .ref h28, .ref h29, .int h5f8, .int h5f9, .int h5f10, .int h5f11]), (h12, aJ (k 1) 9 anJ), (h13, aJ (k 1) 9 anJ), (h22, aJ (k 1) 900 anJ)]) (qI (B_cX10_addUpForm_bdb42 D k h0 h1 h5 h12 h13 h22 h2 h3 h4 h6 h7 h8 h9 h10 h11 h14 h23 h24 h25 h26 h27 h28 h29 h0f2 h0f6 h0f8 h0f11 h1f0 h1f1 h1f2 h5f8 h5f9 h5f10 h5f11 (zA [h0, h1, h5, h12, h13, h22] sz)) (zA [h0, h1, h5, h12, h13, h22] sz)) 0 0 (zA [h0, h1, h5, h12, h13, h22] sz) := by
  refine tz_begin (as := [h0, h1, h5, h12, h13, h22]) (Qc := fun A => qI (B_cX10_addUpForm_bdb42 D k h0 h1 h5 h12 h13 h22 h2 h3 h4 h6 h7 h8 h9 h10 h11 h14 h23 h24 h25 h26 h27 h28 h29 h0f2 h0f6 h0f8 h0f11 h1f0 h1f1 h1f2 h5f8 h5f9 h5f10 h5f11 A) A) (by decide +kernel) rfl (Nat.le_of_ble_eq_true rfl) ?_
  intro p e s m args below meth c ls A Q hx hb hr hml hown hlocks hin hU hK hT hS hA hl hQ
  have hl : lv_has ls 6 [(0, .ref h0)] := hl
  have hT : TP D A [(h0, ob 7 [.ref h1, .ref h2, .int h0f2, .ref h3, .ref h4, .ref h5, .int h0f6, .ref h6, .int h0f8, .ref h7, .ref h8, .int h0f11, .ref h9, .ref h10, .ref h11, .ref h12, .ref h13]), (h1, ob 4 [.int h1f0, .int h1f1, .int h1f2, .ref h14]), (h5, ob 3 [.ref h22, .ref h23, .ref h24, .ref h25, .ref h26, .ref h27, .ref h28, .ref h29, .int h5f8, .int h5f9, .int h5f10, .int h5f11]), (h12, aJ (k 1) 9 anJ), (h13, aJ (k 1) 9 anJ), (h22, aJ (k 1) 900 anJ)] s.heap := hT
  refine lv_aload_n hx hb dX10_addUpForm_0 rfl (lv_at hl 0 rfl) ?_
  refine tz_get (ci := 7) (v := .ref h1) (C := RX10) (F := TX10) (N := 17) hx hb hU iX10 hown hK hT 0 rfl rfl 0 (by decide) w249 (fun _ h9 => h9) rfl dX10_addUpForm_1 ?_
  refine tcI (Tc := [(h1, ob 4 [.int h1f0, .int h1f1, .int h1f2, .ref h14])]) (Tr := [(h0, ob 7 [.ref h1, .ref h2, .int h0f2, .ref h3, .ref h4, .ref h5, .int h0f6, .ref h6, .int h0f8, .ref h7, .ref h8, .int h0f11, .ref h9, .ref h10, .ref h11, .ref h12, .ref h13]), (h5, ob 3 [.ref h22, .ref h23, .ref h24, .ref h25, .ref h26, .ref h27, .ref h28, .ref h29, .int h5f8, .int h5f9, .int h5f10, .int h5f11]), (h12, aJ (k 1) 9 anJ), (h13, aJ (k 1) 9 anJ), (h22, aJ (k 1) 900 anJ)]) (as := [h1]) (zcV (q0 := 1) (ci := 4) (As := []) (rest := []) (Tc := [(h1, ob 4 [.int h1f0, .int h1f1, .int h1f2, .ref h14])]) hx hb hml hown hU hK hT rfl rfl [1] rfl (by decide) (cX5_cellCount_642c9 l D k _ h1 h14 h1f0 h1f1 h1f2 (by omega) (by omega)) w385 w382 w383 w384 w64 hdX5_cellCount ⟨rfl, rfl⟩ ⟨Nat.le_of_ble_eq_true rfl, Nat.le_of_ble_eq_true rfl⟩ rfl hl.1 (Nat.le_of_ble_eq_true rfl) dX10_addUpForm_4 ⟨Nat.le_of_ble_eq_true rfl, Nat.le_of_ble_eq_true rfl⟩) hT hS hA [1] [0, 2, 3, 4, 5] rfl rfl rfl (by decide) (by decide) (fun r1 H locs hB J hS => ?_)
  obtain ⟨b_r1, hT1⟩ := hB
  have hT := J _ hT1
  have hT : TP D A [(h0, ob 7 [.ref h1, .ref h2, .int h0f2, .ref h3, .ref h4, .ref h5, .int h0f6, .ref h6, .int h0f8, .ref h7, .ref h8, .int h0f11, .ref h9, .ref h10, .ref h11, .ref h12, .ref h13]), (h5, ob 3 [.ref h22, .ref h23, .ref h24, .ref h25, .ref h26, .ref h27, .ref h28, .ref h29, .int h5f8, .int h5f9, .int h5f10, .int h5f11]), (h12, aJ (k 1) 9 anJ), (h13, aJ (k 1) 9 anJ), (h22, aJ (k 1) 900 anJ), (h1, ob 4 [.int h1f0, .int h1f1, .int h1f2, .ref h14])] H := hT
  refine lv_istore_n (lv' := [(1, .int r1), (0, .ref h0)]) hx hb dX10_addUpForm_7 rfl hl (by decide) rfl (fun ls hl => ?_)
  refine lv_aload_n hx hb dX10_addUpForm_8 rfl (lv_at hl 1 rfl) ?_
  refine tz_get (ci := 7) (v := .ref h12) (C := RX10) (F := TX10) (N := 17) hx hb hU iX10 hown hK hT 0 rfl rfl 15 (by decide) w264 (fun _ h9 => h9) rfl dX10_addUpForm_9 ?_
  refine lv_lconst (v := 0) hx hb dX10_addUpForm_12 (by decide) ?_
  have q_q3 := ll_0
  refine tcV (Tc := [(h12, aJ (k 1) 9 anJ)]) (Tr := [(h0, ob 7 [.ref h1, .ref h2, .int h0f2, .ref h3, .ref h4, .ref h5, .int h0f6, .ref h6, .int h0f8, .ref h7, .ref h8, .int h0f11, .ref h9, .ref h10, .ref h11, .ref h12, .ref h13]), (h5, ob 3 [.ref h22, .ref h23, .ref h24, .ref h25, .ref h26, .ref h27, .ref h28, .ref h29, .int h5f8, .int h5f9, .int h5f10, .int h5f11]), (h13, aJ (k 1) 9 anJ), (h22, aJ (k 1) 900 anJ), (h1, ob 4 [.int h1f0, .int h1f1, .int h1f2, .ref h14])]) (as := [h12]) (zcS (As := [.ref h12, .long 0]) (rest := []) (Tc := [(h12, aJ (k 1) 9 anJ)]) hx hb hml hown hU hK hT [2] rfl (by decide) (cJ7_fill_d0a16_660e4 l D k _ h12 (0) (by have := ll_0; omega)) w336 w617 w335 w73 hdJ7_fill_d0a16 ⟨rfl, rfl⟩ ⟨Nat.le_of_ble_eq_true rfl, Nat.le_of_ble_eq_true rfl⟩ rfl hl.1 (Nat.le_of_ble_eq_true rfl) dX10_addUpForm_13 ⟨Nat.le_of_ble_eq_true rfl, Nat.le_of_ble_eq_true rfl⟩) hT hS hA [2] [0, 1, 3, 4, 5] rfl rfl rfl (by decide) (by decide) (fun H locs hB J hS => ?_)
  have hT1 := hB
  have hT := J _ hT1
  have hT : TP D A [(h0, ob 7 [.ref h1, .ref h2, .int h0f2, .ref h3, .ref h4, .ref h5, .int h0f6, .ref h6, .int h0f8, .ref h7, .ref h8, .int h0f11, .ref h9, .ref h10, .ref h11, .ref h12, .ref h13]), (h5, ob 3 [.ref h22, .ref h23, .ref h24, .ref h25, .ref h26, .ref h27, .ref h28, .ref h29, .int h5f8, .int h5f9, .int h5f10, .int h5f11]), (h13, aJ (k 1) 9 anJ), (h22, aJ (k 1) 900 anJ), (h1, ob 4 [.int h1f0, .int h1f1, .int h1f2, .ref h14]), (h12, aJ (k 1) 9 anJ)] H := hT
  refine lv_iconst (v := 0) hx hb dX10_addUpForm_16 (by decide) ?_
  refine lv_istore_n (lv' := [(2, .int 0), (1, .int r1), (0, .ref h0)]) hx hb dX10_addUpForm_17 rfl hl (by decide) rfl (fun ls hl => ?_)
  have lp18_17 : ∀ (n : Nat) (y16 : Int32) (H : Heap) (locs : List Loc) (ls : Array Slot), (0 ≤ y16.toInt ∧ y16.toInt ≤ 100) → (h5f10.toInt + (-1) * y16.toInt + 1).toNat < n → TP D A [(h0, ob 7 [.ref h1, .ref h2, .int h0f2, .ref h3, .ref h4, .ref h5, .int h0f6, .ref h6, .int h0f8, .ref h7, .ref h8, .int h0f11, .ref h9, .ref h10, .ref h11, .ref h12, .ref h13]), (h5, ob 3 [.ref h22, .ref h23, .ref h24, .ref h25, .ref h26, .ref h27, .ref h28, .ref h29, .int h5f8, .int h5f9, .int h5f10, .int h5f11]), (h13, aJ (k 1) 9 anJ), (h22, aJ (k 1) 900 anJ), (h1, ob 4 [.int h1f0, .int h1f1, .int h1f2, .ref h14]), (h12, aJ (k 1) 9 anJ)] H → va_S A s.heap H locs → lv_has ls 6 [(0, .ref h0), (1, .int r1), (2, .int y16)] → W p l e Rm_cX10_addUpForm_bdb42 s m args below meth c H locs 0 0 Q (F0 m 18 ls []) := by
    intro n
    induction n with
    | zero => intro y16 H locs ls b_y16 hm hT hS hl; exact absurd hm (Nat.not_lt_zero _)
    | succ n ih =>
      intro y16 H locs ls b_y16 hm hT hS hl
      have ih18_17 := ih
      clear ih
      refine lv_iload_n hx hb dX10_addUpForm_18 rfl (lv_at hl 2 rfl) ?_
      refine lv_aload_n hx hb dX10_addUpForm_19 rfl (lv_at hl 0 rfl) ?_
      refine tz_get (ci := 7) (v := .ref h5) (C := RX10) (F := TX10) (N := 17) hx hb hU iX10 hown hK hT 0 rfl rfl 5 (by decide) w254 (fun _ h9 => h9) rfl dX10_addUpForm_20 ?_
      refine tz_get (ci := 3) (v := .int h5f10) (C := RX4) (F := TX4) (N := 12) hx hb hU iX4 hown hK hT 1 rfl rfl 10 (by decide) w166 (fun _ h9 => h9) rfl dX10_addUpForm_23 ?_
      refine lv_icmp_ge (tgt := 141) hx hb dX10_addUpForm_26 (by decide) (fun c_18 => ?_) (fun c_18 => ?_)
      · skip
        have c_18 := ni_le c_18 rfl rfl
        refine lv_iconst (v := 1) hx hb dX10_addUpForm_141 (by decide) ?_
        exact tz_retZ (B := B_cX10_addUpForm_bdb42 D k h0 h1 h5 h12 h13 h22 h2 h3 h4 h6 h7 h8 h9 h10 h11 h14 h23 h24 h25 h26 h27 h28 h29 h0f2 h0f6 h0f8 h0f11 h1f0 h1f1 h1f2 h5f8 h5f9 h5f10 h5f11) (v := 1) hQ hx hb hr hlocks hS (Nat.le_of_ble_eq_true rfl) (Nat.le_of_ble_eq_true rfl) dX10_addUpForm_142 (by have := li_1; omega) (⟨(by have := li_1; omega), (hT.sub [0, 4, 1, 5, 2, 3] (by decide) rfl)⟩)
      · skip
        have c_18 := ni_nle c_18 rfl rfl
        refine lv_aload_n hx hb dX10_addUpForm_29 rfl (lv_at hl 0 rfl) ?_
        refine tz_get (ci := 7) (v := .ref h5) (C := RX10) (F := TX10) (N := 17) hx hb hU iX10 hown hK hT 0 rfl rfl 5 (by decide) w254 (fun _ h9 => h9) rfl dX10_addUpForm_30 ?_
        refine tz_get (ci := 3) (v := .ref h22) (C := RX4) (F := TX4) (N := 12) hx hb hU iX4 hown hK hT 1 rfl rfl 0 (by decide) w150 (fun _ h9 => h9) rfl dX10_addUpForm_33 ?_
        refine lv_aload_n hx hb dX10_addUpForm_36 rfl (lv_at hl 0 rfl) ?_
        refine tz_get (ci := 7) (v := .ref h5) (C := RX10) (F := TX10) (N := 17) hx hb hU iX10 hown hK hT 0 rfl rfl 5 (by decide) w254 (fun _ h9 => h9) rfl dX10_addUpForm_37 ?_
        refine lv_iload_n hx hb dX10_addUpForm_40 rfl (lv_at hl 2 rfl) ?_
        refine tcI (Tc := [(h5, ob 3 [.ref h22, .ref h23, .ref h24, .ref h25, .ref h26, .ref h27, .ref h28, .ref h29, .int h5f8, .int h5f9, .int h5f10, .int h5f11])]) (Tr := [(h0, ob 7 [.ref h1, .ref h2, .int h0f2, .ref h3, .ref h4, .ref h5, .int h0f6, .ref h6, .int h0f8, .ref h7, .ref h8, .int h0f11, .ref h9, .ref h10, .ref h11, .ref h12, .ref h13]), (h13, aJ (k 1) 9 anJ), (h22, aJ (k 1) 900 anJ), (h1, ob 4 [.int h1f0, .int h1f1, .int h1f2, .ref h14]), (h12, aJ (k 1) 9 anJ)]) (as := [h5]) (zcV (q0 := 1) (ci := 3) (As := [.int y16]) (rest := [.ref h22]) (Tc := [(h5, ob 3 [.ref h22, .ref h23, .ref h24, .ref h25, .ref h26, .ref h27, .ref h28, .ref h29, .int h5f8, .int h5f9, .int h5f10, .int h5f11])]) hx hb hml hown hU hK hT rfl rfl [1] rfl (by decide) (cX4_start_d01b0 l D k _ h5 h22 h23 h24 h25 h26 h27 h28 h29 y16 h5f8 h5f9 h5f10 h5f11 (by omega) (by omega) (by omega) (by omega) (by omega)) w505 w574 w503 w504 w66 hdX4_start ⟨rfl, rfl⟩ ⟨Nat.le_of_ble_eq_true rfl, Nat.le_of_ble_eq_true rfl⟩ rfl hl.1 (Nat.le_of_ble_eq_true rfl) dX10_addUpForm_41 ⟨Nat.le_of_ble_eq_true rfl, Nat.le_of_ble_eq_true rfl⟩) hT hS hA [1] [0, 2, 3, 4, 5] rfl rfl rfl (by decide) (by decide) (fun r19 H locs hB J hS => ?_)
        obtain ⟨b_r19, hT1⟩ := hB
        have hT := J _ hT1
        have hT : TP D A [(h0, ob 7 [.ref h1, .ref h2, .int h0f2, .ref h3, .ref h4, .ref h5, .int h0f6, .ref h6, .int h0f8, .ref h7, .ref h8, .int h0f11, .ref h9, .ref h10, .ref h11, .ref h12, .ref h13]), (h13, aJ (k 1) 9 anJ), (h22, aJ (k 1) 900 anJ), (h1, ob 4 [.int h1f0, .int h1f1, .int h1f2, .ref h14]), (h12, aJ (k 1) 9 anJ), (h5, ob 3 [.ref h22, .ref h23, .ref h24, .ref h25, .ref h26, .ref h27, .ref h28, .ref h29, .int h5f8, .int h5f9, .int h5f10, .int h5f11])] H := hT
        refine lv_aload_n hx hb dX10_addUpForm_44 rfl (lv_at hl 0 rfl) ?_
        refine tz_get (ci := 7) (v := .ref h5) (C := RX10) (F := TX10) (N := 17) hx hb hU iX10 hown hK hT 0 rfl rfl 5 (by decide) w254 (fun _ h9 => h9) rfl dX10_addUpForm_45 ?_
        refine tz_get (ci := 3) (v := .ref h22) (C := RX4) (F := TX4) (N := 12) hx hb hU iX4 hown hK hT 5 rfl rfl 0 (by decide) w150 (fun _ h9 => h9) rfl dX10_addUpForm_48 ?_
        refine lv_aload_n hx hb dX10_addUpForm_51 rfl (lv_at hl 0 rfl) ?_
        refine tz_get (ci := 7) (v := .ref h5) (C := RX10) (F := TX10) (N := 17) hx hb hU iX10 hown hK hT 0 rfl rfl 5 (by decide) w254 (fun _ h9 => h9) rfl dX10_addUpForm_52 ?_
        refine lv_iload_n hx hb dX10_addUpForm_55 rfl (lv_at hl 2 rfl) ?_
        refine tcI (Tc := [(h5, ob 3 [.ref h22, .ref h23, .ref h24, .ref h25, .ref h26, .ref h27, .ref h28, .ref h29, .int h5f8, .int h5f9, .int h5f10, .int h5f11])]) (Tr := [(h0, ob 7 [.ref h1, .ref h2, .int h0f2, .ref h3, .ref h4, .ref h5, .int h0f6, .ref h6, .int h0f8, .ref h7, .ref h8, .int h0f11, .ref h9, .ref h10, .ref h11, .ref h12, .ref h13]), (h13, aJ (k 1) 9 anJ), (h22, aJ (k 1) 900 anJ), (h1, ob 4 [.int h1f0, .int h1f1, .int h1f2, .ref h14]), (h12, aJ (k 1) 9 anJ)]) (as := [h5]) (zcV (q0 := 5) (ci := 3) (As := [.int y16]) (rest := [.ref h22, .int r19, .ref h22]) (Tc := [(h5, ob 3 [.ref h22, .ref h23, .ref h24, .ref h25, .ref h26, .ref h27, .ref h28, .ref h29, .int h5f8, .int h5f9, .int h5f10, .int h5f11])]) hx hb hml hown hU hK hT rfl rfl [5] rfl (by decide) (cX4_start_d01b0 l D k _ h5 h22 h23 h24 h25 h26 h27 h28 h29 y16 h5f8 h5f9 h5f10 h5f11 (by omega) (by omega) (by omega) (by omega) (by omega)) w505 w574 w503 w504 w66 hdX4_start ⟨rfl, rfl⟩ ⟨Nat.le_of_ble_eq_true rfl, Nat.le_of_ble_eq_true rfl⟩ rfl hl.1 (Nat.le_of_ble_eq_true rfl) dX10_addUpForm_56 ⟨Nat.le_of_ble_eq_true rfl, Nat.le_of_ble_eq_true rfl⟩) hT hS hA [5] [0, 1, 2, 3, 4] rfl rfl rfl (by decide) (by decide) (fun r20 H locs hB J hS => ?_)
        obtain ⟨b_r20, hT1⟩ := hB
        have hT := J _ hT1
        have hT : TP D A [(h0, ob 7 [.ref h1, .ref h2, .int h0f2, .ref h3, .ref h4, .ref h5, .int h0f6, .ref h6, .int h0f8, .ref h7, .ref h8, .int h0f11, .ref h9, .ref h10, .ref h11, .ref h12, .ref h13]), (h13, aJ (k 1) 9 anJ), (h22, aJ (k 1) 900 anJ), (h1, ob 4 [.int h1f0, .int h1f1, .int h1f2, .ref h14]), (h12, aJ (k 1) 9 anJ), (h5, ob 3 [.ref h22, .ref h23, .ref h24, .ref h25, .ref h26, .ref h27, .ref h28, .ref h29, .int h5f8, .int h5f9, .int h5f10, .int h5f11])] H := hT
        refine lv_aload_n hx hb dX10_addUpForm_59 rfl (lv_at hl 0 rfl) ?_
        refine tz_get (ci := 7) (v := .ref h13) (C := RX10) (F := TX10) (N := 17) hx hb hU iX10 hown hK hT 0 rfl rfl 16 (by decide) w265 (fun _ h9 => h9) rfl dX10_addUpForm_60 ?_
        refine lv_aload_n hx hb dX10_addUpForm_63 rfl (lv_at hl 0 rfl) ?_
        refine tz_get (ci := 7) (v := .ref h1) (C := RX10) (F := TX10) (N := 17) hx hb hU iX10 hown hK hT 0 rfl rfl 0 (by decide) w249 (fun _ h9 => h9) rfl dX10_addUpForm_64 ?_
        refine tz_get (ci := 4) (v := .int h1f0) (C := RX5) (F := TX5) (N := 4) hx hb hU iX5 hown hK hT 3 rfl rfl 0 (by decide) w93 (fun _ h9 => h9) rfl dX10_addUpForm_67 ?_
        refine tcV (Tc := [(h22, aJ (k 1) 900 anJ), (h13, aJ (k 1) 9 anJ)]) (Tr := [(h0, ob 7 [.ref h1, .ref h2, .int h0f2, .ref h3, .ref h4, .ref h5, .int h0f6, .ref h6, .int h0f8, .ref h7, .ref h8, .int h0f11, .ref h9, .ref h10, .ref h11, .ref h12, .ref h13]), (h1, ob 4 [.int h1f0, .int h1f1, .int h1f2, .ref h14]), (h12, aJ (k 1) 9 anJ), (h5, ob 3 [.ref h22, .ref h23, .ref h24, .ref h25, .ref h26, .ref h27, .ref h28, .ref h29, .int h5f8, .int h5f9, .int h5f10, .int h5f11])]) (as := [h22, h13]) (zcS (As := [.ref h22, .int r19, .ref h22, .int r20, .ref h13, .int h1f0]) (rest := []) (Tc := [(h22, aJ (k 1) 900 anJ), (h13, aJ (k 1) 9 anJ)]) hx hb hml hown hU hK hT [2, 1] rfl (by decide) (cX7_multiplyTurned_0e5b8 l D k _ h22 h13 r19 r20 h1f0 (by omega) (by omega) (by omega)) w620 w618 w619 w74 hdX7_multiplyTurned ⟨rfl, rfl⟩ ⟨Nat.le_of_ble_eq_true rfl, Nat.le_of_ble_eq_true rfl⟩ rfl hl.1 (Nat.le_of_ble_eq_true rfl) dX10_addUpForm_70 ⟨Nat.le_of_ble_eq_true rfl, Nat.le_of_ble_eq_true rfl⟩) hT hS hA [2, 1] [0, 3, 4, 5] rfl rfl rfl (by decide) (by decide) (fun H locs hB J hS => ?_)
        have hT1 := hB
        have hT := J _ hT1
        have hT : TP D A [(h0, ob 7 [.ref h1, .ref h2, .int h0f2, .ref h3, .ref h4, .ref h5, .int h0f6, .ref h6, .int h0f8, .ref h7, .ref h8, .int h0f11, .ref h9, .ref h10, .ref h11, .ref h12, .ref h13]), (h1, ob 4 [.int h1f0, .int h1f1, .int h1f2, .ref h14]), (h12, aJ (k 1) 9 anJ), (h5, ob 3 [.ref h22, .ref h23, .ref h24, .ref h25, .ref h26, .ref h27, .ref h28, .ref h29, .int h5f8, .int h5f9, .int h5f10, .int h5f11]), (h22, aJ (k 1) 900 anJ), (h13, aJ (k 1) 9 anJ)] H := hT
        refine lv_iconst (v := 0) hx hb dX10_addUpForm_73 (by decide) ?_
        refine lv_istore_n (lv' := [(3, .int 0), (0, .ref h0), (1, .int r1), (2, .int y16)]) hx hb dX10_addUpForm_74 rfl hl (by decide) rfl (fun ls hl => ?_)
        have lp75_29 : ∀ (n : Nat) (y28 : Int32) (H : Heap) (locs : List Loc) (ls : Array Slot), (0 ≤ y28.toInt ∧ y28.toInt ≤ 9) → (r1.toInt + (-1) * y28.toInt + 1).toNat < n → TP D A [(h0, ob 7 [.ref h1, .ref h2, .int h0f2, .ref h3, .ref h4, .ref h5, .int h0f6, .ref h6, .int h0f8, .ref h7, .ref h8, .int h0f11, .ref h9, .ref h10, .ref h11, .ref h12, .ref h13]), (h1, ob 4 [.int h1f0, .int h1f1, .int h1f2, .ref h14]), (h12, aJ (k 1) 9 anJ), (h5, ob 3 [.ref h22, .ref h23, .ref h24, .ref h25, .ref h26, .ref h27, .ref h28, .ref h29, .int h5f8, .int h5f9, .int h5f10, .int h5f11]), (h22, aJ (k 1) 900 anJ), (h13, aJ (k 1) 9 anJ)] H → va_S A s.heap H locs → lv_has ls 6 [(0, .ref h0), (1, .int r1), (2, .int y16), (3, .int y28)] → W p l e Rm_cX10_addUpForm_bdb42 s m args below meth c H locs 0 0 Q (F0 m 75 ls []) := by
          intro n
          induction n with
          | zero => intro y28 H locs ls b_y28 hm hT hS hl; exact absurd hm (Nat.not_lt_zero _)
          | succ n ih =>
            intro y28 H locs ls b_y28 hm hT hS hl
            have ih75_29 := ih
            clear ih
            refine lv_iload_n hx hb dX10_addUpForm_75 rfl (lv_at hl 3 rfl) ?_
            refine lv_iload_n hx hb dX10_addUpForm_76 rfl (lv_at hl 1 rfl) ?_
            refine lv_icmp_ge (tgt := 135) hx hb dX10_addUpForm_77 (by decide) (fun c_30 => ?_) (fun c_30 => ?_)
            · skip
              have c_30 := ni_le c_30 rfl rfl
              obtain ⟨v31, e_v31⟩ : ∃ x : Int32, x = y16 + Int32.ofInt 1 := ⟨_, rfl⟩
              have f_v31 := e_v31.symm
              have e_v31 : v31.toInt = y16.toInt + 1 := ai_add e_v31 rfl (show (Int32.ofInt 1).toInt = 1 from (by decide +kernel)) (by omega)
              refine lv_iinc (v := v31) (lv' := [(2, .int v31), (0, .ref h0), (1, .int r1), (3, .int y28)]) hx hb dX10_addUpForm_135 hl (k := 2) rfl f_v31 (by decide) rfl (fun ls hl => ?_)
              refine lv_goto (tgt := 18) hx hb dX10_addUpForm_138 (by decide) ?_
              exact ih18_17 v31 _ _ _ (by omega)  (by omega) (hT.sub [0, 3, 5, 4, 1, 2] (by decide) rfl) hS (lv_sub hl [1, 2, 0] rfl)
            · skip
              have c_30 := ni_nle c_30 rfl rfl
              refine lv_aload_n hx hb dX10_addUpForm_80 rfl (lv_at hl 0 rfl) ?_
              refine tz_get (ci := 7) (v := .ref h12) (C := RX10) (F := TX10) (N := 17) hx hb hU iX10 hown hK hT 0 rfl rfl 15 (by decide) w264 (fun _ h9 => h9) rfl dX10_addUpForm_81 ?_
              refine lv_iload_n hx hb dX10_addUpForm_84 rfl (lv_at hl 3 rfl) ?_
              refine tz_lald hx hb hK hT 2 rfl (by omega) dX10_addUpForm_85 (fun v32 e_v32 => ?_)
              clear e_v32
              refine lv_aload_n hx hb dX10_addUpForm_86 rfl (lv_at hl 0 rfl) ?_
              refine tz_get (ci := 7) (v := .ref h13) (C := RX10) (F := TX10) (N := 17) hx hb hU iX10 hown hK hT 0 rfl rfl 16 (by decide) w265 (fun _ h9 => h9) rfl dX10_addUpForm_87 ?_
              refine lv_iload_n hx hb dX10_addUpForm_90 rfl (lv_at hl 3 rfl) ?_
              refine tz_lald hx hb hK hT 5 rfl (by omega) dX10_addUpForm_91 (fun v33 e_v33 => ?_)
              clear e_v33
              refine lv_ladd hx hb dX10_addUpForm_92 (lv_topl (fun v34 e_v34 => ?_))
              refine lv_lstore (lv' := [(4, .long v34), (0, .ref h0), (1, .int r1), (2, .int y16), (3, .int y28)]) hx hb dX10_addUpForm_93 hl (by decide) rfl (fun ls hl => ?_)
              refine lv_aload_n hx hb dX10_addUpForm_95 rfl (lv_at hl 1 rfl) ?_
              refine tz_get (ci := 7) (v := .ref h12) (C := RX10) (F := TX10) (N := 17) hx hb hU iX10 hown hK hT 0 rfl rfl 15 (by decide) w264 (fun _ h9 => h9) rfl dX10_addUpForm_96 ?_
              refine lv_iload_n hx hb dX10_addUpForm_99 rfl (lv_at hl 4 rfl) ?_
              refine tz_lald hx hb hK hT 2 rfl (by omega) dX10_addUpForm_100 (fun v35 e_v35 => ?_)
              clear e_v35
              refine lv_lload hx hb dX10_addUpForm_101 (lv_at hl 0 rfl) ?_
              refine lv_lxor hx hb dX10_addUpForm_103 (lv_topl (fun v36 e_v36 => ?_))
              refine lv_aload_n hx hb dX10_addUpForm_104 rfl (lv_at hl 1 rfl) ?_
              refine tz_get (ci := 7) (v := .ref h13) (C := RX10) (F := TX10) (N := 17) hx hb hU iX10 hown hK hT 0 rfl rfl 16 (by decide) w265 (fun _ h9 => h9) rfl dX10_addUpForm_105 ?_
              refine lv_iload_n hx hb dX10_addUpForm_108 rfl (lv_at hl 4 rfl) ?_
              refine tz_lald hx hb hK hT 5 rfl (by omega) dX10_addUpForm_109 (fun v37 e_v37 => ?_)
              clear e_v37
              refine lv_lload hx hb dX10_addUpForm_110 (lv_at hl 0 rfl) ?_
              refine lv_lxor hx hb dX10_addUpForm_112 (lv_topl (fun v38 e_v38 => ?_))
              refine lv_land hx hb dX10_addUpForm_113 (lv_topl (fun v39 e_v39 => ?_))
              refine lv_lconst (v := 0) hx hb dX10_addUpForm_114 (by decide) ?_
              refine W.lcmp hx hb dX10_addUpForm_115 ?_
              refine lv_if_ge (tgt := 121) hx hb dX10_addUpForm_116 (by decide) (fun c_40 => ?_) (fun c_40 => ?_)
              · skip
                have c_40 := nl_ge c_40 rfl ll_0
                refine lv_aload_n hx hb dX10_addUpForm_121 rfl (lv_at hl 1 rfl) ?_
                refine tz_get (ci := 7) (v := .ref h12) (C := RX10) (F := TX10) (N := 17) hx hb hU iX10 hown hK hT 0 rfl rfl 15 (by decide) w264 (fun _ h9 => h9) rfl dX10_addUpForm_122 ?_
                refine lv_iload_n hx hb dX10_addUpForm_125 rfl (lv_at hl 4 rfl) ?_
                refine lv_lload hx hb dX10_addUpForm_126 (lv_at hl 0 rfl) ?_
                refine tz_last hx hb hK hT hS 2 rfl (by omega) (fun _ _ => trivial) dX10_addUpForm_128 (fun H locs hT hS => ?_)
                obtain ⟨v41, e_v41⟩ : ∃ x : Int32, x = y28 + Int32.ofInt 1 := ⟨_, rfl⟩
                have f_v41 := e_v41.symm
                have e_v41 : v41.toInt = y28.toInt + 1 := ai_add e_v41 rfl (show (Int32.ofInt 1).toInt = 1 from (by decide +kernel)) (by omega)
                refine lv_iinc (v := v41) (lv' := [(3, .int v41), (4, .long v34), (0, .ref h0), (1, .int r1), (2, .int y16)]) hx hb dX10_addUpForm_129 hl (k := 4) rfl f_v41 (by decide) rfl (fun ls hl => ?_)
                refine lv_goto (tgt := 75) hx hb dX10_addUpForm_132 (by decide) ?_
                exact ih75_29 v41 _ _ _ (by omega)  (by omega) hT hS (lv_sub hl [2, 3, 4, 0] rfl)
              · skip
                have c_40 := nl_nge c_40 rfl ll_0
                refine lv_iconst (v := 0) hx hb dX10_addUpForm_119 (by decide) ?_
                exact tz_retZ (B := B_cX10_addUpForm_bdb42 D k h0 h1 h5 h12 h13 h22 h2 h3 h4 h6 h7 h8 h9 h10 h11 h14 h23 h24 h25 h26 h27 h28 h29 h0f2 h0f6 h0f8 h0f11 h1f0 h1f1 h1f2 h5f8 h5f9 h5f10 h5f11) (v := 0) hQ hx hb hr hlocks hS (Nat.le_of_ble_eq_true rfl) (Nat.le_of_ble_eq_true rfl) dX10_addUpForm_120 (by have := li_0; omega) (⟨(by have := li_0; omega), (hT.sub [0, 1, 3, 2, 5, 4] (by decide) rfl)⟩)
        exact lp75_29 ((r1.toInt + (-1) * (0 : Int32).toInt + 1).toNat + 1) (0) _ _ _ (by have := li_0; omega)  (Nat.lt_succ_self _) hT hS (lv_sub hl [1, 2, 3, 0] rfl)
  exact lp18_17 ((h5f10.toInt + (-1) * (0 : Int32).toInt + 1).toNat + 1) (0) _ _ _ (by have := li_0; omega)  (Nat.lt_succ_self _) hT hS (lv_sub hl [2, 1, 0] rfl)
abbrev Rm_cX10_form_13164 : Room := { frames := 6, cells := 0, slots := 0, locals := 149 }
abbrev B_cX10_form_13164 (D : va_G) (k : Nat → ClassId) (h0 h1 h5 h9 h12 h13 h14 h22 h23 h24 h25 h26 h27 h28 h29 h2 h3 h4 h6 h7 h8 h10 h11 : Nat) (x1 : Int32) (x2 : Int32) (h0f2 : Int32) (h0f6 : Int32) (h0f8 : Int32) (h0f11 : Int32) (h1f0 : Int32) (h1f1 : Int32) (h1f2 : Int32) (h5f8 : Int32) (h5f9 : Int32) (h5f10 : Int32) (h5f11 : Int32) (h9f1 : Int32) (A : Nat → Prop) (r : Int64) (H : Heap) : Prop := ∃ o0 : Int32, ∃ o1 : Int32, ∃ o2 : Int32, ∃ o3 : Int32, ∃ o4 : Int32, ∃ o5 : Int32, (0 ≤ o0.toInt ∧ o0.toInt ≤ 1) ∧ (0 ≤ o1.toInt ∧ o1.toInt ≤ 9) ∧ (0 ≤ o2.toInt ∧ o2.toInt ≤ 100) ∧ (0 ≤ o3.toInt ∧ o3.toInt ≤ 100) ∧ (0 ≤ o4.toInt ∧ o4.toInt ≤ 1) ∧ (0 ≤ o5.toInt ∧ o5.toInt ≤ 7) ∧ TP D A [(h0, ob 7 [.ref h1, .ref h2, .int h0f2, .ref h3, .ref h4, .ref h5, .int o0, .ref h6, .int h0f8, .ref h7, .ref h8, .int h0f11, .ref h9, .ref h10, .ref h11, .ref h12, .ref h13]), (h1, ob 4 [.int h1f0, .int h1f1, .int h1f2, .ref h14]), (h5, ob 3 [.ref h22, .ref h23, .ref h24, .ref h25, .ref h26, .ref h27, .ref h28, .ref h29, .int o1, .int o2, .int o3, .int o4]), (h9, ob 2 [.ref h1, .int o5]), (h12, aJ (k 1) 9 anJ), (h13, aJ (k 1) 9 anJ), (h14, aJ (k 1) 36 anJ), (h22, aJ (k 1) 900 anJ), (h23, aI (k 0) 100 anI), (h24, aI (k 0) 100 anI), (h25, aI (k 0) 100 anI), (h26, aI (k 0) 400 anI), (h27, aI (k 0) 256 (rgI (-1) 99)), (h28, aI (k 0) 100 (rgI (-1) 99)), (h29, aJ (k 1) 60 anJ)] H
set_option maxHeartbeats 4000000 in
set_option maxRecDepth 100000 in
theorem cX10_form_13164 (l : Launch) (D : va_G) (k : Nat → ClassId) (sz : Nat) (h0 h1 h5 h9 h12 h13 h14 h22 h23 h24 h25 h26 h27 h28 h29 h2 h3 h4 h6 h7 h8 h10 h11 : Nat) (x1 : Int32) (x2 : Int32) (h0f2 : Int32) (h0f6 : Int32) (h0f8 : Int32) (h0f11 : Int32) (h1f0 : Int32) (h1f1 : Int32) (h1f2 : Int32) (h5f8 : Int32) (h5f9 : Int32) (h5f10 : Int32) (h5f11 : Int32) (h9f1 : Int32) (b_h0f2 : 0 ≤ h0f2.toInt ∧ h0f2.toInt ≤ 1) (b_h0f6 : 0 ≤ h0f6.toInt ∧ h0f6.toInt ≤ 1) (b_h0f8 : 0 ≤ h0f8.toInt ∧ h0f8.toInt ≤ 1) (b_h0f11 : 0 ≤ h0f11.toInt ∧ h0f11.toInt ≤ 200) (b_h1f0 : 1 ≤ h1f0.toInt ∧ h1f0.toInt ≤ 3) (b_h1f1 : 0 ≤ h1f1.toInt ∧ h1f1.toInt ≤ 4) (b_h5f8 : 0 ≤ h5f8.toInt ∧ h5f8.toInt ≤ 9) (b_h5f9 : 0 ≤ h5f9.toInt ∧ h5f9.toInt ≤ 100) (b_h5f10 : 0 ≤ h5f10.toInt ∧ h5f10.toInt ≤ 100) (b_h5f11 : 0 ≤ h5f11.toInt ∧ h5f11.toInt ≤ 1) (b_h9f1 : 0 ≤ h9f1.toInt ∧ h9f1.toInt ≤ 7) : Met l yX10_form (Cond.code yX10_form cX10_form 5 (some .long) :: uw) Rm_cX10_form_13164 (pT D k sz [.ref h0, .int x1, .int x2] [(h0, ob 7 [.ref h1, .ref h2, .int h0f2, .ref h3, .ref h4, .ref h5, .int h0f6, .ref h6, .int h0f8, .ref h7, .ref h8, .int h0f11, .ref h9, .ref h10, .ref h11, .ref h12, .ref h13]), (h1, ob 4 [.int h1f0, .int h1f1, .int h1f2, .ref h14]), (h5, ob 3 [.ref h22, .ref h23, .ref h24, .ref h25, .ref h26, .ref h27, .ref h28, .ref h29, .int h5f8, .int h5f9, .int h5f10, .int h5f11]), (h9, ob 2 [.ref h1, .int h9f1]), (h12, aJ (k 1) 9 anJ), (h13, aJ (k 1) 9 anJ), (h14, aJ (k 1) 36 anJ), (h22, aJ (k 1) 900 anJ), (h23, aI (k 0) 100 anI), (h24, aI (k 0) 100 anI), (h25, aI (k 0) 100 anI), (h26, aI (k 0) 400 anI), (h27, aI (k 0) 256 (rgI (-1) 99)), (h28, aI (k 0) 100 (rgI (-1) 99)), (h29, aJ (k 1) 60 anJ)]) (qL (B_cX10_form_13164 D k h0 h1 h5 h9 h12 h13 h14 h22 h23 h24 h25 h26 h27 h28 h29 h2 h3 h4 h6 h7 h8 h10 h11 x1 x2 h0f2 h0f6 h0f8 h0f11 h1f0 h1f1 h1f2 h5f8 h5f9 h5f10 h5f11 h9f1 (zA [h0, h1, h5, h9, h12, h13, h14, h22, h23, h24, h25, h26, h27, h28, h29] sz)) (zA [h0, h1, h5, h9, h12, h13, h14, h22, h23, h24, h25, h26, h27, h28, h29] sz)) 0 0 (zA [h0, h1, h5, h9, h12, h13, h14, h22, h23, h24, h25, h26, h27, h28, h29] sz) := by
  refine tz_begin (as := [h0, h1, h5, h9, h12, h13, h14, h22, h23, h24, h25, h26, h27, h28, h29]) (Qc := fun A => qL (B_cX10_form_13164 D k h0 h1 h5 h9 h12 h13 h14 h22 h23 h24 h25 h26 h27 h28 h29 h2 h3 h4 h6 h7 h8 h10 h11 x1 x2 h0f2 h0f6 h0f8 h0f11 h1f0 h1f1 h1f2 h5f8 h5f9 h5f10 h5f11 h9f1 A) A) (by decide +kernel) rfl (Nat.le_of_ble_eq_true rfl) ?_
  intro p e s m args below meth c ls A Q hx hb hr hml hown hlocks hin hU hK hT hS hA hl hQ
  have hl : lv_has ls 5 [(0, .ref h0), (1, .int x1), (2, .int x2)] := hl
  have hT : TP D A [(h0, ob 7 [.ref h1, .ref h2, .int h0f2, .ref h3, .ref h4, .ref h5, .int h0f6, .ref h6, .int h0f8, .ref h7, .ref h8, .int h0f11, .ref h9, .ref h10, .ref h11, .ref h12, .ref h13]), (h1, ob 4 [.int h1f0, .int h1f1, .int h1f2, .ref h14]), (h5, ob 3 [.ref h22, .ref h23, .ref h24, .ref h25, .ref h26, .ref h27, .ref h28, .ref h29, .int h5f8, .int h5f9, .int h5f10, .int h5f11]), (h9, ob 2 [.ref h1, .int h9f1]), (h12, aJ (k 1) 9 anJ), (h13, aJ (k 1) 9 anJ), (h14, aJ (k 1) 36 anJ), (h22, aJ (k 1) 900 anJ), (h23, aI (k 0) 100 anI), (h24, aI (k 0) 100 anI), (h25, aI (k 0) 100 anI), (h26, aI (k 0) 400 anI), (h27, aI (k 0) 256 (rgI (-1) 99)), (h28, aI (k 0) 100 (rgI (-1) 99)), (h29, aJ (k 1) 60 anJ)] s.heap := hT
  refine lv_aload_n hx hb dX10_form_0 rfl (lv_at hl 0 rfl) ?_
  refine tz_get (ci := 7) (v := .ref h1) (C := RX10) (F := TX10) (N := 17) hx hb hU iX10 hown hK hT 0 rfl rfl 0 (by decide) w249 (fun _ h9 => h9) rfl dX10_form_1 ?_
  refine lv_iload_n hx hb dX10_form_4 rfl (lv_at hl 1 rfl) ?_
  refine lv_iload_n hx hb dX10_form_5 rfl (lv_at hl 2 rfl) ?_
  refine tcI (Tc := [(h1, ob 4 [.int h1f0, .int h1f1, .int h1f2, .ref h14])]) (Tr := [(h0, ob 7 [.ref h1, .ref h2, .int h0f2, .ref h3, .ref h4, .ref h5, .int h0f6, .ref h6, .int h0f8, .ref h7, .ref h8, .int h0f11, .ref h9, .ref h10, .ref h11, .ref h12, .ref h13]), (h5, ob 3 [.ref h22, .ref h23, .ref h24, .ref h25, .ref h26, .ref h27, .ref h28, .ref h29, .int h5f8, .int h5f9, .int h5f10, .int h5f11]), (h9, ob 2 [.ref h1, .int h9f1]), (h12, aJ (k 1) 9 anJ), (h13, aJ (k 1) 9 anJ), (h14, aJ (k 1) 36 anJ), (h22, aJ (k 1) 900 anJ), (h23, aI (k 0) 100 anI), (h24, aI (k 0) 100 anI), (h25, aI (k 0) 100 anI), (h26, aI (k 0) 400 anI), (h27, aI (k 0) 256 (rgI (-1) 99)), (h28, aI (k 0) 100 (rgI (-1) 99)), (h29, aJ (k 1) 60 anJ)]) (as := [h1]) (zcV (q0 := 1) (ci := 4) (As := [.int x1, .int x2]) (rest := []) (Tc := [(h1, ob 4 [.int h1f0, .int h1f1, .int h1f2, .ref h14])]) hx hb hml hown hU hK hT rfl rfl [1] rfl (by decide) (cX5_isPlace_ce953 l D k _ h1 h14 x1 x2 h1f0 h1f1 h1f2 (by omega) (by omega)) w319 w316 w317 w318 w64 hdX5_isPlace ⟨rfl, rfl⟩ ⟨Nat.le_of_ble_eq_true rfl, Nat.le_of_ble_eq_true rfl⟩ rfl hl.1 (Nat.le_of_ble_eq_true rfl) dX10_form_6 ⟨Nat.le_of_ble_eq_true rfl, Nat.le_of_ble_eq_true rfl⟩) hT hS hA [1] [0, 2, 3, 4, 5, 6, 7, 8, 9, 10, 11, 12, 13, 14] rfl rfl rfl (by decide) (by decide) (fun r1 H locs hB J hS => ?_)
  rcases hB with ⟨rfl, hT1⟩ | ⟨c_2, c_3, c_4, c_5, rfl, hT1⟩
  · skip
    have hT := J _ hT1
    have hT : TP D A [(h0, ob 7 [.ref h1, .ref h2, .int h0f2, .ref h3, .ref h4, .ref h5, .int h0f6, .ref h6, .int h0f8, .ref h7, .ref h8, .int h0f11, .ref h9, .ref h10, .ref h11, .ref h12, .ref h13]), (h5, ob 3 [.ref h22, .ref h23, .ref h24, .ref h25, .ref h26, .ref h27, .ref h28, .ref h29, .int h5f8, .int h5f9, .int h5f10, .int h5f11]), (h9, ob 2 [.ref h1, .int h9f1]), (h12, aJ (k 1) 9 anJ), (h13, aJ (k 1) 9 anJ), (h14, aJ (k 1) 36 anJ), (h22, aJ (k 1) 900 anJ), (h23, aI (k 0) 100 anI), (h24, aI (k 0) 100 anI), (h25, aI (k 0) 100 anI), (h26, aI (k 0) 400 anI), (h27, aI (k 0) 256 (rgI (-1) 99)), (h28, aI (k 0) 100 (rgI (-1) 99)), (h29, aJ (k 1) 60 anJ), (h1, ob 4 [.int h1f0, .int h1f1, .int h1f2, .ref h14])] H := hT
    refine lv_if_ne (tgt := 17) hx hb dX10_form_9 (by decide) (fun cc => absurd (by decide +kernel) cc) (fun _ => ?_)
    refine lv_iconst (v := (-1)) hx hb dX10_form_12 (by decide) ?_
    have q_q7 := li_m1
    refine tcL (Tc := []) (Tr := [(h0, ob 7 [.ref h1, .ref h2, .int h0f2, .ref h3, .ref h4, .ref h5, .int h0f6, .ref h6, .int h0f8, .ref h7, .ref h8, .int h0f11, .ref h9, .ref h10, .ref h11, .ref h12, .ref h13]), (h5, ob 3 [.ref h22, .ref h23, .ref h24, .ref h25, .ref h26, .ref h27, .ref h28, .ref h29, .int h5f8, .int h5f9, .int h5f10, .int h5f11]), (h9, ob 2 [.ref h1, .int h9f1]), (h12, aJ (k 1) 9 anJ), (h13, aJ (k 1) 9 anJ), (h14, aJ (k 1) 36 anJ), (h22, aJ (k 1) 900 anJ), (h23, aI (k 0) 100 anI), (h24, aI (k 0) 100 anI), (h25, aI (k 0) 100 anI), (h26, aI (k 0) 400 anI), (h27, aI (k 0) 256 (rgI (-1) 99)), (h28, aI (k 0) 100 (rgI (-1) 99)), (h29, aJ (k 1) 60 anJ), (h1, ob 4 [.int h1f0, .int h1f1, .int h1f2, .ref h14])]) (as := []) (zcS (As := [.int (-1)]) (rest := []) (Tc := []) hx hb hml hown hU hK hT [] rfl (by decide) (cX10_asLong_5cc16 l D k _ ((-1)) (by have := li_m1; omega)) w572 w570 w571 w63 hdX10_asLong ⟨rfl, rfl⟩ ⟨Nat.le_of_ble_eq_true rfl, Nat.le_of_ble_eq_true rfl⟩ rfl hl.1 (Nat.le_of_ble_eq_true rfl) dX10_form_13 ⟨Nat.le_of_ble_eq_true rfl, Nat.le_of_ble_eq_true rfl⟩) hT hS hA [] [0, 1, 2, 3, 4, 5, 6, 7, 8, 9, 10, 11, 12, 13, 14] rfl rfl rfl (by decide) (by decide) (fun r6 H locs hB J hS => ?_)
    obtain ⟨b_r6, hT1⟩ := hB
    have hT := J _ hT1
    have hT : TP D A [(h0, ob 7 [.ref h1, .ref h2, .int h0f2, .ref h3, .ref h4, .ref h5, .int h0f6, .ref h6, .int h0f8, .ref h7, .ref h8, .int h0f11, .ref h9, .ref h10, .ref h11, .ref h12, .ref h13]), (h5, ob 3 [.ref h22, .ref h23, .ref h24, .ref h25, .ref h26, .ref h27, .ref h28, .ref h29, .int h5f8, .int h5f9, .int h5f10, .int h5f11]), (h9, ob 2 [.ref h1, .int h9f1]), (h12, aJ (k 1) 9 anJ), (h13, aJ (k 1) 9 anJ), (h14, aJ (k 1) 36 anJ), (h22, aJ (k 1) 900 anJ), (h23, aI (k 0) 100 anI), (h24, aI (k 0) 100 anI), (h25, aI (k 0) 100 anI), (h26, aI (k 0) 400 anI), (h27, aI (k 0) 256 (rgI (-1) 99)), (h28, aI (k 0) 100 (rgI (-1) 99)), (h29, aJ (k 1) 60 anJ), (h1, ob 4 [.int h1f0, .int h1f1, .int h1f2, .ref h14])] H := hT
    exact tz_retL (B := B_cX10_form_13164 D k h0 h1 h5 h9 h12 h13 h14 h22 h23 h24 h25 h26 h27 h28 h29 h2 h3 h4 h6 h7 h8 h10 h11 x1 x2 h0f2 h0f6 h0f8 h0f11 h1f0 h1f1 h1f2 h5f8 h5f9 h5f10 h5f11 h9f1) (v := r6) hQ hx hb hr hlocks hS (Nat.le_of_ble_eq_true rfl) (Nat.le_of_ble_eq_true rfl) dX10_form_16 (⟨h0f6, h5f8, h5f9, h5f10, h5f11, h9f1, (by omega), (by omega), (by omega), (by omega), (by omega), (by omega), (hT.sub [0, 14, 1, 2, 3, 4, 5, 6, 7, 8, 9, 10, 11, 12, 13] (by decide) rfl)⟩)
  · skip
    have hT := J _ hT1
    have hT : TP D A [(h0, ob 7 [.ref h1, .ref h2, .int h0f2, .ref h3, .ref h4, .ref h5, .int h0f6, .ref h6, .int h0f8, .ref h7, .ref h8, .int h0f11, .ref h9, .ref h10, .ref h11, .ref h12, .ref h13]), (h5, ob 3 [.ref h22, .ref h23, .ref h24, .ref h25, .ref h26, .ref h27, .ref h28, .ref h29, .int h5f8, .int h5f9, .int h5f10, .int h5f11]), (h9, ob 2 [.ref h1, .int h9f1]), (h12, aJ (k 1) 9 anJ), (h13, aJ (k 1) 9 anJ), (h14, aJ (k 1) 36 anJ), (h22, aJ (k 1) 900 anJ), (h23, aI (k 0) 100 anI), (h24, aI (k 0) 100 anI), (h25, aI (k 0) 100 anI), (h26, aI (k 0) 400 anI), (h27, aI (k 0) 256 (rgI (-1) 99)), (h28, aI (k 0) 100 (rgI (-1) 99)), (h29, aJ (k 1) 60 anJ), (h1, ob 4 [.int h1f0, .int h1f1, .int h1f2, .ref h14])] H := hT
    refine lv_if_ne (tgt := 17) hx hb dX10_form_9 (by decide) (fun _ => ?_) (fun cc => absurd cc (by decide +kernel))
    refine lv_aload_n hx hb dX10_form_17 rfl (lv_at hl 0 rfl) ?_
    refine tcV (Tc := [(h0, ob 7 [.ref h1, .ref h2, .int h0f2, .ref h3, .ref h4, .ref h5, .int h0f6, .ref h6, .int h0f8, .ref h7, .ref h8, .int h0f11, .ref h9, .ref h10, .ref h11, .ref h12, .ref h13]), (h1, ob 4 [.int h1f0, .int h1f1, .int h1f2, .ref h14]), (h5, ob 3 [.ref h22, .ref h23, .ref h24, .ref h25, .ref h26, .ref h27, .ref h28, .ref h29, .int h5f8, .int h5f9, .int h5f10, .int h5f11]), (h9, ob 2 [.ref h1, .int h9f1]), (h12, aJ (k 1) 9 anJ), (h14, aJ (k 1) 36 anJ), (h22, aJ (k 1) 900 anJ), (h23, aI (k 0) 100 anI), (h24, aI (k 0) 100 anI), (h25, aI (k 0) 100 anI), (h26, aI (k 0) 400 anI), (h27, aI (k 0) 256 (rgI (-1) 99)), (h28, aI (k 0) 100 (rgI (-1) 99)), (h29, aJ (k 1) 60 anJ)]) (Tr := [(h13, aJ (k 1) 9 anJ)]) (as := [h0, h1, h5, h9, h12, h14, h22, h23, h24, h25, h26, h27, h28, h29]) (zcV (q0 := 0) (ci := 7) (As := []) (rest := []) (Tc := [(h0, ob 7 [.ref h1, .ref h2, .int h0f2, .ref h3, .ref h4, .ref h5, .int h0f6, .ref h6, .int h0f8, .ref h7, .ref h8, .int h0f11, .ref h9, .ref h10, .ref h11, .ref h12, .ref h13]), (h1, ob 4 [.int h1f0, .int h1f1, .int h1f2, .ref h14]), (h5, ob 3 [.ref h22, .ref h23, .ref h24, .ref h25, .ref h26, .ref h27, .ref h28, .ref h29, .int h5f8, .int h5f9, .int h5f10, .int h5f11]), (h9, ob 2 [.ref h1, .int h9f1]), (h12, aJ (k 1) 9 anJ), (h14, aJ (k 1) 36 anJ), (h22, aJ (k 1) 900 anJ), (h23, aI (k 0) 100 anI), (h24, aI (k 0) 100 anI), (h25, aI (k 0) 100 anI), (h26, aI (k 0) 400 anI), (h27, aI (k 0) 256 (rgI (-1) 99)), (h28, aI (k 0) 100 (rgI (-1) 99)), (h29, aJ (k 1) 60 anJ)]) hx hb hml hown hU hK hT rfl rfl [0, 14, 1, 2, 3, 5, 6, 7, 8, 9, 10, 11, 12, 13] rfl (by decide) (cX10_listAll_d24ec l D k _ h0 h1 h5 h9 h12 h14 h22 h23 h24 h25 h26 h27 h28 h29 h2 h3 h4 h6 h7 h8 h10 h11 h13 h0f2 h0f6 h0f8 h0f11 h1f0 h1f1 h1f2 h5f8 h5f9 h5f10 h5f11 h9f1 (by omega) (by omega) (by omega) (by omega) (by omega) (by omega) (by omega) (by omega) (by omega) (by omega) (by omega)) w492 w489 w491 w10 w63 hdX10_listAll ⟨rfl, rfl⟩ ⟨Nat.le_of_ble_eq_true rfl, Nat.le_of_ble_eq_true rfl⟩ rfl hl.1 (Nat.le_of_ble_eq_true rfl) dX10_form_18 ⟨Nat.le_of_ble_eq_true rfl, Nat.le_of_ble_eq_true rfl⟩) hT hS hA [0, 14, 1, 2, 3, 5, 6, 7, 8, 9, 10, 11, 12, 13] [4] rfl rfl rfl (by decide) (by decide) (fun H locs hB J hS => ?_)
    obtain ⟨v9, v10, v11, v12, v13, v14, b_v9, b_v10, b_v11, b_v12, b_v13, b_v14, hT1⟩ := hB
    have hT := J _ hT1
    have hT : TP D A [(h13, aJ (k 1) 9 anJ), (h0, ob 7 [.ref h1, .ref h2, .int h0f2, .ref h3, .ref h4, .ref h5, .int v9, .ref h6, .int h0f8, .ref h7, .ref h8, .int h0f11, .ref h9, .ref h10, .ref h11, .ref h12, .ref h13]), (h1, ob 4 [.int h1f0, .int h1f1, .int h1f2, .ref h14]), (h5, ob 3 [.ref h22, .ref h23, .ref h24, .ref h25, .ref h26, .ref h27, .ref h28, .ref h29, .int v10, .int v11, .int v12, .int v13]), (h9, ob 2 [.ref h1, .int v14]), (h12, aJ (k 1) 9 anJ), (h14, aJ (k 1) 36 anJ), (h22, aJ (k 1) 900 anJ), (h23, aI (k 0) 100 anI), (h24, aI (k 0) 100 anI), (h25, aI (k 0) 100 anI), (h26, aI (k 0) 400 anI), (h27, aI (k 0) 256 (rgI (-1) 99)), (h28, aI (k 0) 100 (rgI (-1) 99)), (h29, aJ (k 1) 60 anJ)] H := hT
    refine lv_aload_n hx hb dX10_form_21 rfl (lv_at hl 0 rfl) ?_
    refine tz_get (ci := 7) (v := .ref h5) (C := RX10) (F := TX10) (N := 17) hx hb hU iX10 hown hK hT 1 rfl rfl 5 (by decide) w254 (fun _ h9 => h9) rfl dX10_form_22 ?_
    refine tz_get (ci := 3) (v := .int v13) (C := RX4) (F := TX4) (N := 12) hx hb hU iX4 hown hK hT 3 rfl rfl 11 (by decide) w168 (fun _ h9 => h9) rfl dX10_form_25 ?_
    refine lv_if_ne (tgt := 37) hx hb dX10_form_28 (by decide) (fun c_15 => ?_) (fun c_15 => ?_)
    · skip
      have c_15 := ni_ne c_15 rfl li_0
      refine lv_aload_n hx hb dX10_form_37 rfl (lv_at hl 0 rfl) ?_
      refine tcI (Tc := [(h0, ob 7 [.ref h1, .ref h2, .int h0f2, .ref h3, .ref h4, .ref h5, .int v9, .ref h6, .int h0f8, .ref h7, .ref h8, .int h0f11, .ref h9, .ref h10, .ref h11, .ref h12, .ref h13]), (h1, ob 4 [.int h1f0, .int h1f1, .int h1f2, .ref h14]), (h5, ob 3 [.ref h22, .ref h23, .ref h24, .ref h25, .ref h26, .ref h27, .ref h28, .ref h29, .int v10, .int v11, .int v12, .int v13]), (h12, aJ (k 1) 9 anJ), (h13, aJ (k 1) 9 anJ), (h22, aJ (k 1) 900 anJ)]) (Tr := [(h9, ob 2 [.ref h1, .int v14]), (h14, aJ (k 1) 36 anJ), (h23, aI (k 0) 100 anI), (h24, aI (k 0) 100 anI), (h25, aI (k 0) 100 anI), (h26, aI (k 0) 400 anI), (h27, aI (k 0) 256 (rgI (-1) 99)), (h28, aI (k 0) 100 (rgI (-1) 99)), (h29, aJ (k 1) 60 anJ)]) (as := [h0, h1, h5, h12, h13, h22]) (zcV (q0 := 1) (ci := 7) (As := []) (rest := []) (Tc := [(h0, ob 7 [.ref h1, .ref h2, .int h0f2, .ref h3, .ref h4, .ref h5, .int v9, .ref h6, .int h0f8, .ref h7, .ref h8, .int h0f11, .ref h9, .ref h10, .ref h11, .ref h12, .ref h13]), (h1, ob 4 [.int h1f0, .int h1f1, .int h1f2, .ref h14]), (h5, ob 3 [.ref h22, .ref h23, .ref h24, .ref h25, .ref h26, .ref h27, .ref h28, .ref h29, .int v10, .int v11, .int v12, .int v13]), (h12, aJ (k 1) 9 anJ), (h13, aJ (k 1) 9 anJ), (h22, aJ (k 1) 900 anJ)]) hx hb hml hown hU hK hT rfl rfl [1, 2, 3, 5, 0, 7] rfl (by decide) (cX10_addUpForm_bdb42 l D k _ h0 h1 h5 h12 h13 h22 h2 h3 h4 h6 h7 h8 h9 h10 h11 h14 h23 h24 h25 h26 h27 h28 h29 h0f2 v9 h0f8 h0f11 h1f0 h1f1 h1f2 v10 v11 v12 v13 (by omega) (by omega) (by omega) (by omega) (by omega) (by omega) (by omega) (by omega) (by omega) (by omega)) w616 w613 w615 w17 w63 hdX10_addUpForm ⟨rfl, rfl⟩ ⟨Nat.le_of_ble_eq_true rfl, Nat.le_of_ble_eq_true rfl⟩ rfl hl.1 (Nat.le_of_ble_eq_true rfl) dX10_form_38 ⟨Nat.le_of_ble_eq_true rfl, Nat.le_of_ble_eq_true rfl⟩) hT hS hA [1, 2, 3, 5, 0, 7] [4, 6, 8, 9, 10, 11, 12, 13, 14] rfl rfl rfl (by decide) (by decide) (fun r16 H locs hB J hS => ?_)
      obtain ⟨b_r16, hT1⟩ := hB
      have hT := J _ hT1
      have hT : TP D A [(h9, ob 2 [.ref h1, .int v14]), (h14, aJ (k 1) 36 anJ), (h23, aI (k 0) 100 anI), (h24, aI (k 0) 100 anI), (h25, aI (k 0) 100 anI), (h26, aI (k 0) 400 anI), (h27, aI (k 0) 256 (rgI (-1) 99)), (h28, aI (k 0) 100 (rgI (-1) 99)), (h29, aJ (k 1) 60 anJ), (h0, ob 7 [.ref h1, .ref h2, .int h0f2, .ref h3, .ref h4, .ref h5, .int v9, .ref h6, .int h0f8, .ref h7, .ref h8, .int h0f11, .ref h9, .ref h10, .ref h11, .ref h12, .ref h13]), (h1, ob 4 [.int h1f0, .int h1f1, .int h1f2, .ref h14]), (h5, ob 3 [.ref h22, .ref h23, .ref h24, .ref h25, .ref h26, .ref h27, .ref h28, .ref h29, .int v10, .int v11, .int v12, .int v13]), (h12, aJ (k 1) 9 anJ), (h13, aJ (k 1) 9 anJ), (h22, aJ (k 1) 900 anJ)] H := hT
      refine lv_if_ne (tgt := 50) hx hb dX10_form_41 (by decide) (fun c_17 => ?_) (fun c_17 => ?_)
      · skip
        have c_17 := ni_ne c_17 rfl li_0
        refine lv_aload_n hx hb dX10_form_50 rfl (lv_at hl 0 rfl) ?_
        refine tz_get (ci := 7) (v := .ref h12) (C := RX10) (F := TX10) (N := 17) hx hb hU iX10 hown hK hT 9 rfl rfl 15 (by decide) w264 (fun _ h9 => h9) rfl dX10_form_51 ?_
        refine lv_aload_n hx hb dX10_form_54 rfl (lv_at hl 0 rfl) ?_
        refine tz_get (ci := 7) (v := .ref h1) (C := RX10) (F := TX10) (N := 17) hx hb hU iX10 hown hK hT 9 rfl rfl 0 (by decide) w249 (fun _ h9 => h9) rfl dX10_form_55 ?_
        refine tcI (Tc := [(h1, ob 4 [.int h1f0, .int h1f1, .int h1f2, .ref h14])]) (Tr := [(h9, ob 2 [.ref h1, .int v14]), (h14, aJ (k 1) 36 anJ), (h23, aI (k 0) 100 anI), (h24, aI (k 0) 100 anI), (h25, aI (k 0) 100 anI), (h26, aI (k 0) 400 anI), (h27, aI (k 0) 256 (rgI (-1) 99)), (h28, aI (k 0) 100 (rgI (-1) 99)), (h29, aJ (k 1) 60 anJ), (h0, ob 7 [.ref h1, .ref h2, .int h0f2, .ref h3, .ref h4, .ref h5, .int v9, .ref h6, .int h0f8, .ref h7, .ref h8, .int h0f11, .ref h9, .ref h10, .ref h11, .ref h12, .ref h13]), (h5, ob 3 [.ref h22, .ref h23, .ref h24, .ref h25, .ref h26, .ref h27, .ref h28, .ref h29, .int v10, .int v11, .int v12, .int v13]), (h12, aJ (k 1) 9 anJ), (h13, aJ (k 1) 9 anJ), (h22, aJ (k 1) 900 anJ)]) (as := [h1]) (zcV (q0 := 10) (ci := 4) (As := []) (rest := [.ref h12]) (Tc := [(h1, ob 4 [.int h1f0, .int h1f1, .int h1f2, .ref h14])]) hx hb hml hown hU hK hT rfl rfl [10] rfl (by decide) (cX5_cellCount_642c9 l D k _ h1 h14 h1f0 h1f1 h1f2 (by omega) (by omega)) w385 w382 w383 w384 w64 hdX5_cellCount ⟨rfl, rfl⟩ ⟨Nat.le_of_ble_eq_true rfl, Nat.le_of_ble_eq_true rfl⟩ rfl hl.1 (Nat.le_of_ble_eq_true rfl) dX10_form_58 ⟨Nat.le_of_ble_eq_true rfl, Nat.le_of_ble_eq_true rfl⟩) hT hS hA [10] [0, 1, 2, 3, 4, 5, 6, 7, 8, 9, 11, 12, 13, 14] rfl rfl rfl (by decide) (by decide) (fun r18 H locs hB J hS => ?_)
        obtain ⟨b_r18, hT1⟩ := hB
        have hT := J _ hT1
        have hT : TP D A [(h9, ob 2 [.ref h1, .int v14]), (h14, aJ (k 1) 36 anJ), (h23, aI (k 0) 100 anI), (h24, aI (k 0) 100 anI), (h25, aI (k 0) 100 anI), (h26, aI (k 0) 400 anI), (h27, aI (k 0) 256 (rgI (-1) 99)), (h28, aI (k 0) 100 (rgI (-1) 99)), (h29, aJ (k 1) 60 anJ), (h0, ob 7 [.ref h1, .ref h2, .int h0f2, .ref h3, .ref h4, .ref h5, .int v9, .ref h6, .int h0f8, .ref h7, .ref h8, .int h0f11, .ref h9, .ref h10, .ref h11, .ref h12, .ref h13]), (h5, ob 3 [.ref h22, .ref h23, .ref h24, .ref h25, .ref h26, .ref h27, .ref h28, .ref h29, .int v10, .int v11, .int v12, .int v13]), (h12, aJ (k 1) 9 anJ), (h13, aJ (k 1) 9 anJ), (h22, aJ (k 1) 900 anJ), (h1, ob 4 [.int h1f0, .int h1f1, .int h1f2, .ref h14])] H := hT
        refine tcL (Tc := [(h12, aJ (k 1) 9 anJ)]) (Tr := [(h9, ob 2 [.ref h1, .int v14]), (h14, aJ (k 1) 36 anJ), (h23, aI (k 0) 100 anI), (h24, aI (k 0) 100 anI), (h25, aI (k 0) 100 anI), (h26, aI (k 0) 400 anI), (h27, aI (k 0) 256 (rgI (-1) 99)), (h28, aI (k 0) 100 (rgI (-1) 99)), (h29, aJ (k 1) 60 anJ), (h0, ob 7 [.ref h1, .ref h2, .int h0f2, .ref h3, .ref h4, .ref h5, .int v9, .ref h6, .int h0f8, .ref h7, .ref h8, .int h0f11, .ref h9, .ref h10, .ref h11, .ref h12, .ref h13]), (h5, ob 3 [.ref h22, .ref h23, .ref h24, .ref h25, .ref h26, .ref h27, .ref h28, .ref h29, .int v10, .int v11, .int v12, .int v13]), (h13, aJ (k 1) 9 anJ), (h22, aJ (k 1) 900 anJ), (h1, ob 4 [.int h1f0, .int h1f1, .int h1f2, .ref h14])]) (as := [h12]) (zcS (As := [.ref h12, .int r18]) (rest := []) (Tc := [(h12, aJ (k 1) 9 anJ)]) hx hb hml hown hU hK hT [11] rfl (by decide) (cX7_commonDivisor_2e0d5 l D k _ h12 r18 (by omega)) w623 w621 w622 w74 hdX7_commonDivisor ⟨rfl, rfl⟩ ⟨Nat.le_of_ble_eq_true rfl, Nat.le_of_ble_eq_true rfl⟩ rfl hl.1 (Nat.le_of_ble_eq_true rfl) dX10_form_61 ⟨Nat.le_of_ble_eq_true rfl, Nat.le_of_ble_eq_true rfl⟩) hT hS hA [11] [0, 1, 2, 3, 4, 5, 6, 7, 8, 9, 10, 12, 13, 14] rfl rfl rfl (by decide) (by decide) (fun r19 H locs hB J hS => ?_)
        have hT1 := hB
        have hT := J _ hT1
        have hT : TP D A [(h9, ob 2 [.ref h1, .int v14]), (h14, aJ (k 1) 36 anJ), (h23, aI (k 0) 100 anI), (h24, aI (k 0) 100 anI), (h25, aI (k 0) 100 anI), (h26, aI (k 0) 400 anI), (h27, aI (k 0) 256 (rgI (-1) 99)), (h28, aI (k 0) 100 (rgI (-1) 99)), (h29, aJ (k 1) 60 anJ), (h0, ob 7 [.ref h1, .ref h2, .int h0f2, .ref h3, .ref h4, .ref h5, .int v9, .ref h6, .int h0f8, .ref h7, .ref h8, .int h0f11, .ref h9, .ref h10, .ref h11, .ref h12, .ref h13]), (h5, ob 3 [.ref h22, .ref h23, .ref h24, .ref h25, .ref h26, .ref h27, .ref h28, .ref h29, .int v10, .int v11, .int v12, .int v13]), (h13, aJ (k 1) 9 anJ), (h22, aJ (k 1) 900 anJ), (h1, ob 4 [.int h1f0, .int h1f1, .int h1f2, .ref h14]), (h12, aJ (k 1) 9 anJ)] H := hT
        refine lv_lstore_n (lv' := [(3, .long r19), (0, .ref h0), (1, .int x1), (2, .int x2)]) hx hb dX10_form_64 rfl hl (by decide) rfl (fun ls hl => ?_)
        refine lv_aload_n hx hb dX10_form_65 rfl (lv_at hl 1 rfl) ?_
        refine tz_get (ci := 7) (v := .ref h12) (C := RX10) (F := TX10) (N := 17) hx hb hU iX10 hown hK hT 9 rfl rfl 15 (by decide) w264 (fun _ h9 => h9) rfl dX10_form_66 ?_
        refine lv_iload_n hx hb dX10_form_69 rfl (lv_at hl 2 rfl) ?_
        refine lv_aload_n hx hb dX10_form_70 rfl (lv_at hl 1 rfl) ?_
        refine tz_get (ci := 7) (v := .ref h1) (C := RX10) (F := TX10) (N := 17) hx hb hU iX10 hown hK hT 9 rfl rfl 0 (by decide) w249 (fun _ h9 => h9) rfl dX10_form_71 ?_
        refine tz_get (ci := 4) (v := .int h1f0) (C := RX5) (F := TX5) (N := 4) hx hb hU iX5 hown hK hT 13 rfl rfl 0 (by decide) w93 (fun _ h9 => h9) rfl dX10_form_74 ?_
        refine lv_imul hx hb dX10_form_77 (lv_topi (fun v20 e_v20 => ?_))
        have e_v20 := ai_mm (la := 0) (ua := 2) (lb := 1) (ub := 3) e_v20 rfl rfl (by omega) (by decide)
        refine lv_iload_n hx hb dX10_form_78 rfl (lv_at hl 3 rfl) ?_
        refine lv_iadd hx hb dX10_form_79 (lv_topi (fun v21 e_v21 => ?_))
        have e_v21 := ai_add e_v21 rfl rfl (by omega)
        refine tz_lald hx hb hK hT 14 rfl (by omega) dX10_form_80 (fun v22 e_v22 => ?_)
        clear e_v22
        refine lv_lconst (v := 1) hx hb dX10_form_81 (by decide) ?_
        refine lv_lload_n hx hb dX10_form_82 rfl (lv_at hl 0 rfl) ?_
        have q_q24 := ll_1
        refine tcL (Tc := []) (Tr := [(h9, ob 2 [.ref h1, .int v14]), (h14, aJ (k 1) 36 anJ), (h23, aI (k 0) 100 anI), (h24, aI (k 0) 100 anI), (h25, aI (k 0) 100 anI), (h26, aI (k 0) 400 anI), (h27, aI (k 0) 256 (rgI (-1) 99)), (h28, aI (k 0) 100 (rgI (-1) 99)), (h29, aJ (k 1) 60 anJ), (h0, ob 7 [.ref h1, .ref h2, .int h0f2, .ref h3, .ref h4, .ref h5, .int v9, .ref h6, .int h0f8, .ref h7, .ref h8, .int h0f11, .ref h9, .ref h10, .ref h11, .ref h12, .ref h13]), (h5, ob 3 [.ref h22, .ref h23, .ref h24, .ref h25, .ref h26, .ref h27, .ref h28, .ref h29, .int v10, .int v11, .int v12, .int v13]), (h13, aJ (k 1) 9 anJ), (h22, aJ (k 1) 900 anJ), (h1, ob 4 [.int h1f0, .int h1f1, .int h1f2, .ref h14]), (h12, aJ (k 1) 9 anJ)]) (as := []) (zcS (As := [.long 1, .long r19]) (rest := [.long v22]) (Tc := []) hx hb hml hown hU hK hT [] rfl (by decide) (cJ9_max_f86c9_eaa09 l D k _ (1) r19 (by have := ll_1; omega)) w629 w627 w628 w77 hdJ9_max_f86c9 ⟨rfl, rfl⟩ ⟨Nat.le_of_ble_eq_true rfl, Nat.le_of_ble_eq_true rfl⟩ rfl hl.1 (Nat.le_of_ble_eq_true rfl) dX10_form_83 ⟨Nat.le_of_ble_eq_true rfl, Nat.le_of_ble_eq_true rfl⟩) hT hS hA [] [0, 1, 2, 3, 4, 5, 6, 7, 8, 9, 10, 11, 12, 13, 14] rfl rfl rfl (by decide) (by decide) (fun r23 H locs hB J hS => ?_)
        rcases hB with ⟨c_25, rfl, hT1⟩ | ⟨c_26, rfl, hT1⟩
        · skip
          have hT := J _ hT1
          have hT : TP D A [(h9, ob 2 [.ref h1, .int v14]), (h14, aJ (k 1) 36 anJ), (h23, aI (k 0) 100 anI), (h24, aI (k 0) 100 anI), (h25, aI (k 0) 100 anI), (h26, aI (k 0) 400 anI), (h27, aI (k 0) 256 (rgI (-1) 99)), (h28, aI (k 0) 100 (rgI (-1) 99)), (h29, aJ (k 1) 60 anJ), (h0, ob 7 [.ref h1, .ref h2, .int h0f2, .ref h3, .ref h4, .ref h5, .int v9, .ref h6, .int h0f8, .ref h7, .ref h8, .int h0f11, .ref h9, .ref h10, .ref h11, .ref h12, .ref h13]), (h5, ob 3 [.ref h22, .ref h23, .ref h24, .ref h25, .ref h26, .ref h27, .ref h28, .ref h29, .int v10, .int v11, .int v12, .int v13]), (h13, aJ (k 1) 9 anJ), (h22, aJ (k 1) 900 anJ), (h1, ob 4 [.int h1f0, .int h1f1, .int h1f2, .ref h14]), (h12, aJ (k 1) 9 anJ)] H := hT
          refine lv_ldiv hx hb dX10_form_86 (nz64 (y := r19.toInt) rfl (by omega)) (lv_topl (fun v27 e_v27 => ?_))
          exact tz_retL (B := B_cX10_form_13164 D k h0 h1 h5 h9 h12 h13 h14 h22 h23 h24 h25 h26 h27 h28 h29 h2 h3 h4 h6 h7 h8 h10 h11 x1 x2 h0f2 h0f6 h0f8 h0f11 h1f0 h1f1 h1f2 h5f8 h5f9 h5f10 h5f11 h9f1) (v := v27) hQ hx hb hr hlocks hS (Nat.le_of_ble_eq_true rfl) (Nat.le_of_ble_eq_true rfl) dX10_form_87 (⟨v9, v10, v11, v12, v13, v14, (by omega), (by omega), (by omega), (by omega), (by omega), (by omega), (hT.sub [9, 13, 10, 0, 14, 11, 1, 12, 2, 3, 4, 5, 6, 7, 8] (by decide) rfl)⟩)
        · skip
          have hT := J _ hT1
          have hT : TP D A [(h9, ob 2 [.ref h1, .int v14]), (h14, aJ (k 1) 36 anJ), (h23, aI (k 0) 100 anI), (h24, aI (k 0) 100 anI), (h25, aI (k 0) 100 anI), (h26, aI (k 0) 400 anI), (h27, aI (k 0) 256 (rgI (-1) 99)), (h28, aI (k 0) 100 (rgI (-1) 99)), (h29, aJ (k 1) 60 anJ), (h0, ob 7 [.ref h1, .ref h2, .int h0f2, .ref h3, .ref h4, .ref h5, .int v9, .ref h6, .int h0f8, .ref h7, .ref h8, .int h0f11, .ref h9, .ref h10, .ref h11, .ref h12, .ref h13]), (h5, ob 3 [.ref h22, .ref h23, .ref h24, .ref h25, .ref h26, .ref h27, .ref h28, .ref h29, .int v10, .int v11, .int v12, .int v13]), (h13, aJ (k 1) 9 anJ), (h22, aJ (k 1) 900 anJ), (h1, ob 4 [.int h1f0, .int h1f1, .int h1f2, .ref h14]), (h12, aJ (k 1) 9 anJ)] H := hT
          refine lv_ldiv hx hb dX10_form_86 (by decide +kernel) (lv_topl (fun v28 e_v28 => ?_))
          exact tz_retL (B := B_cX10_form_13164 D k h0 h1 h5 h9 h12 h13 h14 h22 h23 h24 h25 h26 h27 h28 h29 h2 h3 h4 h6 h7 h8 h10 h11 x1 x2 h0f2 h0f6 h0f8 h0f11 h1f0 h1f1 h1f2 h5f8 h5f9 h5f10 h5f11 h9f1) (v := v28) hQ hx hb hr hlocks hS (Nat.le_of_ble_eq_true rfl) (Nat.le_of_ble_eq_true rfl) dX10_form_87 (⟨v9, v10, v11, v12, v13, v14, (by omega), (by omega), (by omega), (by omega), (by omega), (by omega), (hT.sub [9, 13, 10, 0, 14, 11, 1, 12, 2, 3, 4, 5, 6, 7, 8] (by decide) rfl)⟩)
      · skip
        have c_17 := ni_eq c_17 rfl li_0
        refine lv_bipush (v := (-16)) hx hb dX10_form_44 (by decide) ?_
        have q_q30 := li_m16
        refine tcL (Tc := []) (Tr := [(h9, ob 2 [.ref h1, .int v14]), (h14, aJ (k 1) 36 anJ), (h23, aI (k 0) 100 anI), (h24, aI (k 0) 100 anI), (h25, aI (k 0) 100 anI), (h26, aI (k 0) 400 anI), (h27, aI (k 0) 256 (rgI (-1) 99)), (h28, aI (k 0) 100 (rgI (-1) 99)), (h29, aJ (k 1) 60 anJ), (h0, ob 7 [.ref h1, .ref h2, .int h0f2, .ref h3, .ref h4, .ref h5, .int v9, .ref h6, .int h0f8, .ref h7, .ref h8, .int h0f11, .ref h9, .ref h10, .ref h11, .ref h12, .ref h13]), (h1, ob 4 [.int h1f0, .int h1f1, .int h1f2, .ref h14]), (h5, ob 3 [.ref h22, .ref h23, .ref h24, .ref h25, .ref h26, .ref h27, .ref h28, .ref h29, .int v10, .int v11, .int v12, .int v13]), (h12, aJ (k 1) 9 anJ), (h13, aJ (k 1) 9 anJ), (h22, aJ (k 1) 900 anJ)]) (as := []) (zcS (As := [.int (-16)]) (rest := []) (Tc := []) hx hb hml hown hU hK hT [] rfl (by decide) (cX10_asLong_5cc16 l D k _ ((-16)) (by have := li_m16; omega)) w572 w570 w571 w63 hdX10_asLong ⟨rfl, rfl⟩ ⟨Nat.le_of_ble_eq_true rfl, Nat.le_of_ble_eq_true rfl⟩ rfl hl.1 (Nat.le_of_ble_eq_true rfl) dX10_form_46 ⟨Nat.le_of_ble_eq_true rfl, Nat.le_of_ble_eq_true rfl⟩) hT hS hA [] [0, 1, 2, 3, 4, 5, 6, 7, 8, 9, 10, 11, 12, 13, 14] rfl rfl rfl (by decide) (by decide) (fun r29 H locs hB J hS => ?_)
        obtain ⟨b_r29, hT1⟩ := hB
        have hT := J _ hT1
        have hT : TP D A [(h9, ob 2 [.ref h1, .int v14]), (h14, aJ (k 1) 36 anJ), (h23, aI (k 0) 100 anI), (h24, aI (k 0) 100 anI), (h25, aI (k 0) 100 anI), (h26, aI (k 0) 400 anI), (h27, aI (k 0) 256 (rgI (-1) 99)), (h28, aI (k 0) 100 (rgI (-1) 99)), (h29, aJ (k 1) 60 anJ), (h0, ob 7 [.ref h1, .ref h2, .int h0f2, .ref h3, .ref h4, .ref h5, .int v9, .ref h6, .int h0f8, .ref h7, .ref h8, .int h0f11, .ref h9, .ref h10, .ref h11, .ref h12, .ref h13]), (h1, ob 4 [.int h1f0, .int h1f1, .int h1f2, .ref h14]), (h5, ob 3 [.ref h22, .ref h23, .ref h24, .ref h25, .ref h26, .ref h27, .ref h28, .ref h29, .int v10, .int v11, .int v12, .int v13]), (h12, aJ (k 1) 9 anJ), (h13, aJ (k 1) 9 anJ), (h22, aJ (k 1) 900 anJ)] H := hT
        exact tz_retL (B := B_cX10_form_13164 D k h0 h1 h5 h9 h12 h13 h14 h22 h23 h24 h25 h26 h27 h28 h29 h2 h3 h4 h6 h7 h8 h10 h11 x1 x2 h0f2 h0f6 h0f8 h0f11 h1f0 h1f1 h1f2 h5f8 h5f9 h5f10 h5f11 h9f1) (v := r29) hQ hx hb hr hlocks hS (Nat.le_of_ble_eq_true rfl) (Nat.le_of_ble_eq_true rfl) dX10_form_49 (⟨v9, v10, v11, v12, v13, v14, (by omega), (by omega), (by omega), (by omega), (by omega), (by omega), (hT.sub [9, 10, 11, 0, 12, 13, 1, 14, 2, 3, 4, 5, 6, 7, 8] (by decide) rfl)⟩)
    · skip
      have c_15 := ni_eq c_15 rfl li_0
      refine lv_bipush (v := (-3)) hx hb dX10_form_31 (by decide) ?_
      have q_q32 := li_m3
      refine tcL (Tc := []) (Tr := [(h13, aJ (k 1) 9 anJ), (h0, ob 7 [.ref h1, .ref h2, .int h0f2, .ref h3, .ref h4, .ref h5, .int v9, .ref h6, .int h0f8, .ref h7, .ref h8, .int h0f11, .ref h9, .ref h10, .ref h11, .ref h12, .ref h13]), (h1, ob 4 [.int h1f0, .int h1f1, .int h1f2, .ref h14]), (h5, ob 3 [.ref h22, .ref h23, .ref h24, .ref h25, .ref h26, .ref h27, .ref h28, .ref h29, .int v10, .int v11, .int v12, .int v13]), (h9, ob 2 [.ref h1, .int v14]), (h12, aJ (k 1) 9 anJ), (h14, aJ (k 1) 36 anJ), (h22, aJ (k 1) 900 anJ), (h23, aI (k 0) 100 anI), (h24, aI (k 0) 100 anI), (h25, aI (k 0) 100 anI), (h26, aI (k 0) 400 anI), (h27, aI (k 0) 256 (rgI (-1) 99)), (h28, aI (k 0) 100 (rgI (-1) 99)), (h29, aJ (k 1) 60 anJ)]) (as := []) (zcS (As := [.int (-3)]) (rest := []) (Tc := []) hx hb hml hown hU hK hT [] rfl (by decide) (cX10_asLong_5cc16 l D k _ ((-3)) (by have := li_m3; omega)) w572 w570 w571 w63 hdX10_asLong ⟨rfl, rfl⟩ ⟨Nat.le_of_ble_eq_true rfl, Nat.le_of_ble_eq_true rfl⟩ rfl hl.1 (Nat.le_of_ble_eq_true rfl) dX10_form_33 ⟨Nat.le_of_ble_eq_true rfl, Nat.le_of_ble_eq_true rfl⟩) hT hS hA [] [0, 1, 2, 3, 4, 5, 6, 7, 8, 9, 10, 11, 12, 13, 14] rfl rfl rfl (by decide) (by decide) (fun r31 H locs hB J hS => ?_)
      obtain ⟨b_r31, hT1⟩ := hB
      have hT := J _ hT1
      have hT : TP D A [(h13, aJ (k 1) 9 anJ), (h0, ob 7 [.ref h1, .ref h2, .int h0f2, .ref h3, .ref h4, .ref h5, .int v9, .ref h6, .int h0f8, .ref h7, .ref h8, .int h0f11, .ref h9, .ref h10, .ref h11, .ref h12, .ref h13]), (h1, ob 4 [.int h1f0, .int h1f1, .int h1f2, .ref h14]), (h5, ob 3 [.ref h22, .ref h23, .ref h24, .ref h25, .ref h26, .ref h27, .ref h28, .ref h29, .int v10, .int v11, .int v12, .int v13]), (h9, ob 2 [.ref h1, .int v14]), (h12, aJ (k 1) 9 anJ), (h14, aJ (k 1) 36 anJ), (h22, aJ (k 1) 900 anJ), (h23, aI (k 0) 100 anI), (h24, aI (k 0) 100 anI), (h25, aI (k 0) 100 anI), (h26, aI (k 0) 400 anI), (h27, aI (k 0) 256 (rgI (-1) 99)), (h28, aI (k 0) 100 (rgI (-1) 99)), (h29, aJ (k 1) 60 anJ)] H := hT
      exact tz_retL (B := B_cX10_form_13164 D k h0 h1 h5 h9 h12 h13 h14 h22 h23 h24 h25 h26 h27 h28 h29 h2 h3 h4 h6 h7 h8 h10 h11 x1 x2 h0f2 h0f6 h0f8 h0f11 h1f0 h1f1 h1f2 h5f8 h5f9 h5f10 h5f11 h9f1) (v := r31) hQ hx hb hr hlocks hS (Nat.le_of_ble_eq_true rfl) (Nat.le_of_ble_eq_true rfl) dX10_form_36 (⟨v9, v10, v11, v12, v13, v14, (by omega), (by omega), (by omega), (by omega), (by omega), (by omega), (hT.sub [1, 2, 3, 4, 5, 0, 6, 7, 8, 9, 10, 11, 12, 13, 14] (by decide) rfl)⟩)
abbrev Rm_cX10_isSheet_f635c : Room := { frames := 0, cells := 0, slots := 0, locals := 0 }
abbrev B_cX10_isSheet_f635c (D : va_G) (k : Nat → ClassId) (x0 : Int32) (A : Nat → Prop) (r : Int32) (H : Heap) : Prop := (0 = r ∧ TP D A [] H) ∨ (0 ≤ x0.toInt ∧ x0.toInt < 4 ∧ 1 = r ∧ TP D A [] H)
set_option maxHeartbeats 4000000 in
set_option maxRecDepth 100000 in
theorem cX10_isSheet_f635c (l : Launch) (D : va_G) (k : Nat → ClassId) (sz : Nat) (x0 : Int32) : Met l yX10_isSheet (Cond.code yX10_isSheet cX10_isSheet 1 (some .boolean) :: uw) Rm_cX10_isSheet_f635c (pT D k sz [.int x0] []) (qI (B_cX10_isSheet_f635c D k x0 (zA [] sz)) (zA [] sz)) 0 0 (zA [] sz) := by
  refine tz_begin (as := []) (Qc := fun A => qI (B_cX10_isSheet_f635c D k x0 A) A) (by decide +kernel) rfl (Nat.le_of_ble_eq_true rfl) ?_
  intro p e s m args below meth c ls A Q hx hb hr hml hown hlocks hin hU hK hT hS hA hl hQ
  have hl : lv_has ls 1 [(0, .int x0)] := hl
  have hT : TP D A [] s.heap := hT
  refine lv_iload_n hx hb dX10_isSheet_0 rfl (lv_at hl 0 rfl) ?_
  refine lv_if_lt (tgt := 13) hx hb dX10_isSheet_1 (by decide) (fun c_1 => ?_) (fun c_1 => ?_)
  · skip
    have c_1 := ni_lt c_1 rfl li_0
    refine lv_iconst (v := 0) hx hb dX10_isSheet_13 (by decide) ?_
    exact tz_retZ (B := B_cX10_isSheet_f635c D k x0) (v := 0) hQ hx hb hr hlocks hS (Nat.le_of_ble_eq_true rfl) (Nat.le_of_ble_eq_true rfl) dX10_isSheet_14 (by have := li_0; omega) (Or.inl ⟨rfl, hT⟩)
  · skip
    have c_1 := ni_nlt c_1 rfl li_0
    refine lv_iload_n hx hb dX10_isSheet_4 rfl (lv_at hl 0 rfl) ?_
    refine lv_iconst (v := 4) hx hb dX10_isSheet_5 (by decide) ?_
    refine lv_icmp_ge (tgt := 13) hx hb dX10_isSheet_6 (by decide) (fun c_2 => ?_) (fun c_2 => ?_)
    · skip
      have c_2 := ni_le c_2 li_4 rfl
      refine lv_iconst (v := 0) hx hb dX10_isSheet_13 (by decide) ?_
      exact tz_retZ (B := B_cX10_isSheet_f635c D k x0) (v := 0) hQ hx hb hr hlocks hS (Nat.le_of_ble_eq_true rfl) (Nat.le_of_ble_eq_true rfl) dX10_isSheet_14 (by have := li_0; omega) (Or.inl ⟨rfl, hT⟩)
    · skip
      have c_2 := ni_nle c_2 li_4 rfl
      refine lv_iconst (v := 1) hx hb dX10_isSheet_9 (by decide) ?_
      refine lv_goto (tgt := 14) hx hb dX10_isSheet_10 (by decide) ?_
      exact tz_retZ (B := B_cX10_isSheet_f635c D k x0) (v := 1) hQ hx hb hr hlocks hS (Nat.le_of_ble_eq_true rfl) (Nat.le_of_ble_eq_true rfl) dX10_isSheet_14 (by have := li_1; omega) (Or.inr (⟨(by have := li_1; omega), (by have := li_1; omega), rfl, hT⟩))
abbrev Rm_cX6_isMissing_56a93 : Room := { frames := 0, cells := 0, slots := 0, locals := 0 }
abbrev B_cX6_isMissing_56a93 (D : va_G) (k : Nat → ClassId) (h0 h1 : Nat) (h0f0 : Int32) (h0f1 : Int32) (A : Nat → Prop) (r : Int32) (H : Heap) : Prop := (h0f0.toInt ≠ (-1) ∧ 0 = r ∧ TP D A [(h0, ob 5 [.int h0f0, .int h0f1, .ref h1])] H) ∨ (1 = r ∧ TP D A [(h0, ob 5 [.int h0f0, .int h0f1, .ref h1])] H)
set_option maxHeartbeats 4000000 in
set_option maxRecDepth 100000 in
theorem cX6_isMissing_56a93 (l : Launch) (D : va_G) (k : Nat → ClassId) (sz : Nat) (h0 h1 : Nat) (h0f0 : Int32) (h0f1 : Int32) (b_h0f0 : (-1) ≤ h0f0.toInt ∧ h0f0.toInt ≤ 2) (b_h0f1 : 0 ≤ h0f1.toInt ∧ h0f1.toInt ≤ 40) : Met l yX6_isMissing (Cond.code yX6_isMissing cX6_isMissing 1 (some .boolean) :: uw) Rm_cX6_isMissing_56a93 (pT D k sz [.ref h0] [(h0, ob 5 [.int h0f0, .int h0f1, .ref h1])]) (qI (B_cX6_isMissing_56a93 D k h0 h1 h0f0 h0f1 (zA [h0] sz)) (zA [h0] sz)) 0 0 (zA [h0] sz) := by
  refine tz_begin (as := [h0]) (Qc := fun A => qI (B_cX6_isMissing_56a93 D k h0 h1 h0f0 h0f1 A) A) (by decide +kernel) rfl (Nat.le_of_ble_eq_true rfl) ?_
  intro p e s m args below meth c ls A Q hx hb hr hml hown hlocks hin hU hK hT hS hA hl hQ
  have hl : lv_has ls 1 [(0, .ref h0)] := hl
  have hT : TP D A [(h0, ob 5 [.int h0f0, .int h0f1, .ref h1])] s.heap := hT
  refine lv_aload_n hx hb dX6_isMissing_0 rfl (lv_at hl 0 rfl) ?_
  refine tz_get (ci := 5) (v := .int h0f0) (C := RX6) (F := TX6) (N := 3) hx hb hU iX6 hown hK hT 0 rfl rfl 0 (by decide) w237 (fun _ h9 => h9) rfl dX6_isMissing_1 ?_
  refine lv_iconst (v := (-1)) hx hb dX6_isMissing_4 (by decide) ?_
  refine lv_icmp_ne (tgt := 12) hx hb dX6_isMissing_5 (by decide) (fun c_1 => ?_) (fun c_1 => ?_)
  · skip
    have c_1 := ni_ne c_1 rfl li_m1
    refine lv_iconst (v := 0) hx hb dX6_isMissing_12 (by decide) ?_
    exact tz_retZ (B := B_cX6_isMissing_56a93 D k h0 h1 h0f0 h0f1) (v := 0) hQ hx hb hr hlocks hS (Nat.le_of_ble_eq_true rfl) (Nat.le_of_ble_eq_true rfl) dX6_isMissing_13 (by have := li_0; omega) (Or.inl ⟨(by have := li_0; omega), rfl, hT⟩)
  · skip
    have c_1 := ni_eq c_1 rfl li_m1
    refine lv_iconst (v := 1) hx hb dX6_isMissing_8 (by decide) ?_
    refine lv_goto (tgt := 13) hx hb dX6_isMissing_9 (by decide) ?_
    exact tz_retZ (B := B_cX6_isMissing_56a93 D k h0 h1 h0f0 h0f1) (v := 1) hQ hx hb hr hlocks hS (Nat.le_of_ble_eq_true rfl) (Nat.le_of_ble_eq_true rfl) dX6_isMissing_13 (by have := li_1; omega) (Or.inr (⟨rfl, hT⟩))
abbrev Rm_cX5_cellCount_f3983 : Room := { frames := 0, cells := 0, slots := 0, locals := 0 }
abbrev B_cX5_cellCount_f3983 (D : va_G) (k : Nat → ClassId) (h0 h1 : Nat) (h0f0 : Int32) (h0f1 : Int32) (h0f2 : Int32) (A : Nat → Prop) (r : Int32) (H : Heap) : Prop := (h0f0.toInt = 1 ∧ (1 ≤ r.toInt ∧ r.toInt ≤ 1) ∧ TP D A [(h0, ob 4 [.int h0f0, .int h0f1, .int h0f2, .ref h1])] H) ∨ (h0f0.toInt = 2 ∧ (4 ≤ r.toInt ∧ r.toInt ≤ 4) ∧ TP D A [(h0, ob 4 [.int h0f0, .int h0f1, .int h0f2, .ref h1])] H) ∨ (h0f0.toInt = 3 ∧ (9 ≤ r.toInt ∧ r.toInt ≤ 9) ∧ TP D A [(h0, ob 4 [.int h0f0, .int h0f1, .int h0f2, .ref h1])] H)
set_option maxHeartbeats 4000000 in
set_option maxRecDepth 100000 in
theorem cX5_cellCount_f3983 (l : Launch) (D : va_G) (k : Nat → ClassId) (sz : Nat) (h0 h1 : Nat) (h0f0 : Int32) (h0f1 : Int32) (h0f2 : Int32) (b_h0f0 : 1 ≤ h0f0.toInt ∧ h0f0.toInt ≤ 3) (b_h0f1 : 0 ≤ h0f1.toInt ∧ h0f1.toInt ≤ 4) : Met l yX5_cellCount (Cond.code yX5_cellCount cX5_cellCount 1 (some .int) :: uw) Rm_cX5_cellCount_f3983 (pT D k sz [.ref h0] [(h0, ob 4 [.int h0f0, .int h0f1, .int h0f2, .ref h1])]) (qI (B_cX5_cellCount_f3983 D k h0 h1 h0f0 h0f1 h0f2 (zA [h0] sz)) (zA [h0] sz)) 0 0 (zA [h0] sz) := by
  refine tz_begin (as := [h0]) (Qc := fun A => qI (B_cX5_cellCount_f3983 D k h0 h1 h0f0 h0f1 h0f2 A) A) (by decide +kernel) rfl (Nat.le_of_ble_eq_true rfl) ?_
  intro p e s m args below meth c ls A Q hx hb hr hml hown hlocks hin hU hK hT hS hA hl hQ
  have hl : lv_has ls 1 [(0, .ref h0)] := hl
  have hT : TP D A [(h0, ob 4 [.int h0f0, .int h0f1, .int h0f2, .ref h1])] s.heap := hT
  rcases (show h0f0.toInt = 1 ∨ h0f0.toInt = 2 ∨ h0f0.toInt = 3 by omega) with hq1 | hq1 | hq1
  · skip
    refine lv_aload_n hx hb dX5_cellCount_0 rfl (lv_at hl 0 rfl) ?_
    refine tz_get (ci := 4) (v := .int h0f0) (C := RX5) (F := TX5) (N := 4) hx hb hU iX5 hown hK hT 0 rfl rfl 0 (by decide) w92 (fun _ h9 => h9) rfl dX5_cellCount_1 ?_
    refine lv_aload_n hx hb dX5_cellCount_4 rfl (lv_at hl 0 rfl) ?_
    refine tz_get (ci := 4) (v := .int h0f0) (C := RX5) (F := TX5) (N := 4) hx hb hU iX5 hown hK hT 0 rfl rfl 0 (by decide) w92 (fun _ h9 => h9) rfl dX5_cellCount_5 ?_
    refine lv_imul hx hb dX5_cellCount_8 (lv_topi (fun v2 e_v2 => ?_))
    have e_v2 := ai_mul e_v2 hq1 hq1 (by omega)
    exact tz_retI (B := B_cX5_cellCount_f3983 D k h0 h1 h0f0 h0f1 h0f2) (v := v2) hQ hx hb hr hlocks hS (Nat.le_of_ble_eq_true rfl) (Nat.le_of_ble_eq_true rfl) dX5_cellCount_9 (Or.inl ⟨(by omega), (by omega), hT⟩)
  · skip
    refine lv_aload_n hx hb dX5_cellCount_0 rfl (lv_at hl 0 rfl) ?_
    refine tz_get (ci := 4) (v := .int h0f0) (C := RX5) (F := TX5) (N := 4) hx hb hU iX5 hown hK hT 0 rfl rfl 0 (by decide) w92 (fun _ h9 => h9) rfl dX5_cellCount_1 ?_
    refine lv_aload_n hx hb dX5_cellCount_4 rfl (lv_at hl 0 rfl) ?_
    refine tz_get (ci := 4) (v := .int h0f0) (C := RX5) (F := TX5) (N := 4) hx hb hU iX5 hown hK hT 0 rfl rfl 0 (by decide) w92 (fun _ h9 => h9) rfl dX5_cellCount_5 ?_
    refine lv_imul hx hb dX5_cellCount_8 (lv_topi (fun v3 e_v3 => ?_))
    have e_v3 := ai_mul e_v3 hq1 hq1 (by omega)
    exact tz_retI (B := B_cX5_cellCount_f3983 D k h0 h1 h0f0 h0f1 h0f2) (v := v3) hQ hx hb hr hlocks hS (Nat.le_of_ble_eq_true rfl) (Nat.le_of_ble_eq_true rfl) dX5_cellCount_9 (Or.inr (Or.inl ⟨(by omega), (by omega), hT⟩))
  · skip
    refine lv_aload_n hx hb dX5_cellCount_0 rfl (lv_at hl 0 rfl) ?_
    refine tz_get (ci := 4) (v := .int h0f0) (C := RX5) (F := TX5) (N := 4) hx hb hU iX5 hown hK hT 0 rfl rfl 0 (by decide) w92 (fun _ h9 => h9) rfl dX5_cellCount_1 ?_
    refine lv_aload_n hx hb dX5_cellCount_4 rfl (lv_at hl 0 rfl) ?_
    refine tz_get (ci := 4) (v := .int h0f0) (C := RX5) (F := TX5) (N := 4) hx hb hU iX5 hown hK hT 0 rfl rfl 0 (by decide) w92 (fun _ h9 => h9) rfl dX5_cellCount_5 ?_
    refine lv_imul hx hb dX5_cellCount_8 (lv_topi (fun v4 e_v4 => ?_))
    have e_v4 := ai_mul e_v4 hq1 hq1 (by omega)
    exact tz_retI (B := B_cX5_cellCount_f3983 D k h0 h1 h0f0 h0f1 h0f2) (v := v4) hQ hx hb hr hlocks hS (Nat.le_of_ble_eq_true rfl) (Nat.le_of_ble_eq_true rfl) dX5_cellCount_9 (Or.inr (Or.inr (⟨(by omega), (by omega), hT⟩)))
abbrev Rm_cX6_isOutside_cc85b : Room := { frames := 0, cells := 0, slots := 0, locals := 0 }
abbrev B_cX6_isOutside_cc85b (D : va_G) (k : Nat → ClassId) (h0 h1 : Nat) (x1 : Int32) (x2 : Int32) (h0f0 : Int32) (h0f1 : Int32) (A : Nat → Prop) (r : Int32) (H : Heap) : Prop := (1 = r ∧ TP D A [(h0, ob 5 [.int h0f0, .int h0f1, .ref h1])] H) ∨ (0 ≤ x2.toInt ∧ 0 ≤ x1.toInt ∧ x1.toInt + x2.toInt ≤ h0f1.toInt ∧ 0 = r ∧ TP D A [(h0, ob 5 [.int h0f0, .int h0f1, .ref h1])] H)
set_option maxHeartbeats 4000000 in
set_option maxRecDepth 100000 in
theorem cX6_isOutside_cc85b (l : Launch) (D : va_G) (k : Nat → ClassId) (sz : Nat) (h0 h1 : Nat) (x1 : Int32) (x2 : Int32) (h0f0 : Int32) (h0f1 : Int32) (b_h0f0 : 0 ≤ h0f0.toInt ∧ h0f0.toInt ≤ 2) (b_h0f1 : 0 ≤ h0f1.toInt ∧ h0f1.toInt ≤ 40) : Met l yX6_isOutside (Cond.code yX6_isOutside cX6_isOutside 3 (some .boolean) :: uw) Rm_cX6_isOutside_cc85b (pT D k sz [.ref h0, .int x1, .int x2] [(h0, ob 5 [.int h0f0, .int h0f1, .ref h1])]) (qI (B_cX6_isOutside_cc85b D k h0 h1 x1 x2 h0f0 h0f1 (zA [h0] sz)) (zA [h0] sz)) 0 0 (zA [h0] sz) := by
  refine tz_begin (as := [h0]) (Qc := fun A => qI (B_cX6_isOutside_cc85b D k h0 h1 x1 x2 h0f0 h0f1 A) A) (by decide +kernel) rfl (Nat.le_of_ble_eq_true rfl) ?_
  intro p e s m args below meth c ls A Q hx hb hr hml hown hlocks hin hU hK hT hS hA hl hQ
  have hl : lv_has ls 3 [(0, .ref h0), (1, .int x1), (2, .int x2)] := hl
  have hT : TP D A [(h0, ob 5 [.int h0f0, .int h0f1, .ref h1])] s.heap := hT
  refine lv_iload_n hx hb dX6_isOutside_0 rfl (lv_at hl 2 rfl) ?_
  refine lv_if_lt (tgt := 22) hx hb dX6_isOutside_1 (by decide) (fun c_1 => ?_) (fun c_1 => ?_)
  · skip
    have c_1 := ni_lt c_1 rfl li_0
    refine lv_iconst (v := 1) hx hb dX6_isOutside_22 (by decide) ?_
    refine lv_goto (tgt := 27) hx hb dX6_isOutside_23 (by decide) ?_
    exact tz_retZ (B := B_cX6_isOutside_cc85b D k h0 h1 x1 x2 h0f0 h0f1) (v := 1) hQ hx hb hr hlocks hS (Nat.le_of_ble_eq_true rfl) (Nat.le_of_ble_eq_true rfl) dX6_isOutside_27 (by have := li_1; omega) (Or.inl ⟨rfl, hT⟩)
  · skip
    have c_1 := ni_nlt c_1 rfl li_0
    refine lv_iload_n hx hb dX6_isOutside_4 rfl (lv_at hl 1 rfl) ?_
    refine lv_if_lt (tgt := 22) hx hb dX6_isOutside_5 (by decide) (fun c_2 => ?_) (fun c_2 => ?_)
    · skip
      have c_2 := ni_lt c_2 rfl li_0
      refine lv_iconst (v := 1) hx hb dX6_isOutside_22 (by decide) ?_
      refine lv_goto (tgt := 27) hx hb dX6_isOutside_23 (by decide) ?_
      exact tz_retZ (B := B_cX6_isOutside_cc85b D k h0 h1 x1 x2 h0f0 h0f1) (v := 1) hQ hx hb hr hlocks hS (Nat.le_of_ble_eq_true rfl) (Nat.le_of_ble_eq_true rfl) dX6_isOutside_27 (by have := li_1; omega) (Or.inl ⟨rfl, hT⟩)
    · skip
      have c_2 := ni_nlt c_2 rfl li_0
      refine lv_iload_n hx hb dX6_isOutside_8 rfl (lv_at hl 1 rfl) ?_
      obtain ⟨v3, e_v3⟩ : ∃ x : Int64, x1.toInt64 = x := ⟨_, rfl⟩
      refine lv_i2l (v := v3) hx hb dX6_isOutside_9 e_v3 ?_
      have e_v3 := ai_i2l e_v3 rfl
      refine lv_iload_n hx hb dX6_isOutside_10 rfl (lv_at hl 2 rfl) ?_
      obtain ⟨v4, e_v4⟩ : ∃ x : Int64, x2.toInt64 = x := ⟨_, rfl⟩
      refine lv_i2l (v := v4) hx hb dX6_isOutside_11 e_v4 ?_
      have e_v4 := ai_i2l e_v4 rfl
      refine lv_ladd hx hb dX6_isOutside_12 (lv_topl (fun v5 e_v5 => ?_))
      have e_v5 := al_add e_v5 rfl rfl (by omega)
      refine lv_aload_n hx hb dX6_isOutside_13 rfl (lv_at hl 0 rfl) ?_
      refine tz_get (ci := 5) (v := .int h0f1) (C := RX6) (F := TX6) (N := 3) hx hb hU iX6 hown hK hT 0 rfl rfl 1 (by decide) w239 (fun _ h9 => h9) rfl dX6_isOutside_14 ?_
      obtain ⟨v6, e_v6⟩ : ∃ x : Int64, h0f1.toInt64 = x := ⟨_, rfl⟩
      refine lv_i2l (v := v6) hx hb dX6_isOutside_17 e_v6 ?_
      have e_v6 := ai_i2l e_v6 rfl
      refine W.lcmp hx hb dX6_isOutside_18 ?_
      refine lv_if_le (tgt := 26) hx hb dX6_isOutside_19 (by decide) (fun c_7 => ?_) (fun c_7 => ?_)
      · skip
        have c_7 := nl_le c_7 rfl rfl
        refine lv_iconst (v := 0) hx hb dX6_isOutside_26 (by decide) ?_
        exact tz_retZ (B := B_cX6_isOutside_cc85b D k h0 h1 x1 x2 h0f0 h0f1) (v := 0) hQ hx hb hr hlocks hS (Nat.le_of_ble_eq_true rfl) (Nat.le_of_ble_eq_true rfl) dX6_isOutside_27 (by have := li_0; omega) (Or.inr (⟨(by have := li_0; omega), (by have := li_0; omega), (by have := li_0; omega), rfl, hT⟩))
      · skip
        have c_7 := nl_nle c_7 rfl rfl
        refine lv_iconst (v := 1) hx hb dX6_isOutside_22 (by decide) ?_
        refine lv_goto (tgt := 27) hx hb dX6_isOutside_23 (by decide) ?_
        exact tz_retZ (B := B_cX6_isOutside_cc85b D k h0 h1 x1 x2 h0f0 h0f1) (v := 1) hQ hx hb hr hlocks hS (Nat.le_of_ble_eq_true rfl) (Nat.le_of_ble_eq_true rfl) dX6_isOutside_27 (by have := li_1; omega) (Or.inl ⟨rfl, hT⟩)
abbrev Rm_cX10_refusalOfTable_450e2 : Room := { frames := 1, cells := 0, slots := 0, locals := 22 }
abbrev B_cX10_refusalOfTable_450e2 (D : va_G) (k : Nat → ClassId) (h0 h1 h4 h17 h18 h19 h20 h2 h3 h5 h6 h7 h8 h9 h10 h11 h12 h13 h37 h38 h39 h40 : Nat) (x1 : Int32) (x2 : Int32) (h0f2 : Int32) (h0f6 : Int32) (h0f8 : Int32) (h0f11 : Int32) (h1f0 : Int32) (h1f1 : Int32) (h1f2 : Int32) (h17f0 : Int32) (h17f1 : Int32) (h18f0 : Int32) (h18f1 : Int32) (h19f0 : Int32) (h19f1 : Int32) (h20f0 : Int32) (h20f1 : Int32) (A : Nat → Prop) (r : Int32) (H : Heap) : Prop := ((-1) = r ∧ TP D A [(h0, ob 7 [.ref h1, .ref h2, .int h0f2, .ref h3, .ref h4, .ref h5, .int h0f6, .ref h6, .int h0f8, .null, .ref h7, .int h0f11, .ref h8, .ref h9, .ref h10, .ref h11, .ref h12]), (h1, ob 4 [.int h1f0, .int h1f1, .int h1f2, .ref h13]), (h4, aQ (k 3) 4 (q4 h17 h18 h19 h20)), (h17, ob 5 [.int h17f0, .int h17f1, .ref h37]), (h18, ob 5 [.int h18f0, .int h18f1, .ref h38]), (h19, ob 5 [.int h19f0, .int h19f1, .ref h39]), (h20, ob 5 [.int h20f0, .int h20f1, .ref h40])] H) ∨ ((-12) = r ∧ TP D A [(h0, ob 7 [.ref h1, .ref h2, .int h0f2, .ref h3, .ref h4, .ref h5, .int h0f6, .ref h6, .int h0f8, .null, .ref h7, .int h0f11, .ref h8, .ref h9, .ref h10, .ref h11, .ref h12]), (h1, ob 4 [.int h1f0, .int h1f1, .int h1f2, .ref h13]), (h4, aQ (k 3) 4 (q4 h17 h18 h19 h20)), (h17, ob 5 [.int h17f0, .int h17f1, .ref h37]), (h18, ob 5 [.int h18f0, .int h18f1, .ref h38]), (h19, ob 5 [.int h19f0, .int h19f1, .ref h39]), (h20, ob 5 [.int h20f0, .int h20f1, .ref h40])] H) ∨ (∃ o0 : Int32, (1 ≤ o0.toInt ∧ o0.toInt ≤ 1) ∧ 0 ≤ x1.toInt ∧ x1.toInt < 4 ∧ x1.toInt = 0 ∧ h17f0.toInt ≠ (-1) ∧ h17f0.toInt ≤ 0 ∧ h1f0.toInt = 1 ∧ 0 ≤ o0.toInt ∧ 0 ≤ x2.toInt ∧ x2.toInt + o0.toInt ≤ h17f1.toInt ∧ 0 = r ∧ TP D A [(h0, ob 7 [.ref h1, .ref h2, .int h0f2, .ref h3, .ref h4, .ref h5, .int h0f6, .ref h6, .int h0f8, .null, .ref h7, .int h0f11, .ref h8, .ref h9, .ref h10, .ref h11, .ref h12]), (h1, ob 4 [.int h1f0, .int h1f1, .int h1f2, .ref h13]), (h4, aQ (k 3) 4 (q4 h17 h18 h19 h20)), (h17, ob 5 [.int h17f0, .int h17f1, .ref h37]), (h18, ob 5 [.int h18f0, .int h18f1, .ref h38]), (h19, ob 5 [.int h19f0, .int h19f1, .ref h39]), (h20, ob 5 [.int h20f0, .int h20f1, .ref h40])] H) ∨ (∃ o0 : Int32, (4 ≤ o0.toInt ∧ o0.toInt ≤ 4) ∧ 0 ≤ x1.toInt ∧ x1.toInt < 4 ∧ x1.toInt = 0 ∧ h17f0.toInt ≠ (-1) ∧ h17f0.toInt ≤ 0 ∧ h1f0.toInt = 2 ∧ 0 ≤ o0.toInt ∧ 0 ≤ x2.toInt ∧ x2.toInt + o0.toInt ≤ h17f1.toInt ∧ 0 = r ∧ TP D A [(h0, ob 7 [.ref h1, .ref h2, .int h0f2, .ref h3, .ref h4, .ref h5, .int h0f6, .ref h6, .int h0f8, .null, .ref h7, .int h0f11, .ref h8, .ref h9, .ref h10, .ref h11, .ref h12]), (h1, ob 4 [.int h1f0, .int h1f1, .int h1f2, .ref h13]), (h4, aQ (k 3) 4 (q4 h17 h18 h19 h20)), (h17, ob 5 [.int h17f0, .int h17f1, .ref h37]), (h18, ob 5 [.int h18f0, .int h18f1, .ref h38]), (h19, ob 5 [.int h19f0, .int h19f1, .ref h39]), (h20, ob 5 [.int h20f0, .int h20f1, .ref h40])] H) ∨ (∃ o0 : Int32, (9 ≤ o0.toInt ∧ o0.toInt ≤ 9) ∧ 0 ≤ x1.toInt ∧ x1.toInt < 4 ∧ x1.toInt = 0 ∧ h17f0.toInt ≠ (-1) ∧ h17f0.toInt ≤ 0 ∧ h1f0.toInt = 3 ∧ 0 ≤ o0.toInt ∧ 0 ≤ x2.toInt ∧ x2.toInt + o0.toInt ≤ h17f1.toInt ∧ 0 = r ∧ TP D A [(h0, ob 7 [.ref h1, .ref h2, .int h0f2, .ref h3, .ref h4, .ref h5, .int h0f6, .ref h6, .int h0f8, .null, .ref h7, .int h0f11, .ref h8, .ref h9, .ref h10, .ref h11, .ref h12]), (h1, ob 4 [.int h1f0, .int h1f1, .int h1f2, .ref h13]), (h4, aQ (k 3) 4 (q4 h17 h18 h19 h20)), (h17, ob 5 [.int h17f0, .int h17f1, .ref h37]), (h18, ob 5 [.int h18f0, .int h18f1, .ref h38]), (h19, ob 5 [.int h19f0, .int h19f1, .ref h39]), (h20, ob 5 [.int h20f0, .int h20f1, .ref h40])] H) ∨ ((-13) = r ∧ TP D A [(h0, ob 7 [.ref h1, .ref h2, .int h0f2, .ref h3, .ref h4, .ref h5, .int h0f6, .ref h6, .int h0f8, .null, .ref h7, .int h0f11, .ref h8, .ref h9, .ref h10, .ref h11, .ref h12]), (h1, ob 4 [.int h1f0, .int h1f1, .int h1f2, .ref h13]), (h4, aQ (k 3) 4 (q4 h17 h18 h19 h20)), (h17, ob 5 [.int h17f0, .int h17f1, .ref h37]), (h18, ob 5 [.int h18f0, .int h18f1, .ref h38]), (h19, ob 5 [.int h19f0, .int h19f1, .ref h39]), (h20, ob 5 [.int h20f0, .int h20f1, .ref h40])] H) ∨ ((-11) = r ∧ TP D A [(h0, ob 7 [.ref h1, .ref h2, .int h0f2, .ref h3, .ref h4, .ref h5, .int h0f6, .ref h6, .int h0f8, .null, .ref h7, .int h0f11, .ref h8, .ref h9, .ref h10, .ref h11, .ref h12]), (h1, ob 4 [.int h1f0, .int h1f1, .int h1f2, .ref h13]), (h4, aQ (k 3) 4 (q4 h17 h18 h19 h20)), (h17, ob 5 [.int h17f0, .int h17f1, .ref h37]), (h18, ob 5 [.int h18f0, .int h18f1, .ref h38]), (h19, ob 5 [.int h19f0, .int h19f1, .ref h39]), (h20, ob 5 [.int h20f0, .int h20f1, .ref h40])] H) ∨ (∃ o0 : Int32, (1 ≤ o0.toInt ∧ o0.toInt ≤ 1) ∧ 0 ≤ x1.toInt ∧ x1.toInt < 4 ∧ x1.toInt = 1 ∧ h18f0.toInt ≠ (-1) ∧ h18f0.toInt ≤ 0 ∧ h1f0.toInt = 1 ∧ 0 ≤ o0.toInt ∧ 0 ≤ x2.toInt ∧ x2.toInt + o0.toInt ≤ h18f1.toInt ∧ 0 = r ∧ TP D A [(h0, ob 7 [.ref h1, .ref h2, .int h0f2, .ref h3, .ref h4, .ref h5, .int h0f6, .ref h6, .int h0f8, .null, .ref h7, .int h0f11, .ref h8, .ref h9, .ref h10, .ref h11, .ref h12]), (h1, ob 4 [.int h1f0, .int h1f1, .int h1f2, .ref h13]), (h4, aQ (k 3) 4 (q4 h17 h18 h19 h20)), (h17, ob 5 [.int h17f0, .int h17f1, .ref h37]), (h18, ob 5 [.int h18f0, .int h18f1, .ref h38]), (h19, ob 5 [.int h19f0, .int h19f1, .ref h39]), (h20, ob 5 [.int h20f0, .int h20f1, .ref h40])] H) ∨ (∃ o0 : Int32, (4 ≤ o0.toInt ∧ o0.toInt ≤ 4) ∧ 0 ≤ x1.toInt ∧ x1.toInt < 4 ∧ x1.toInt = 1 ∧ h18f0.toInt ≠ (-1) ∧ h18f0.toInt ≤ 0 ∧ h1f0.toInt = 2 ∧ 0 ≤ o0.toInt ∧ 0 ≤ x2.toInt ∧ x2.toInt + o0.toInt ≤ h18f1.toInt ∧ 0 = r ∧ TP D A [(h0, ob 7 [.ref h1, .ref h2, .int h0f2, .ref h3, .ref h4, .ref h5, .int h0f6, .ref h6, .int h0f8, .null, .ref h7, .int h0f11, .ref h8, .ref h9, .ref h10, .ref h11, .ref h12]), (h1, ob 4 [.int h1f0, .int h1f1, .int h1f2, .ref h13]), (h4, aQ (k 3) 4 (q4 h17 h18 h19 h20)), (h17, ob 5 [.int h17f0, .int h17f1, .ref h37]), (h18, ob 5 [.int h18f0, .int h18f1, .ref h38]), (h19, ob 5 [.int h19f0, .int h19f1, .ref h39]), (h20, ob 5 [.int h20f0, .int h20f1, .ref h40])] H) ∨ (∃ o0 : Int32, (9 ≤ o0.toInt ∧ o0.toInt ≤ 9) ∧ 0 ≤ x1.toInt ∧ x1.toInt < 4 ∧ x1.toInt = 1 ∧ h18f0.toInt ≠ (-1) ∧ h18f0.toInt ≤ 0 ∧ h1f0.toInt = 3 ∧ 0 ≤ o0.toInt ∧ 0 ≤ x2.toInt ∧ x2.toInt + o0.toInt ≤ h18f1.toInt ∧ 0 = r ∧ TP D A [(h0, ob 7 [.ref h1, .ref h2, .int h0f2, .ref h3, .ref h4, .ref h5, .int h0f6, .ref h6, .int h0f8, .null, .ref h7, .int h0f11, .ref h8, .ref h9, .ref h10, .ref h11, .ref h12]), (h1, ob 4 [.int h1f0, .int h1f1, .int h1f2, .ref h13]), (h4, aQ (k 3) 4 (q4 h17 h18 h19 h20)), (h17, ob 5 [.int h17f0, .int h17f1, .ref h37]), (h18, ob 5 [.int h18f0, .int h18f1, .ref h38]), (h19, ob 5 [.int h19f0, .int h19f1, .ref h39]), (h20, ob 5 [.int h20f0, .int h20f1, .ref h40])] H) ∨ (∃ o0 : Int32, (1 ≤ o0.toInt ∧ o0.toInt ≤ 1) ∧ 0 ≤ x1.toInt ∧ x1.toInt < 4 ∧ x1.toInt = 2 ∧ h19f0.toInt ≠ (-1) ∧ h19f0.toInt ≤ 0 ∧ h1f0.toInt = 1 ∧ 0 ≤ o0.toInt ∧ 0 ≤ x2.toInt ∧ x2.toInt + o0.toInt ≤ h19f1.toInt ∧ 0 = r ∧ TP D A [(h0, ob 7 [.ref h1, .ref h2, .int h0f2, .ref h3, .ref h4, .ref h5, .int h0f6, .ref h6, .int h0f8, .null, .ref h7, .int h0f11, .ref h8, .ref h9, .ref h10, .ref h11, .ref h12]), (h1, ob 4 [.int h1f0, .int h1f1, .int h1f2, .ref h13]), (h4, aQ (k 3) 4 (q4 h17 h18 h19 h20)), (h17, ob 5 [.int h17f0, .int h17f1, .ref h37]), (h18, ob 5 [.int h18f0, .int h18f1, .ref h38]), (h19, ob 5 [.int h19f0, .int h19f1, .ref h39]), (h20, ob 5 [.int h20f0, .int h20f1, .ref h40])] H) ∨ (∃ o0 : Int32, (4 ≤ o0.toInt ∧ o0.toInt ≤ 4) ∧ 0 ≤ x1.toInt ∧ x1.toInt < 4 ∧ x1.toInt = 2 ∧ h19f0.toInt ≠ (-1) ∧ h19f0.toInt ≤ 0 ∧ h1f0.toInt = 2 ∧ 0 ≤ o0.toInt ∧ 0 ≤ x2.toInt ∧ x2.toInt + o0.toInt ≤ h19f1.toInt ∧ 0 = r ∧ TP D A [(h0, ob 7 [.ref h1, .ref h2, .int h0f2, .ref h3, .ref h4, .ref h5, .int h0f6, .ref h6, .int h0f8, .null, .ref h7, .int h0f11, .ref h8, .ref h9, .ref h10, .ref h11, .ref h12]), (h1, ob 4 [.int h1f0, .int h1f1, .int h1f2, .ref h13]), (h4, aQ (k 3) 4 (q4 h17 h18 h19 h20)), (h17, ob 5 [.int h17f0, .int h17f1, .ref h37]), (h18, ob 5 [.int h18f0, .int h18f1, .ref h38]), (h19, ob 5 [.int h19f0, .int h19f1, .ref h39]), (h20, ob 5 [.int h20f0, .int h20f1, .ref h40])] H) ∨ (∃ o0 : Int32, (9 ≤ o0.toInt ∧ o0.toInt ≤ 9) ∧ 0 ≤ x1.toInt ∧ x1.toInt < 4 ∧ x1.toInt = 2 ∧ h19f0.toInt ≠ (-1) ∧ h19f0.toInt ≤ 0 ∧ h1f0.toInt = 3 ∧ 0 ≤ o0.toInt ∧ 0 ≤ x2.toInt ∧ x2.toInt + o0.toInt ≤ h19f1.toInt ∧ 0 = r ∧ TP D A [(h0, ob 7 [.ref h1, .ref h2, .int h0f2, .ref h3, .ref h4, .ref h5, .int h0f6, .ref h6, .int h0f8, .null, .ref h7, .int h0f11, .ref h8, .ref h9, .ref h10, .ref h11, .ref h12]), (h1, ob 4 [.int h1f0, .int h1f1, .int h1f2, .ref h13]), (h4, aQ (k 3) 4 (q4 h17 h18 h19 h20)), (h17, ob 5 [.int h17f0, .int h17f1, .ref h37]), (h18, ob 5 [.int h18f0, .int h18f1, .ref h38]), (h19, ob 5 [.int h19f0, .int h19f1, .ref h39]), (h20, ob 5 [.int h20f0, .int h20f1, .ref h40])] H) ∨ (∃ o0 : Int32, (1 ≤ o0.toInt ∧ o0.toInt ≤ 1) ∧ 0 ≤ x1.toInt ∧ x1.toInt < 4 ∧ x1.toInt = 3 ∧ h20f0.toInt ≠ (-1) ∧ h20f0.toInt ≤ 0 ∧ h1f0.toInt = 1 ∧ 0 ≤ o0.toInt ∧ 0 ≤ x2.toInt ∧ x2.toInt + o0.toInt ≤ h20f1.toInt ∧ 0 = r ∧ TP D A [(h0, ob 7 [.ref h1, .ref h2, .int h0f2, .ref h3, .ref h4, .ref h5, .int h0f6, .ref h6, .int h0f8, .null, .ref h7, .int h0f11, .ref h8, .ref h9, .ref h10, .ref h11, .ref h12]), (h1, ob 4 [.int h1f0, .int h1f1, .int h1f2, .ref h13]), (h4, aQ (k 3) 4 (q4 h17 h18 h19 h20)), (h17, ob 5 [.int h17f0, .int h17f1, .ref h37]), (h18, ob 5 [.int h18f0, .int h18f1, .ref h38]), (h19, ob 5 [.int h19f0, .int h19f1, .ref h39]), (h20, ob 5 [.int h20f0, .int h20f1, .ref h40])] H) ∨ (∃ o0 : Int32, (4 ≤ o0.toInt ∧ o0.toInt ≤ 4) ∧ 0 ≤ x1.toInt ∧ x1.toInt < 4 ∧ x1.toInt = 3 ∧ h20f0.toInt ≠ (-1) ∧ h20f0.toInt ≤ 0 ∧ h1f0.toInt = 2 ∧ 0 ≤ o0.toInt ∧ 0 ≤ x2.toInt ∧ x2.toInt + o0.toInt ≤ h20f1.toInt ∧ 0 = r ∧ TP D A [(h0, ob 7 [.ref h1, .ref h2, .int h0f2, .ref h3, .ref h4, .ref h5, .int h0f6, .ref h6, .int h0f8, .null, .ref h7, .int h0f11, .ref h8, .ref h9, .ref h10, .ref h11, .ref h12]), (h1, ob 4 [.int h1f0, .int h1f1, .int h1f2, .ref h13]), (h4, aQ (k 3) 4 (q4 h17 h18 h19 h20)), (h17, ob 5 [.int h17f0, .int h17f1, .ref h37]), (h18, ob 5 [.int h18f0, .int h18f1, .ref h38]), (h19, ob 5 [.int h19f0, .int h19f1, .ref h39]), (h20, ob 5 [.int h20f0, .int h20f1, .ref h40])] H) ∨ (∃ o0 : Int32, (9 ≤ o0.toInt ∧ o0.toInt ≤ 9) ∧ 0 ≤ x1.toInt ∧ x1.toInt < 4 ∧ x1.toInt = 3 ∧ h20f0.toInt ≠ (-1) ∧ h20f0.toInt ≤ 0 ∧ h1f0.toInt = 3 ∧ 0 ≤ o0.toInt ∧ 0 ≤ x2.toInt ∧ x2.toInt + o0.toInt ≤ h20f1.toInt ∧ 0 = r ∧ TP D A [(h0, ob 7 [.ref h1, .ref h2, .int h0f2, .ref h3, .ref h4, .ref h5, .int h0f6, .ref h6, .int h0f8, .null, .ref h7, .int h0f11, .ref h8, .ref h9, .ref h10, .ref h11, .ref h12]), (h1, ob 4 [.int h1f0, .int h1f1, .int h1f2, .ref h13]), (h4, aQ (k 3) 4 (q4 h17 h18 h19 h20)), (h17, ob 5 [.int h17f0, .int h17f1, .ref h37]), (h18, ob 5 [.int h18f0, .int h18f1, .ref h38]), (h19, ob 5 [.int h19f0, .int h19f1, .ref h39]), (h20, ob 5 [.int h20f0, .int h20f1, .ref h40])] H)
set_option maxHeartbeats 4000000 in
set_option maxRecDepth 100000 in
theorem cX10_refusalOfTable_450e2 (l : Launch) (D : va_G) (k : Nat → ClassId) (sz : Nat) (h0 h1 h4 h17 h18 h19 h20 h2 h3 h5 h6 h7 h8 h9 h10 h11 h12 h13 h37 h38 h39 h40 : Nat) (x1 : Int32) (x2 : Int32) (h0f2 : Int32) (h0f6 : Int32) (h0f8 : Int32) (h0f11 : Int32) (h1f0 : Int32) (h1f1 : Int32) (h1f2 : Int32) (h17f0 : Int32) (h17f1 : Int32) (h18f0 : Int32) (h18f1 : Int32) (h19f0 : Int32) (h19f1 : Int32) (h20f0 : Int32) (h20f1 : Int32) (b_h0f2 : 0 ≤ h0f2.toInt ∧ h0f2.toInt ≤ 1) (b_h0f6 : 0 ≤ h0f6.toInt ∧ h0f6.toInt ≤ 1) (b_h0f8 : 0 ≤ h0f8.toInt ∧ h0f8.toInt ≤ 1) (b_h0f11 : 0 ≤ h0f11.toInt ∧ h0f11.toInt ≤ 200) (b_h1f0 : 1 ≤ h1f0.toInt ∧ h1f0.toInt ≤ 3) (b_h1f1 : 0 ≤ h1f1.toInt ∧ h1f1.toInt ≤ 4) (b_h17f0 : (-1) ≤ h17f0.toInt ∧ h17f0.toInt ≤ 2) (b_h17f1 : 0 ≤ h17f1.toInt ∧ h17f1.toInt ≤ 40) (b_h18f0 : (-1) ≤ h18f0.toInt ∧ h18f0.toInt ≤ 2) (b_h18f1 : 0 ≤ h18f1.toInt ∧ h18f1.toInt ≤ 40) (b_h19f0 : (-1) ≤ h19f0.toInt ∧ h19f0.toInt ≤ 2) (b_h19f1 : 0 ≤ h19f1.toInt ∧ h19f1.toInt ≤ 40) (b_h20f0 : (-1) ≤ h20f0.toInt ∧ h20f0.toInt ≤ 2) (b_h20f1 : 0 ≤ h20f1.toInt ∧ h20f1.toInt ≤ 40) : Met l yX10_refusalOfTable (Cond.code yX10_refusalOfTable cX10_refusalOfTable 5 (some .int) :: uw) Rm_cX10_refusalOfTable_450e2 (pT D k sz [.ref h0, .int x1, .int x2, .int 0] [(h0, ob 7 [.ref h1, .ref h2, .int h0f2, .ref h3, .ref h4, .ref h5, .int h0f6, .ref h6, .int h0f8, .null, .ref h7, .int h0f11, .ref h8, .ref h9, .ref h10, .ref h11, .ref h12]), (h1, ob 4 [.int h1f0, .int h1f1, .int h1f2, .ref h13]), (h4, aQ (k 3) 4 (q4 h17 h18 h19 h20)), (h17, ob 5 [.int h17f0, .int h17f1, .ref h37]), (h18, ob 5 [.int h18f0, .int h18f1, .ref h38]), (h19, ob 5 [.int h19f0, .int h19f1, .ref h39]), (h20, ob 5 [.int h20f0, .int h20f1, .ref h40])]) (qI (B_cX10_refusalOfTable_450e2 D k h0 h1 h4 h17 h18 h19 h20 h2 h3 h5 h6 h7 h8 h9 h10 h11 h12 h13 h37 h38 h39 h40 x1 x2 h0f2 h0f6 h0f8 h0f11 h1f0 h1f1 h1f2 h17f0 h17f1 h18f0 h18f1 h19f0 h19f1 h20f0 h20f1 (zA [h0, h1, h4, h17, h18, h19, h20] sz)) (zA [h0, h1, h4, h17, h18, h19, h20] sz)) 0 0 (zA [h0, h1, h4, h17, h18, h19, h20] sz) := by
  refine tz_begin (as := [h0, h1, h4, h17, h18, h19, h20]) (Qc := fun A => qI (B_cX10_refusalOfTable_450e2 D k h0 h1 h4 h17 h18 h19 h20 h2 h3 h5 h6 h7 h8 h9 h10 h11 h12 h13 h37 h38 h39 h40 x1 x2 h0f2 h0f6 h0f8 h0f11 h1f0 h1f1 h1f2 h17f0 h17f1 h18f0 h18f1 h19f0 h19f1 h20f0 h20f1 A) A) (by decide +kernel) rfl (Nat.le_of_ble_eq_true rfl) ?_
  intro p e s m args below meth c ls A Q hx hb hr hml hown hlocks hin hU hK hT hS hA hl hQ
  have hl : lv_has ls 5 [(0, .ref h0), (1, .int x1), (2, .int x2), (3, .int 0)] := hl
  have hT : TP D A [(h0, ob 7 [.ref h1, .ref h2, .int h0f2, .ref h3, .ref h4, .ref h5, .int h0f6, .ref h6, .int h0f8, .null, .ref h7, .int h0f11, .ref h8, .ref h9, .ref h10, .ref h11, .ref h12]), (h1, ob 4 [.int h1f0, .int h1f1, .int h1f2, .ref h13]), (h4, aQ (k 3) 4 (q4 h17 h18 h19 h20)), (h17, ob 5 [.int h17f0, .int h17f1, .ref h37]), (h18, ob 5 [.int h18f0, .int h18f1, .ref h38]), (h19, ob 5 [.int h19f0, .int h19f1, .ref h39]), (h20, ob 5 [.int h20f0, .int h20f1, .ref h40])] s.heap := hT
  refine lv_iload_n hx hb dX10_refusalOfTable_0 rfl (lv_at hl 1 rfl) ?_
  refine tcI (Tc := []) (Tr := [(h0, ob 7 [.ref h1, .ref h2, .int h0f2, .ref h3, .ref h4, .ref h5, .int h0f6, .ref h6, .int h0f8, .null, .ref h7, .int h0f11, .ref h8, .ref h9, .ref h10, .ref h11, .ref h12]), (h1, ob 4 [.int h1f0, .int h1f1, .int h1f2, .ref h13]), (h4, aQ (k 3) 4 (q4 h17 h18 h19 h20)), (h17, ob 5 [.int h17f0, .int h17f1, .ref h37]), (h18, ob 5 [.int h18f0, .int h18f1, .ref h38]), (h19, ob 5 [.int h19f0, .int h19f1, .ref h39]), (h20, ob 5 [.int h20f0, .int h20f1, .ref h40])]) (as := []) (zcS (As := [.int x1]) (rest := []) (Tc := []) hx hb hml hown hU hK hT [] rfl (by decide) (cX10_isSheet_f635c l D k _ x1) w640 w638 w639 w63 hdX10_isSheet ⟨rfl, rfl⟩ ⟨Nat.le_of_ble_eq_true rfl, Nat.le_of_ble_eq_true rfl⟩ rfl hl.1 (Nat.le_of_ble_eq_true rfl) dX10_refusalOfTable_1 ⟨Nat.le_of_ble_eq_true rfl, Nat.le_of_ble_eq_true rfl⟩) hT hS hA [] [0, 1, 2, 3, 4, 5, 6] rfl rfl rfl (by decide) (by decide) (fun r1 H locs hB J hS => ?_)
  rcases hB with ⟨rfl, hT1⟩ | ⟨c_2, c_3, rfl, hT1⟩
  · skip
    have hT := J _ hT1
    have hT : TP D A [(h0, ob 7 [.ref h1, .ref h2, .int h0f2, .ref h3, .ref h4, .ref h5, .int h0f6, .ref h6, .int h0f8, .null, .ref h7, .int h0f11, .ref h8, .ref h9, .ref h10, .ref h11, .ref h12]), (h1, ob 4 [.int h1f0, .int h1f1, .int h1f2, .ref h13]), (h4, aQ (k 3) 4 (q4 h17 h18 h19 h20)), (h17, ob 5 [.int h17f0, .int h17f1, .ref h37]), (h18, ob 5 [.int h18f0, .int h18f1, .ref h38]), (h19, ob 5 [.int h19f0, .int h19f1, .ref h39]), (h20, ob 5 [.int h20f0, .int h20f1, .ref h40])] H := hT
    refine lv_if_ne (tgt := 9) hx hb dX10_refusalOfTable_4 (by decide) (fun cc => absurd (by decide +kernel) cc) (fun _ => ?_)
    refine lv_iconst (v := (-1)) hx hb dX10_refusalOfTable_7 (by decide) ?_
    exact tz_retI (B := B_cX10_refusalOfTable_450e2 D k h0 h1 h4 h17 h18 h19 h20 h2 h3 h5 h6 h7 h8 h9 h10 h11 h12 h13 h37 h38 h39 h40 x1 x2 h0f2 h0f6 h0f8 h0f11 h1f0 h1f1 h1f2 h17f0 h17f1 h18f0 h18f1 h19f0 h19f1 h20f0 h20f1) (v := (-1)) hQ hx hb hr hlocks hS (Nat.le_of_ble_eq_true rfl) (Nat.le_of_ble_eq_true rfl) dX10_refusalOfTable_8 (Or.inl ⟨rfl, hT⟩)
  · skip
    have hT := J _ hT1
    have hT : TP D A [(h0, ob 7 [.ref h1, .ref h2, .int h0f2, .ref h3, .ref h4, .ref h5, .int h0f6, .ref h6, .int h0f8, .null, .ref h7, .int h0f11, .ref h8, .ref h9, .ref h10, .ref h11, .ref h12]), (h1, ob 4 [.int h1f0, .int h1f1, .int h1f2, .ref h13]), (h4, aQ (k 3) 4 (q4 h17 h18 h19 h20)), (h17, ob 5 [.int h17f0, .int h17f1, .ref h37]), (h18, ob 5 [.int h18f0, .int h18f1, .ref h38]), (h19, ob 5 [.int h19f0, .int h19f1, .ref h39]), (h20, ob 5 [.int h20f0, .int h20f1, .ref h40])] H := hT
    refine lv_if_ne (tgt := 9) hx hb dX10_refusalOfTable_4 (by decide) (fun _ => ?_) (fun cc => absurd cc (by decide +kernel))
    refine lv_aload_n hx hb dX10_refusalOfTable_9 rfl (lv_at hl 0 rfl) ?_
    refine tz_get (ci := 7) (v := .ref h4) (C := RX10) (F := TX10) (N := 17) hx hb hU iX10 hown hK hT 0 rfl rfl 4 (by decide) w253 (fun _ h9 => h9) rfl dX10_refusalOfTable_10 ?_
    refine lv_iload_n hx hb dX10_refusalOfTable_13 rfl (lv_at hl 1 rfl) ?_
    rcases (show x1.toInt = 0 ∨ x1.toInt = 1 ∨ x1.toInt = 2 ∨ x1.toInt = 3 by omega) with hq4 | hq4 | hq4 | hq4
    · skip
      refine tz_aldq (b := h17) hx hb hK hT 2 rfl (vp_in_iff.mpr (by have := hq4; omega)) (fun f hf => by rw [cl_of hq4]; exact hf.1) dX10_refusalOfTable_14 ?_
      refine lv_astore (lv' := [(4, .ref h17), (0, .ref h0), (1, .int x1), (2, .int x2), (3, .int 0)]) hx hb dX10_refusalOfTable_15 hl (by decide) rfl (fun ls hl => ?_)
      refine lv_aload hx hb dX10_refusalOfTable_17 (lv_at hl 0 rfl) ?_
      refine tcI (Tc := [(h17, ob 5 [.int h17f0, .int h17f1, .ref h37])]) (Tr := [(h0, ob 7 [.ref h1, .ref h2, .int h0f2, .ref h3, .ref h4, .ref h5, .int h0f6, .ref h6, .int h0f8, .null, .ref h7, .int h0f11, .ref h8, .ref h9, .ref h10, .ref h11, .ref h12]), (h1, ob 4 [.int h1f0, .int h1f1, .int h1f2, .ref h13]), (h4, aQ (k 3) 4 (q4 h17 h18 h19 h20)), (h18, ob 5 [.int h18f0, .int h18f1, .ref h38]), (h19, ob 5 [.int h19f0, .int h19f1, .ref h39]), (h20, ob 5 [.int h20f0, .int h20f1, .ref h40])]) (as := [h17]) (zcV (q0 := 3) (ci := 5) (As := []) (rest := []) (Tc := [(h17, ob 5 [.int h17f0, .int h17f1, .ref h37])]) hx hb hml hown hU hK hT rfl rfl [3] rfl (by decide) (cX6_isMissing_56a93 l D k _ h17 h37 h17f0 h17f1 (by omega) (by omega)) w644 w641 w642 w643 w71 hdX6_isMissing ⟨rfl, rfl⟩ ⟨Nat.le_of_ble_eq_true rfl, Nat.le_of_ble_eq_true rfl⟩ rfl hl.1 (Nat.le_of_ble_eq_true rfl) dX10_refusalOfTable_19 ⟨Nat.le_of_ble_eq_true rfl, Nat.le_of_ble_eq_true rfl⟩) hT hS hA [3] [0, 1, 2, 4, 5, 6] rfl rfl rfl (by decide) (by decide) (fun r5 H locs hB J hS => ?_)
      rcases hB with ⟨c_6, rfl, hT1⟩ | ⟨rfl, hT1⟩
      · skip
        have hT := J _ hT1
        have hT : TP D A [(h0, ob 7 [.ref h1, .ref h2, .int h0f2, .ref h3, .ref h4, .ref h5, .int h0f6, .ref h6, .int h0f8, .null, .ref h7, .int h0f11, .ref h8, .ref h9, .ref h10, .ref h11, .ref h12]), (h1, ob 4 [.int h1f0, .int h1f1, .int h1f2, .ref h13]), (h4, aQ (k 3) 4 (q4 h17 h18 h19 h20)), (h18, ob 5 [.int h18f0, .int h18f1, .ref h38]), (h19, ob 5 [.int h19f0, .int h19f1, .ref h39]), (h20, ob 5 [.int h20f0, .int h20f1, .ref h40]), (h17, ob 5 [.int h17f0, .int h17f1, .ref h37])] H := hT
        refine lv_if_eq (tgt := 28) hx hb dX10_refusalOfTable_22 (by decide) (fun _ => ?_) (fun cc => absurd (by decide +kernel) cc)
        refine lv_aload hx hb dX10_refusalOfTable_28 (lv_at hl 0 rfl) ?_
        refine tz_get (ci := 5) (v := .int h17f0) (C := RX6) (F := TX6) (N := 3) hx hb hU iX6 hown hK hT 6 rfl rfl 0 (by decide) w238 (fun _ h9 => h9) rfl dX10_refusalOfTable_30 ?_
        refine lv_iload_n hx hb dX10_refusalOfTable_33 rfl (lv_at hl 4 rfl) ?_
        refine lv_icmp_le (tgt := 40) hx hb dX10_refusalOfTable_34 (by decide) (fun c_7 => ?_) (fun c_7 => ?_)
        · skip
          have c_7 := ni_le c_7 rfl li_0
          refine lv_aload hx hb dX10_refusalOfTable_40 (lv_at hl 0 rfl) ?_
          refine lv_iload_n hx hb dX10_refusalOfTable_42 rfl (lv_at hl 3 rfl) ?_
          refine lv_aload_n hx hb dX10_refusalOfTable_43 rfl (lv_at hl 1 rfl) ?_
          refine tz_get (ci := 7) (v := .ref h1) (C := RX10) (F := TX10) (N := 17) hx hb hU iX10 hown hK hT 0 rfl rfl 0 (by decide) w249 (fun _ h9 => h9) rfl dX10_refusalOfTable_44 ?_
          refine tcI (Tc := [(h1, ob 4 [.int h1f0, .int h1f1, .int h1f2, .ref h13])]) (Tr := [(h0, ob 7 [.ref h1, .ref h2, .int h0f2, .ref h3, .ref h4, .ref h5, .int h0f6, .ref h6, .int h0f8, .null, .ref h7, .int h0f11, .ref h8, .ref h9, .ref h10, .ref h11, .ref h12]), (h4, aQ (k 3) 4 (q4 h17 h18 h19 h20)), (h18, ob 5 [.int h18f0, .int h18f1, .ref h38]), (h19, ob 5 [.int h19f0, .int h19f1, .ref h39]), (h20, ob 5 [.int h20f0, .int h20f1, .ref h40]), (h17, ob 5 [.int h17f0, .int h17f1, .ref h37])]) (as := [h1]) (zcV (q0 := 1) (ci := 4) (As := []) (rest := [.int x2, .ref h17]) (Tc := [(h1, ob 4 [.int h1f0, .int h1f1, .int h1f2, .ref h13])]) hx hb hml hown hU hK hT rfl rfl [1] rfl (by decide) (cX5_cellCount_f3983 l D k _ h1 h13 h1f0 h1f1 h1f2 (by omega) (by omega)) w385 w382 w383 w384 w64 hdX5_cellCount ⟨rfl, rfl⟩ ⟨Nat.le_of_ble_eq_true rfl, Nat.le_of_ble_eq_true rfl⟩ rfl hl.1 (Nat.le_of_ble_eq_true rfl) dX10_refusalOfTable_47 ⟨Nat.le_of_ble_eq_true rfl, Nat.le_of_ble_eq_true rfl⟩) hT hS hA [1] [0, 2, 3, 4, 5, 6] rfl rfl rfl (by decide) (by decide) (fun r8 H locs hB J hS => ?_)
          rcases hB with ⟨c_9, b_r8, hT1⟩ | ⟨c_10, b_r8, hT1⟩ | ⟨c_11, b_r8, hT1⟩
          · skip
            have hT := J _ hT1
            have hT : TP D A [(h0, ob 7 [.ref h1, .ref h2, .int h0f2, .ref h3, .ref h4, .ref h5, .int h0f6, .ref h6, .int h0f8, .null, .ref h7, .int h0f11, .ref h8, .ref h9, .ref h10, .ref h11, .ref h12]), (h4, aQ (k 3) 4 (q4 h17 h18 h19 h20)), (h18, ob 5 [.int h18f0, .int h18f1, .ref h38]), (h19, ob 5 [.int h19f0, .int h19f1, .ref h39]), (h20, ob 5 [.int h20f0, .int h20f1, .ref h40]), (h17, ob 5 [.int h17f0, .int h17f1, .ref h37]), (h1, ob 4 [.int h1f0, .int h1f1, .int h1f2, .ref h13])] H := hT
            refine tcI (Tc := [(h17, ob 5 [.int h17f0, .int h17f1, .ref h37])]) (Tr := [(h0, ob 7 [.ref h1, .ref h2, .int h0f2, .ref h3, .ref h4, .ref h5, .int h0f6, .ref h6, .int h0f8, .null, .ref h7, .int h0f11, .ref h8, .ref h9, .ref h10, .ref h11, .ref h12]), (h4, aQ (k 3) 4 (q4 h17 h18 h19 h20)), (h18, ob 5 [.int h18f0, .int h18f1, .ref h38]), (h19, ob 5 [.int h19f0, .int h19f1, .ref h39]), (h20, ob 5 [.int h20f0, .int h20f1, .ref h40]), (h1, ob 4 [.int h1f0, .int h1f1, .int h1f2, .ref h13])]) (as := [h17]) (zcV (q0 := 5) (ci := 5) (As := [.int x2, .int r8]) (rest := []) (Tc := [(h17, ob 5 [.int h17f0, .int h17f1, .ref h37])]) hx hb hml hown hU hK hT rfl rfl [5] rfl (by decide) (cX6_isOutside_cc85b l D k _ h17 h37 x2 r8 h17f0 h17f1 (by omega) (by omega)) w648 w645 w646 w647 w71 hdX6_isOutside ⟨rfl, rfl⟩ ⟨Nat.le_of_ble_eq_true rfl, Nat.le_of_ble_eq_true rfl⟩ rfl hl.1 (Nat.le_of_ble_eq_true rfl) dX10_refusalOfTable_50 ⟨Nat.le_of_ble_eq_true rfl, Nat.le_of_ble_eq_true rfl⟩) hT hS hA [5] [0, 1, 2, 3, 4, 6] rfl rfl rfl (by decide) (by decide) (fun r12 H locs hB J hS => ?_)
            rcases hB with ⟨rfl, hT1⟩ | ⟨c_13, c_14, c_15, rfl, hT1⟩
            · skip
              have hT := J _ hT1
              have hT : TP D A [(h0, ob 7 [.ref h1, .ref h2, .int h0f2, .ref h3, .ref h4, .ref h5, .int h0f6, .ref h6, .int h0f8, .null, .ref h7, .int h0f11, .ref h8, .ref h9, .ref h10, .ref h11, .ref h12]), (h4, aQ (k 3) 4 (q4 h17 h18 h19 h20)), (h18, ob 5 [.int h18f0, .int h18f1, .ref h38]), (h19, ob 5 [.int h19f0, .int h19f1, .ref h39]), (h20, ob 5 [.int h20f0, .int h20f1, .ref h40]), (h1, ob 4 [.int h1f0, .int h1f1, .int h1f2, .ref h13]), (h17, ob 5 [.int h17f0, .int h17f1, .ref h37])] H := hT
              refine lv_if_eq (tgt := 61) hx hb dX10_refusalOfTable_53 (by decide) (fun cc => absurd cc (by decide +kernel)) (fun _ => ?_)
              refine lv_bipush (v := (-12)) hx hb dX10_refusalOfTable_56 (by decide) ?_
              refine lv_goto (tgt := 62) hx hb dX10_refusalOfTable_58 (by decide) ?_
              exact tz_retI (B := B_cX10_refusalOfTable_450e2 D k h0 h1 h4 h17 h18 h19 h20 h2 h3 h5 h6 h7 h8 h9 h10 h11 h12 h13 h37 h38 h39 h40 x1 x2 h0f2 h0f6 h0f8 h0f11 h1f0 h1f1 h1f2 h17f0 h17f1 h18f0 h18f1 h19f0 h19f1 h20f0 h20f1) (v := (-12)) hQ hx hb hr hlocks hS (Nat.le_of_ble_eq_true rfl) (Nat.le_of_ble_eq_true rfl) dX10_refusalOfTable_62 (Or.inr (Or.inl ⟨rfl, (hT.sub [0, 5, 1, 6, 2, 3, 4] (by decide) rfl)⟩))
            · skip
              have hT := J _ hT1
              have hT : TP D A [(h0, ob 7 [.ref h1, .ref h2, .int h0f2, .ref h3, .ref h4, .ref h5, .int h0f6, .ref h6, .int h0f8, .null, .ref h7, .int h0f11, .ref h8, .ref h9, .ref h10, .ref h11, .ref h12]), (h4, aQ (k 3) 4 (q4 h17 h18 h19 h20)), (h18, ob 5 [.int h18f0, .int h18f1, .ref h38]), (h19, ob 5 [.int h19f0, .int h19f1, .ref h39]), (h20, ob 5 [.int h20f0, .int h20f1, .ref h40]), (h1, ob 4 [.int h1f0, .int h1f1, .int h1f2, .ref h13]), (h17, ob 5 [.int h17f0, .int h17f1, .ref h37])] H := hT
              refine lv_if_eq (tgt := 61) hx hb dX10_refusalOfTable_53 (by decide) (fun _ => ?_) (fun cc => absurd (by decide +kernel) cc)
              refine lv_iconst (v := 0) hx hb dX10_refusalOfTable_61 (by decide) ?_
              exact tz_retI (B := B_cX10_refusalOfTable_450e2 D k h0 h1 h4 h17 h18 h19 h20 h2 h3 h5 h6 h7 h8 h9 h10 h11 h12 h13 h37 h38 h39 h40 x1 x2 h0f2 h0f6 h0f8 h0f11 h1f0 h1f1 h1f2 h17f0 h17f1 h18f0 h18f1 h19f0 h19f1 h20f0 h20f1) (v := 0) hQ hx hb hr hlocks hS (Nat.le_of_ble_eq_true rfl) (Nat.le_of_ble_eq_true rfl) dX10_refusalOfTable_62 (Or.inr (Or.inr (Or.inl ⟨r8, (by have := li_0; omega), (by have := li_0; omega), (by have := li_0; omega), (by have := li_0; omega), (by have := li_0; omega), (by have := li_0; omega), (by have := li_0; omega), (by have := li_0; omega), (by have := li_0; omega), (by have := li_0; omega), rfl, (hT.sub [0, 5, 1, 6, 2, 3, 4] (by decide) rfl)⟩)))
          · skip
            have hT := J _ hT1
            have hT : TP D A [(h0, ob 7 [.ref h1, .ref h2, .int h0f2, .ref h3, .ref h4, .ref h5, .int h0f6, .ref h6, .int h0f8, .null, .ref h7, .int h0f11, .ref h8, .ref h9, .ref h10, .ref h11, .ref h12]), (h4, aQ (k 3) 4 (q4 h17 h18 h19 h20)), (h18, ob 5 [.int h18f0, .int h18f1, .ref h38]), (h19, ob 5 [.int h19f0, .int h19f1, .ref h39]), (h20, ob 5 [.int h20f0, .int h20f1, .ref h40]), (h17, ob 5 [.int h17f0, .int h17f1, .ref h37]), (h1, ob 4 [.int h1f0, .int h1f1, .int h1f2, .ref h13])] H := hT
            refine tcI (Tc := [(h17, ob 5 [.int h17f0, .int h17f1, .ref h37])]) (Tr := [(h0, ob 7 [.ref h1, .ref h2, .int h0f2, .ref h3, .ref h4, .ref h5, .int h0f6, .ref h6, .int h0f8, .null, .ref h7, .int h0f11, .ref h8, .ref h9, .ref h10, .ref h11, .ref h12]), (h4, aQ (k 3) 4 (q4 h17 h18 h19 h20)), (h18, ob 5 [.int h18f0, .int h18f1, .ref h38]), (h19, ob 5 [.int h19f0, .int h19f1, .ref h39]), (h20, ob 5 [.int h20f0, .int h20f1, .ref h40]), (h1, ob 4 [.int h1f0, .int h1f1, .int h1f2, .ref h13])]) (as := [h17]) (zcV (q0 := 5) (ci := 5) (As := [.int x2, .int r8]) (rest := []) (Tc := [(h17, ob 5 [.int h17f0, .int h17f1, .ref h37])]) hx hb hml hown hU hK hT rfl rfl [5] rfl (by decide) (cX6_isOutside_cc85b l D k _ h17 h37 x2 r8 h17f0 h17f1 (by omega) (by omega)) w648 w645 w646 w647 w71 hdX6_isOutside ⟨rfl, rfl⟩ ⟨Nat.le_of_ble_eq_true rfl, Nat.le_of_ble_eq_true rfl⟩ rfl hl.1 (Nat.le_of_ble_eq_true rfl) dX10_refusalOfTable_50 ⟨Nat.le_of_ble_eq_true rfl, Nat.le_of_ble_eq_true rfl⟩) hT hS hA [5] [0, 1, 2, 3, 4, 6] rfl rfl rfl (by decide) (by decide) (fun r16 H locs hB J hS => ?_)
            rcases hB with ⟨rfl, hT1⟩ | ⟨c_17, c_18, c_19, rfl, hT1⟩
            · skip
              have hT := J _ hT1
              have hT : TP D A [(h0, ob 7 [.ref h1, .ref h2, .int h0f2, .ref h3, .ref h4, .ref h5, .int h0f6, .ref h6, .int h0f8, .null, .ref h7, .int h0f11, .ref h8, .ref h9, .ref h10, .ref h11, .ref h12]), (h4, aQ (k 3) 4 (q4 h17 h18 h19 h20)), (h18, ob 5 [.int h18f0, .int h18f1, .ref h38]), (h19, ob 5 [.int h19f0, .int h19f1, .ref h39]), (h20, ob 5 [.int h20f0, .int h20f1, .ref h40]), (h1, ob 4 [.int h1f0, .int h1f1, .int h1f2, .ref h13]), (h17, ob 5 [.int h17f0, .int h17f1, .ref h37])] H := hT
              refine lv_if_eq (tgt := 61) hx hb dX10_refusalOfTable_53 (by decide) (fun cc => absurd cc (by decide +kernel)) (fun _ => ?_)
              refine lv_bipush (v := (-12)) hx hb dX10_refusalOfTable_56 (by decide) ?_
              refine lv_goto (tgt := 62) hx hb dX10_refusalOfTable_58 (by decide) ?_
              exact tz_retI (B := B_cX10_refusalOfTable_450e2 D k h0 h1 h4 h17 h18 h19 h20 h2 h3 h5 h6 h7 h8 h9 h10 h11 h12 h13 h37 h38 h39 h40 x1 x2 h0f2 h0f6 h0f8 h0f11 h1f0 h1f1 h1f2 h17f0 h17f1 h18f0 h18f1 h19f0 h19f1 h20f0 h20f1) (v := (-12)) hQ hx hb hr hlocks hS (Nat.le_of_ble_eq_true rfl) (Nat.le_of_ble_eq_true rfl) dX10_refusalOfTable_62 (Or.inr (Or.inl ⟨rfl, (hT.sub [0, 5, 1, 6, 2, 3, 4] (by decide) rfl)⟩))
            · skip
              have hT := J _ hT1
              have hT : TP D A [(h0, ob 7 [.ref h1, .ref h2, .int h0f2, .ref h3, .ref h4, .ref h5, .int h0f6, .ref h6, .int h0f8, .null, .ref h7, .int h0f11, .ref h8, .ref h9, .ref h10, .ref h11, .ref h12]), (h4, aQ (k 3) 4 (q4 h17 h18 h19 h20)), (h18, ob 5 [.int h18f0, .int h18f1, .ref h38]), (h19, ob 5 [.int h19f0, .int h19f1, .ref h39]), (h20, ob 5 [.int h20f0, .int h20f1, .ref h40]), (h1, ob 4 [.int h1f0, .int h1f1, .int h1f2, .ref h13]), (h17, ob 5 [.int h17f0, .int h17f1, .ref h37])] H := hT
              refine lv_if_eq (tgt := 61) hx hb dX10_refusalOfTable_53 (by decide) (fun _ => ?_) (fun cc => absurd (by decide +kernel) cc)
              refine lv_iconst (v := 0) hx hb dX10_refusalOfTable_61 (by decide) ?_
              exact tz_retI (B := B_cX10_refusalOfTable_450e2 D k h0 h1 h4 h17 h18 h19 h20 h2 h3 h5 h6 h7 h8 h9 h10 h11 h12 h13 h37 h38 h39 h40 x1 x2 h0f2 h0f6 h0f8 h0f11 h1f0 h1f1 h1f2 h17f0 h17f1 h18f0 h18f1 h19f0 h19f1 h20f0 h20f1) (v := 0) hQ hx hb hr hlocks hS (Nat.le_of_ble_eq_true rfl) (Nat.le_of_ble_eq_true rfl) dX10_refusalOfTable_62 (Or.inr (Or.inr (Or.inr (Or.inl ⟨r8, (by have := li_0; omega), (by have := li_0; omega), (by have := li_0; omega), (by have := li_0; omega), (by have := li_0; omega), (by have := li_0; omega), (by have := li_0; omega), (by have := li_0; omega), (by have := li_0; omega), (by have := li_0; omega), rfl, (hT.sub [0, 5, 1, 6, 2, 3, 4] (by decide) rfl)⟩))))
          · skip
            have hT := J _ hT1
            have hT : TP D A [(h0, ob 7 [.ref h1, .ref h2, .int h0f2, .ref h3, .ref h4, .ref h5, .int h0f6, .ref h6, .int h0f8, .null, .ref h7, .int h0f11, .ref h8, .ref h9, .ref h10, .ref h11, .ref h12]), (h4, aQ (k 3) 4 (q4 h17 h18 h19 h20)), (h18, ob 5 [.int h18f0, .int h18f1, .ref h38]), (h19, ob 5 [.int h19f0, .int h19f1, .ref h39]), (h20, ob 5 [.int h20f0, .int h20f1, .ref h40]), (h17, ob 5 [.int h17f0, .int h17f1, .ref h37]), (h1, ob 4 [.int h1f0, .int h1f1, .int h1f2, .ref h13])] H := hT
            refine tcI (Tc := [(h17, ob 5 [.int h17f0, .int h17f1, .ref h37])]) (Tr := [(h0, ob 7 [.ref h1, .ref h2, .int h0f2, .ref h3, .ref h4, .ref h5, .int h0f6, .ref h6, .int h0f8, .null, .ref h7, .int h0f11, .ref h8, .ref h9, .ref h10, .ref h11, .ref h12]), (h4, aQ (k 3) 4 (q4 h17 h18 h19 h20)), (h18, ob 5 [.int h18f0, .int h18f1, .ref h38]), (h19, ob 5 [.int h19f0, .int h19f1, .ref h39]), (h20, ob 5 [.int h20f0, .int h20f1, .ref h40]), (h1, ob 4 [.int h1f0, .int h1f1, .int h1f2, .ref h13])]) (as := [h17]) (zcV (q0 := 5) (ci := 5) (As := [.int x2, .int r8]) (rest := []) (Tc := [(h17, ob 5 [.int h17f0, .int h17f1, .ref h37])]) hx hb hml hown hU hK hT rfl rfl [5] rfl (by decide) (cX6_isOutside_cc85b l D k _ h17 h37 x2 r8 h17f0 h17f1 (by omega) (by omega)) w648 w645 w646 w647 w71 hdX6_isOutside ⟨rfl, rfl⟩ ⟨Nat.le_of_ble_eq_true rfl, Nat.le_of_ble_eq_true rfl⟩ rfl hl.1 (Nat.le_of_ble_eq_true rfl) dX10_refusalOfTable_50 ⟨Nat.le_of_ble_eq_true rfl, Nat.le_of_ble_eq_true rfl⟩) hT hS hA [5] [0, 1, 2, 3, 4, 6] rfl rfl rfl (by decide) (by decide) (fun r20 H locs hB J hS => ?_)
            rcases hB with ⟨rfl, hT1⟩ | ⟨c_21, c_22, c_23, rfl, hT1⟩
            · skip
              have hT := J _ hT1
              have hT : TP D A [(h0, ob 7 [.ref h1, .ref h2, .int h0f2, .ref h3, .ref h4, .ref h5, .int h0f6, .ref h6, .int h0f8, .null, .ref h7, .int h0f11, .ref h8, .ref h9, .ref h10, .ref h11, .ref h12]), (h4, aQ (k 3) 4 (q4 h17 h18 h19 h20)), (h18, ob 5 [.int h18f0, .int h18f1, .ref h38]), (h19, ob 5 [.int h19f0, .int h19f1, .ref h39]), (h20, ob 5 [.int h20f0, .int h20f1, .ref h40]), (h1, ob 4 [.int h1f0, .int h1f1, .int h1f2, .ref h13]), (h17, ob 5 [.int h17f0, .int h17f1, .ref h37])] H := hT
              refine lv_if_eq (tgt := 61) hx hb dX10_refusalOfTable_53 (by decide) (fun cc => absurd cc (by decide +kernel)) (fun _ => ?_)
              refine lv_bipush (v := (-12)) hx hb dX10_refusalOfTable_56 (by decide) ?_
              refine lv_goto (tgt := 62) hx hb dX10_refusalOfTable_58 (by decide) ?_
              exact tz_retI (B := B_cX10_refusalOfTable_450e2 D k h0 h1 h4 h17 h18 h19 h20 h2 h3 h5 h6 h7 h8 h9 h10 h11 h12 h13 h37 h38 h39 h40 x1 x2 h0f2 h0f6 h0f8 h0f11 h1f0 h1f1 h1f2 h17f0 h17f1 h18f0 h18f1 h19f0 h19f1 h20f0 h20f1) (v := (-12)) hQ hx hb hr hlocks hS (Nat.le_of_ble_eq_true rfl) (Nat.le_of_ble_eq_true rfl) dX10_refusalOfTable_62 (Or.inr (Or.inl ⟨rfl, (hT.sub [0, 5, 1, 6, 2, 3, 4] (by decide) rfl)⟩))
            · skip
              have hT := J _ hT1
              have hT : TP D A [(h0, ob 7 [.ref h1, .ref h2, .int h0f2, .ref h3, .ref h4, .ref h5, .int h0f6, .ref h6, .int h0f8, .null, .ref h7, .int h0f11, .ref h8, .ref h9, .ref h10, .ref h11, .ref h12]), (h4, aQ (k 3) 4 (q4 h17 h18 h19 h20)), (h18, ob 5 [.int h18f0, .int h18f1, .ref h38]), (h19, ob 5 [.int h19f0, .int h19f1, .ref h39]), (h20, ob 5 [.int h20f0, .int h20f1, .ref h40]), (h1, ob 4 [.int h1f0, .int h1f1, .int h1f2, .ref h13]), (h17, ob 5 [.int h17f0, .int h17f1, .ref h37])] H := hT
              refine lv_if_eq (tgt := 61) hx hb dX10_refusalOfTable_53 (by decide) (fun _ => ?_) (fun cc => absurd (by decide +kernel) cc)
              refine lv_iconst (v := 0) hx hb dX10_refusalOfTable_61 (by decide) ?_
              exact tz_retI (B := B_cX10_refusalOfTable_450e2 D k h0 h1 h4 h17 h18 h19 h20 h2 h3 h5 h6 h7 h8 h9 h10 h11 h12 h13 h37 h38 h39 h40 x1 x2 h0f2 h0f6 h0f8 h0f11 h1f0 h1f1 h1f2 h17f0 h17f1 h18f0 h18f1 h19f0 h19f1 h20f0 h20f1) (v := 0) hQ hx hb hr hlocks hS (Nat.le_of_ble_eq_true rfl) (Nat.le_of_ble_eq_true rfl) dX10_refusalOfTable_62 (Or.inr (Or.inr (Or.inr (Or.inr (Or.inl ⟨r8, (by have := li_0; omega), (by have := li_0; omega), (by have := li_0; omega), (by have := li_0; omega), (by have := li_0; omega), (by have := li_0; omega), (by have := li_0; omega), (by have := li_0; omega), (by have := li_0; omega), (by have := li_0; omega), rfl, (hT.sub [0, 5, 1, 6, 2, 3, 4] (by decide) rfl)⟩)))))
        · skip
          have c_7 := ni_nle c_7 rfl li_0
          refine lv_bipush (v := (-13)) hx hb dX10_refusalOfTable_37 (by decide) ?_
          exact tz_retI (B := B_cX10_refusalOfTable_450e2 D k h0 h1 h4 h17 h18 h19 h20 h2 h3 h5 h6 h7 h8 h9 h10 h11 h12 h13 h37 h38 h39 h40 x1 x2 h0f2 h0f6 h0f8 h0f11 h1f0 h1f1 h1f2 h17f0 h17f1 h18f0 h18f1 h19f0 h19f1 h20f0 h20f1) (v := (-13)) hQ hx hb hr hlocks hS (Nat.le_of_ble_eq_true rfl) (Nat.le_of_ble_eq_true rfl) dX10_refusalOfTable_39 (Or.inr (Or.inr (Or.inr (Or.inr (Or.inr (Or.inl ⟨rfl, (hT.sub [0, 1, 2, 6, 3, 4, 5] (by decide) rfl)⟩))))))
      · skip
        have hT := J _ hT1
        have hT : TP D A [(h0, ob 7 [.ref h1, .ref h2, .int h0f2, .ref h3, .ref h4, .ref h5, .int h0f6, .ref h6, .int h0f8, .null, .ref h7, .int h0f11, .ref h8, .ref h9, .ref h10, .ref h11, .ref h12]), (h1, ob 4 [.int h1f0, .int h1f1, .int h1f2, .ref h13]), (h4, aQ (k 3) 4 (q4 h17 h18 h19 h20)), (h18, ob 5 [.int h18f0, .int h18f1, .ref h38]), (h19, ob 5 [.int h19f0, .int h19f1, .ref h39]), (h20, ob 5 [.int h20f0, .int h20f1, .ref h40]), (h17, ob 5 [.int h17f0, .int h17f1, .ref h37])] H := hT
        refine lv_if_eq (tgt := 28) hx hb dX10_refusalOfTable_22 (by decide) (fun cc => absurd cc (by decide +kernel)) (fun _ => ?_)
        refine lv_bipush (v := (-11)) hx hb dX10_refusalOfTable_25 (by decide) ?_
        exact tz_retI (B := B_cX10_refusalOfTable_450e2 D k h0 h1 h4 h17 h18 h19 h20 h2 h3 h5 h6 h7 h8 h9 h10 h11 h12 h13 h37 h38 h39 h40 x1 x2 h0f2 h0f6 h0f8 h0f11 h1f0 h1f1 h1f2 h17f0 h17f1 h18f0 h18f1 h19f0 h19f1 h20f0 h20f1) (v := (-11)) hQ hx hb hr hlocks hS (Nat.le_of_ble_eq_true rfl) (Nat.le_of_ble_eq_true rfl) dX10_refusalOfTable_27 (Or.inr (Or.inr (Or.inr (Or.inr (Or.inr (Or.inr (Or.inl ⟨rfl, (hT.sub [0, 1, 2, 6, 3, 4, 5] (by decide) rfl)⟩)))))))
    · skip
      refine tz_aldq (b := h18) hx hb hK hT 2 rfl (vp_in_iff.mpr (by have := hq4; omega)) (fun f hf => by rw [cl_of hq4]; exact hf.2.1) dX10_refusalOfTable_14 ?_
      refine lv_astore (lv' := [(4, .ref h18), (0, .ref h0), (1, .int x1), (2, .int x2), (3, .int 0)]) hx hb dX10_refusalOfTable_15 hl (by decide) rfl (fun ls hl => ?_)
      refine lv_aload hx hb dX10_refusalOfTable_17 (lv_at hl 0 rfl) ?_
      refine tcI (Tc := [(h18, ob 5 [.int h18f0, .int h18f1, .ref h38])]) (Tr := [(h0, ob 7 [.ref h1, .ref h2, .int h0f2, .ref h3, .ref h4, .ref h5, .int h0f6, .ref h6, .int h0f8, .null, .ref h7, .int h0f11, .ref h8, .ref h9, .ref h10, .ref h11, .ref h12]), (h1, ob 4 [.int h1f0, .int h1f1, .int h1f2, .ref h13]), (h4, aQ (k 3) 4 (q4 h17 h18 h19 h20)), (h17, ob 5 [.int h17f0, .int h17f1, .ref h37]), (h19, ob 5 [.int h19f0, .int h19f1, .ref h39]), (h20, ob 5 [.int h20f0, .int h20f1, .ref h40])]) (as := [h18]) (zcV (q0 := 4) (ci := 5) (As := []) (rest := []) (Tc := [(h18, ob 5 [.int h18f0, .int h18f1, .ref h38])]) hx hb hml hown hU hK hT rfl rfl [4] rfl (by decide) (cX6_isMissing_56a93 l D k _ h18 h38 h18f0 h18f1 (by omega) (by omega)) w644 w641 w642 w643 w71 hdX6_isMissing ⟨rfl, rfl⟩ ⟨Nat.le_of_ble_eq_true rfl, Nat.le_of_ble_eq_true rfl⟩ rfl hl.1 (Nat.le_of_ble_eq_true rfl) dX10_refusalOfTable_19 ⟨Nat.le_of_ble_eq_true rfl, Nat.le_of_ble_eq_true rfl⟩) hT hS hA [4] [0, 1, 2, 3, 5, 6] rfl rfl rfl (by decide) (by decide) (fun r24 H locs hB J hS => ?_)
      rcases hB with ⟨c_25, rfl, hT1⟩ | ⟨rfl, hT1⟩
      · skip
        have hT := J _ hT1
        have hT : TP D A [(h0, ob 7 [.ref h1, .ref h2, .int h0f2, .ref h3, .ref h4, .ref h5, .int h0f6, .ref h6, .int h0f8, .null, .ref h7, .int h0f11, .ref h8, .ref h9, .ref h10, .ref h11, .ref h12]), (h1, ob 4 [.int h1f0, .int h1f1, .int h1f2, .ref h13]), (h4, aQ (k 3) 4 (q4 h17 h18 h19 h20)), (h17, ob 5 [.int h17f0, .int h17f1, .ref h37]), (h19, ob 5 [.int h19f0, .int h19f1, .ref h39]), (h20, ob 5 [.int h20f0, .int h20f1, .ref h40]), (h18, ob 5 [.int h18f0, .int h18f1, .ref h38])] H := hT
        refine lv_if_eq (tgt := 28) hx hb dX10_refusalOfTable_22 (by decide) (fun _ => ?_) (fun cc => absurd (by decide +kernel) cc)
        refine lv_aload hx hb dX10_refusalOfTable_28 (lv_at hl 0 rfl) ?_
        refine tz_get (ci := 5) (v := .int h18f0) (C := RX6) (F := TX6) (N := 3) hx hb hU iX6 hown hK hT 6 rfl rfl 0 (by decide) w238 (fun _ h9 => h9) rfl dX10_refusalOfTable_30 ?_
        refine lv_iload_n hx hb dX10_refusalOfTable_33 rfl (lv_at hl 4 rfl) ?_
        refine lv_icmp_le (tgt := 40) hx hb dX10_refusalOfTable_34 (by decide) (fun c_26 => ?_) (fun c_26 => ?_)
        · skip
          have c_26 := ni_le c_26 rfl li_0
          refine lv_aload hx hb dX10_refusalOfTable_40 (lv_at hl 0 rfl) ?_
          refine lv_iload_n hx hb dX10_refusalOfTable_42 rfl (lv_at hl 3 rfl) ?_
          refine lv_aload_n hx hb dX10_refusalOfTable_43 rfl (lv_at hl 1 rfl) ?_
          refine tz_get (ci := 7) (v := .ref h1) (C := RX10) (F := TX10) (N := 17) hx hb hU iX10 hown hK hT 0 rfl rfl 0 (by decide) w249 (fun _ h9 => h9) rfl dX10_refusalOfTable_44 ?_
          refine tcI (Tc := [(h1, ob 4 [.int h1f0, .int h1f1, .int h1f2, .ref h13])]) (Tr := [(h0, ob 7 [.ref h1, .ref h2, .int h0f2, .ref h3, .ref h4, .ref h5, .int h0f6, .ref h6, .int h0f8, .null, .ref h7, .int h0f11, .ref h8, .ref h9, .ref h10, .ref h11, .ref h12]), (h4, aQ (k 3) 4 (q4 h17 h18 h19 h20)), (h17, ob 5 [.int h17f0, .int h17f1, .ref h37]), (h19, ob 5 [.int h19f0, .int h19f1, .ref h39]), (h20, ob 5 [.int h20f0, .int h20f1, .ref h40]), (h18, ob 5 [.int h18f0, .int h18f1, .ref h38])]) (as := [h1]) (zcV (q0 := 1) (ci := 4) (As := []) (rest := [.int x2, .ref h18]) (Tc := [(h1, ob 4 [.int h1f0, .int h1f1, .int h1f2, .ref h13])]) hx hb hml hown hU hK hT rfl rfl [1] rfl (by decide) (cX5_cellCount_f3983 l D k _ h1 h13 h1f0 h1f1 h1f2 (by omega) (by omega)) w385 w382 w383 w384 w64 hdX5_cellCount ⟨rfl, rfl⟩ ⟨Nat.le_of_ble_eq_true rfl, Nat.le_of_ble_eq_true rfl⟩ rfl hl.1 (Nat.le_of_ble_eq_true rfl) dX10_refusalOfTable_47 ⟨Nat.le_of_ble_eq_true rfl, Nat.le_of_ble_eq_true rfl⟩) hT hS hA [1] [0, 2, 3, 4, 5, 6] rfl rfl rfl (by decide) (by decide) (fun r27 H locs hB J hS => ?_)
          rcases hB with ⟨c_28, b_r27, hT1⟩ | ⟨c_29, b_r27, hT1⟩ | ⟨c_30, b_r27, hT1⟩
          · skip
            have hT := J _ hT1
            have hT : TP D A [(h0, ob 7 [.ref h1, .ref h2, .int h0f2, .ref h3, .ref h4, .ref h5, .int h0f6, .ref h6, .int h0f8, .null, .ref h7, .int h0f11, .ref h8, .ref h9, .ref h10, .ref h11, .ref h12]), (h4, aQ (k 3) 4 (q4 h17 h18 h19 h20)), (h17, ob 5 [.int h17f0, .int h17f1, .ref h37]), (h19, ob 5 [.int h19f0, .int h19f1, .ref h39]), (h20, ob 5 [.int h20f0, .int h20f1, .ref h40]), (h18, ob 5 [.int h18f0, .int h18f1, .ref h38]), (h1, ob 4 [.int h1f0, .int h1f1, .int h1f2, .ref h13])] H := hT
            refine tcI (Tc := [(h18, ob 5 [.int h18f0, .int h18f1, .ref h38])]) (Tr := [(h0, ob 7 [.ref h1, .ref h2, .int h0f2, .ref h3, .ref h4, .ref h5, .int h0f6, .ref h6, .int h0f8, .null, .ref h7, .int h0f11, .ref h8, .ref h9, .ref h10, .ref h11, .ref h12]), (h4, aQ (k 3) 4 (q4 h17 h18 h19 h20)), (h17, ob 5 [.int h17f0, .int h17f1, .ref h37]), (h19, ob 5 [.int h19f0, .int h19f1, .ref h39]), (h20, ob 5 [.int h20f0, .int h20f1, .ref h40]), (h1, ob 4 [.int h1f0, .int h1f1, .int h1f2, .ref h13])]) (as := [h18]) (zcV (q0 := 5) (ci := 5) (As := [.int x2, .int r27]) (rest := []) (Tc := [(h18, ob 5 [.int h18f0, .int h18f1, .ref h38])]) hx hb hml hown hU hK hT rfl rfl [5] rfl (by decide) (cX6_isOutside_cc85b l D k _ h18 h38 x2 r27 h18f0 h18f1 (by omega) (by omega)) w648 w645 w646 w647 w71 hdX6_isOutside ⟨rfl, rfl⟩ ⟨Nat.le_of_ble_eq_true rfl, Nat.le_of_ble_eq_true rfl⟩ rfl hl.1 (Nat.le_of_ble_eq_true rfl) dX10_refusalOfTable_50 ⟨Nat.le_of_ble_eq_true rfl, Nat.le_of_ble_eq_true rfl⟩) hT hS hA [5] [0, 1, 2, 3, 4, 6] rfl rfl rfl (by decide) (by decide) (fun r31 H locs hB J hS => ?_)
            rcases hB with ⟨rfl, hT1⟩ | ⟨c_32, c_33, c_34, rfl, hT1⟩
            · skip
              have hT := J _ hT1
              have hT : TP D A [(h0, ob 7 [.ref h1, .ref h2, .int h0f2, .ref h3, .ref h4, .ref h5, .int h0f6, .ref h6, .int h0f8, .null, .ref h7, .int h0f11, .ref h8, .ref h9, .ref h10, .ref h11, .ref h12]), (h4, aQ (k 3) 4 (q4 h17 h18 h19 h20)), (h17, ob 5 [.int h17f0, .int h17f1, .ref h37]), (h19, ob 5 [.int h19f0, .int h19f1, .ref h39]), (h20, ob 5 [.int h20f0, .int h20f1, .ref h40]), (h1, ob 4 [.int h1f0, .int h1f1, .int h1f2, .ref h13]), (h18, ob 5 [.int h18f0, .int h18f1, .ref h38])] H := hT
              refine lv_if_eq (tgt := 61) hx hb dX10_refusalOfTable_53 (by decide) (fun cc => absurd cc (by decide +kernel)) (fun _ => ?_)
              refine lv_bipush (v := (-12)) hx hb dX10_refusalOfTable_56 (by decide) ?_
              refine lv_goto (tgt := 62) hx hb dX10_refusalOfTable_58 (by decide) ?_
              exact tz_retI (B := B_cX10_refusalOfTable_450e2 D k h0 h1 h4 h17 h18 h19 h20 h2 h3 h5 h6 h7 h8 h9 h10 h11 h12 h13 h37 h38 h39 h40 x1 x2 h0f2 h0f6 h0f8 h0f11 h1f0 h1f1 h1f2 h17f0 h17f1 h18f0 h18f1 h19f0 h19f1 h20f0 h20f1) (v := (-12)) hQ hx hb hr hlocks hS (Nat.le_of_ble_eq_true rfl) (Nat.le_of_ble_eq_true rfl) dX10_refusalOfTable_62 (Or.inr (Or.inl ⟨rfl, (hT.sub [0, 5, 1, 2, 6, 3, 4] (by decide) rfl)⟩))
            · skip
              have hT := J _ hT1
              have hT : TP D A [(h0, ob 7 [.ref h1, .ref h2, .int h0f2, .ref h3, .ref h4, .ref h5, .int h0f6, .ref h6, .int h0f8, .null, .ref h7, .int h0f11, .ref h8, .ref h9, .ref h10, .ref h11, .ref h12]), (h4, aQ (k 3) 4 (q4 h17 h18 h19 h20)), (h17, ob 5 [.int h17f0, .int h17f1, .ref h37]), (h19, ob 5 [.int h19f0, .int h19f1, .ref h39]), (h20, ob 5 [.int h20f0, .int h20f1, .ref h40]), (h1, ob 4 [.int h1f0, .int h1f1, .int h1f2, .ref h13]), (h18, ob 5 [.int h18f0, .int h18f1, .ref h38])] H := hT
              refine lv_if_eq (tgt := 61) hx hb dX10_refusalOfTable_53 (by decide) (fun _ => ?_) (fun cc => absurd (by decide +kernel) cc)
              refine lv_iconst (v := 0) hx hb dX10_refusalOfTable_61 (by decide) ?_
              exact tz_retI (B := B_cX10_refusalOfTable_450e2 D k h0 h1 h4 h17 h18 h19 h20 h2 h3 h5 h6 h7 h8 h9 h10 h11 h12 h13 h37 h38 h39 h40 x1 x2 h0f2 h0f6 h0f8 h0f11 h1f0 h1f1 h1f2 h17f0 h17f1 h18f0 h18f1 h19f0 h19f1 h20f0 h20f1) (v := 0) hQ hx hb hr hlocks hS (Nat.le_of_ble_eq_true rfl) (Nat.le_of_ble_eq_true rfl) dX10_refusalOfTable_62 (Or.inr (Or.inr (Or.inr (Or.inr (Or.inr (Or.inr (Or.inr (Or.inl ⟨r27, (by have := li_0; omega), (by have := li_0; omega), (by have := li_0; omega), (by have := li_0; omega), (by have := li_0; omega), (by have := li_0; omega), (by have := li_0; omega), (by have := li_0; omega), (by have := li_0; omega), (by have := li_0; omega), rfl, (hT.sub [0, 5, 1, 2, 6, 3, 4] (by decide) rfl)⟩))))))))
          · skip
            have hT := J _ hT1
            have hT : TP D A [(h0, ob 7 [.ref h1, .ref h2, .int h0f2, .ref h3, .ref h4, .ref h5, .int h0f6, .ref h6, .int h0f8, .null, .ref h7, .int h0f11, .ref h8, .ref h9, .ref h10, .ref h11, .ref h12]), (h4, aQ (k 3) 4 (q4 h17 h18 h19 h20)), (h17, ob 5 [.int h17f0, .int h17f1, .ref h37]), (h19, ob 5 [.int h19f0, .int h19f1, .ref h39]), (h20, ob 5 [.int h20f0, .int h20f1, .ref h40]), (h18, ob 5 [.int h18f0, .int h18f1, .ref h38]), (h1, ob 4 [.int h1f0, .int h1f1, .int h1f2, .ref h13])] H := hT
            refine tcI (Tc := [(h18, ob 5 [.int h18f0, .int h18f1, .ref h38])]) (Tr := [(h0, ob 7 [.ref h1, .ref h2, .int h0f2, .ref h3, .ref h4, .ref h5, .int h0f6, .ref h6, .int h0f8, .null, .ref h7, .int h0f11, .ref h8, .ref h9, .ref h10, .ref h11, .ref h12]), (h4, aQ (k 3) 4 (q4 h17 h18 h19 h20)), (h17, ob 5 [.int h17f0, .int h17f1, .ref h37]), (h19, ob 5 [.int h19f0, .int h19f1, .ref h39]), (h20, ob 5 [.int h20f0, .int h20f1, .ref h40]), (h1, ob 4 [.int h1f0, .int h1f1, .int h1f2, .ref h13])]) (as := [h18]) (zcV (q0 := 5) (ci := 5) (As := [.int x2, .int r27]) (rest := []) (Tc := [(h18, ob 5 [.int h18f0, .int h18f1, .ref h38])]) hx hb hml hown hU hK hT rfl rfl [5] rfl (by decide) (cX6_isOutside_cc85b l D k _ h18 h38 x2 r27 h18f0 h18f1 (by omega) (by omega)) w648 w645 w646 w647 w71 hdX6_isOutside ⟨rfl, rfl⟩ ⟨Nat.le_of_ble_eq_true rfl, Nat.le_of_ble_eq_true rfl⟩ rfl hl.1 (Nat.le_of_ble_eq_true rfl) dX10_refusalOfTable_50 ⟨Nat.le_of_ble_eq_true rfl, Nat.le_of_ble_eq_true rfl⟩) hT hS hA [5] [0, 1, 2, 3, 4, 6] rfl rfl rfl (by decide) (by decide) (fun r35 H locs hB J hS => ?_)
            rcases hB with ⟨rfl, hT1⟩ | ⟨c_36, c_37, c_38, rfl, hT1⟩
            · skip
              have hT := J _ hT1
              have hT : TP D A [(h0, ob 7 [.ref h1, .ref h2, .int h0f2, .ref h3, .ref h4, .ref h5, .int h0f6, .ref h6, .int h0f8, .null, .ref h7, .int h0f11, .ref h8, .ref h9, .ref h10, .ref h11, .ref h12]), (h4, aQ (k 3) 4 (q4 h17 h18 h19 h20)), (h17, ob 5 [.int h17f0, .int h17f1, .ref h37]), (h19, ob 5 [.int h19f0, .int h19f1, .ref h39]), (h20, ob 5 [.int h20f0, .int h20f1, .ref h40]), (h1, ob 4 [.int h1f0, .int h1f1, .int h1f2, .ref h13]), (h18, ob 5 [.int h18f0, .int h18f1, .ref h38])] H := hT
              refine lv_if_eq (tgt := 61) hx hb dX10_refusalOfTable_53 (by decide) (fun cc => absurd cc (by decide +kernel)) (fun _ => ?_)
              refine lv_bipush (v := (-12)) hx hb dX10_refusalOfTable_56 (by decide) ?_
              refine lv_goto (tgt := 62) hx hb dX10_refusalOfTable_58 (by decide) ?_
              exact tz_retI (B := B_cX10_refusalOfTable_450e2 D k h0 h1 h4 h17 h18 h19 h20 h2 h3 h5 h6 h7 h8 h9 h10 h11 h12 h13 h37 h38 h39 h40 x1 x2 h0f2 h0f6 h0f8 h0f11 h1f0 h1f1 h1f2 h17f0 h17f1 h18f0 h18f1 h19f0 h19f1 h20f0 h20f1) (v := (-12)) hQ hx hb hr hlocks hS (Nat.le_of_ble_eq_true rfl) (Nat.le_of_ble_eq_true rfl) dX10_refusalOfTable_62 (Or.inr (Or.inl ⟨rfl, (hT.sub [0, 5, 1, 2, 6, 3, 4] (by decide) rfl)⟩))
            · skip
              have hT := J _ hT1
              have hT : TP D A [(h0, ob 7 [.ref h1, .ref h2, .int h0f2, .ref h3, .ref h4, .ref h5, .int h0f6, .ref h6, .int h0f8, .null, .ref h7, .int h0f11, .ref h8, .ref h9, .ref h10, .ref h11, .ref h12]), (h4, aQ (k 3) 4 (q4 h17 h18 h19 h20)), (h17, ob 5 [.int h17f0, .int h17f1, .ref h37]), (h19, ob 5 [.int h19f0, .int h19f1, .ref h39]), (h20, ob 5 [.int h20f0, .int h20f1, .ref h40]), (h1, ob 4 [.int h1f0, .int h1f1, .int h1f2, .ref h13]), (h18, ob 5 [.int h18f0, .int h18f1, .ref h38])] H := hT
              refine lv_if_eq (tgt := 61) hx hb dX10_refusalOfTable_53 (by decide) (fun _ => ?_) (fun cc => absurd (by decide +kernel) cc)
              refine lv_iconst (v := 0) hx hb dX10_refusalOfTable_61 (by decide) ?_
              exact tz_retI (B := B_cX10_refusalOfTable_450e2 D k h0 h1 h4 h17 h18 h19 h20 h2 h3 h5 h6 h7 h8 h9 h10 h11 h12 h13 h37 h38 h39 h40 x1 x2 h0f2 h0f6 h0f8 h0f11 h1f0 h1f1 h1f2 h17f0 h17f1 h18f0 h18f1 h19f0 h19f1 h20f0 h20f1) (v := 0) hQ hx hb hr hlocks hS (Nat.le_of_ble_eq_true rfl) (Nat.le_of_ble_eq_true rfl) dX10_refusalOfTable_62 (Or.inr (Or.inr (Or.inr (Or.inr (Or.inr (Or.inr (Or.inr (Or.inr (Or.inl ⟨r27, (by have := li_0; omega), (by have := li_0; omega), (by have := li_0; omega), (by have := li_0; omega), (by have := li_0; omega), (by have := li_0; omega), (by have := li_0; omega), (by have := li_0; omega), (by have := li_0; omega), (by have := li_0; omega), rfl, (hT.sub [0, 5, 1, 2, 6, 3, 4] (by decide) rfl)⟩)))))))))
          · skip
            have hT := J _ hT1
            have hT : TP D A [(h0, ob 7 [.ref h1, .ref h2, .int h0f2, .ref h3, .ref h4, .ref h5, .int h0f6, .ref h6, .int h0f8, .null, .ref h7, .int h0f11, .ref h8, .ref h9, .ref h10, .ref h11, .ref h12]), (h4, aQ (k 3) 4 (q4 h17 h18 h19 h20)), (h17, ob 5 [.int h17f0, .int h17f1, .ref h37]), (h19, ob 5 [.int h19f0, .int h19f1, .ref h39]), (h20, ob 5 [.int h20f0, .int h20f1, .ref h40]), (h18, ob 5 [.int h18f0, .int h18f1, .ref h38]), (h1, ob 4 [.int h1f0, .int h1f1, .int h1f2, .ref h13])] H := hT
            refine tcI (Tc := [(h18, ob 5 [.int h18f0, .int h18f1, .ref h38])]) (Tr := [(h0, ob 7 [.ref h1, .ref h2, .int h0f2, .ref h3, .ref h4, .ref h5, .int h0f6, .ref h6, .int h0f8, .null, .ref h7, .int h0f11, .ref h8, .ref h9, .ref h10, .ref h11, .ref h12]), (h4, aQ (k 3) 4 (q4 h17 h18 h19 h20)), (h17, ob 5 [.int h17f0, .int h17f1, .ref h37]), (h19, ob 5 [.int h19f0, .int h19f1, .ref h39]), (h20, ob 5 [.int h20f0, .int h20f1, .ref h40]), (h1, ob 4 [.int h1f0, .int h1f1, .int h1f2, .ref h13])]) (as := [h18]) (zcV (q0 := 5) (ci := 5) (As := [.int x2, .int r27]) (rest := []) (Tc := [(h18, ob 5 [.int h18f0, .int h18f1, .ref h38])]) hx hb hml hown hU hK hT rfl rfl [5] rfl (by decide) (cX6_isOutside_cc85b l D k _ h18 h38 x2 r27 h18f0 h18f1 (by omega) (by omega)) w648 w645 w646 w647 w71 hdX6_isOutside ⟨rfl, rfl⟩ ⟨Nat.le_of_ble_eq_true rfl, Nat.le_of_ble_eq_true rfl⟩ rfl hl.1 (Nat.le_of_ble_eq_true rfl) dX10_refusalOfTable_50 ⟨Nat.le_of_ble_eq_true rfl, Nat.le_of_ble_eq_true rfl⟩) hT hS hA [5] [0, 1, 2, 3, 4, 6] rfl rfl rfl (by decide) (by decide) (fun r39 H locs hB J hS => ?_)
            rcases hB with ⟨rfl, hT1⟩ | ⟨c_40, c_41, c_42, rfl, hT1⟩
            · skip
              have hT := J _ hT1
              have hT : TP D A [(h0, ob 7 [.ref h1, .ref h2, .int h0f2, .ref h3, .ref h4, .ref h5, .int h0f6, .ref h6, .int h0f8, .null, .ref h7, .int h0f11, .ref h8, .ref h9, .ref h10, .ref h11, .ref h12]), (h4, aQ (k 3) 4 (q4 h17 h18 h19 h20)), (h17, ob 5 [.int h17f0, .int h17f1, .ref h37]), (h19, ob 5 [.int h19f0, .int h19f1, .ref h39]), (h20, ob 5 [.int h20f0, .int h20f1, .ref h40]), (h1, ob 4 [.int h1f0, .int h1f1, .int h1f2, .ref h13]), (h18, ob 5 [.int h18f0, .int h18f1, .ref h38])] H := hT
              refine lv_if_eq (tgt := 61) hx hb dX10_refusalOfTable_53 (by decide) (fun cc => absurd cc (by decide +kernel)) (fun _ => ?_)
              refine lv_bipush (v := (-12)) hx hb dX10_refusalOfTable_56 (by decide) ?_
              refine lv_goto (tgt := 62) hx hb dX10_refusalOfTable_58 (by decide) ?_
              exact tz_retI (B := B_cX10_refusalOfTable_450e2 D k h0 h1 h4 h17 h18 h19 h20 h2 h3 h5 h6 h7 h8 h9 h10 h11 h12 h13 h37 h38 h39 h40 x1 x2 h0f2 h0f6 h0f8 h0f11 h1f0 h1f1 h1f2 h17f0 h17f1 h18f0 h18f1 h19f0 h19f1 h20f0 h20f1) (v := (-12)) hQ hx hb hr hlocks hS (Nat.le_of_ble_eq_true rfl) (Nat.le_of_ble_eq_true rfl) dX10_refusalOfTable_62 (Or.inr (Or.inl ⟨rfl, (hT.sub [0, 5, 1, 2, 6, 3, 4] (by decide) rfl)⟩))
            · skip
              have hT := J _ hT1
              have hT : TP D A [(h0, ob 7 [.ref h1, .ref h2, .int h0f2, .ref h3, .ref h4, .ref h5, .int h0f6, .ref h6, .int h0f8, .null, .ref h7, .int h0f11, .ref h8, .ref h9, .ref h10, .ref h11, .ref h12]), (h4, aQ (k 3) 4 (q4 h17 h18 h19 h20)), (h17, ob 5 [.int h17f0, .int h17f1, .ref h37]), (h19, ob 5 [.int h19f0, .int h19f1, .ref h39]), (h20, ob 5 [.int h20f0, .int h20f1, .ref h40]), (h1, ob 4 [.int h1f0, .int h1f1, .int h1f2, .ref h13]), (h18, ob 5 [.int h18f0, .int h18f1, .ref h38])] H := hT
              refine lv_if_eq (tgt := 61) hx hb dX10_refusalOfTable_53 (by decide) (fun _ => ?_) (fun cc => absurd (by decide +kernel) cc)
              refine lv_iconst (v := 0) hx hb dX10_refusalOfTable_61 (by decide) ?_
              exact tz_retI (B := B_cX10_refusalOfTable_450e2 D k h0 h1 h4 h17 h18 h19 h20 h2 h3 h5 h6 h7 h8 h9 h10 h11 h12 h13 h37 h38 h39 h40 x1 x2 h0f2 h0f6 h0f8 h0f11 h1f0 h1f1 h1f2 h17f0 h17f1 h18f0 h18f1 h19f0 h19f1 h20f0 h20f1) (v := 0) hQ hx hb hr hlocks hS (Nat.le_of_ble_eq_true rfl) (Nat.le_of_ble_eq_true rfl) dX10_refusalOfTable_62 (Or.inr (Or.inr (Or.inr (Or.inr (Or.inr (Or.inr (Or.inr (Or.inr (Or.inr (Or.inl ⟨r27, (by have := li_0; omega), (by have := li_0; omega), (by have := li_0; omega), (by have := li_0; omega), (by have := li_0; omega), (by have := li_0; omega), (by have := li_0; omega), (by have := li_0; omega), (by have := li_0; omega), (by have := li_0; omega), rfl, (hT.sub [0, 5, 1, 2, 6, 3, 4] (by decide) rfl)⟩))))))))))
        · skip
          have c_26 := ni_nle c_26 rfl li_0
          refine lv_bipush (v := (-13)) hx hb dX10_refusalOfTable_37 (by decide) ?_
          exact tz_retI (B := B_cX10_refusalOfTable_450e2 D k h0 h1 h4 h17 h18 h19 h20 h2 h3 h5 h6 h7 h8 h9 h10 h11 h12 h13 h37 h38 h39 h40 x1 x2 h0f2 h0f6 h0f8 h0f11 h1f0 h1f1 h1f2 h17f0 h17f1 h18f0 h18f1 h19f0 h19f1 h20f0 h20f1) (v := (-13)) hQ hx hb hr hlocks hS (Nat.le_of_ble_eq_true rfl) (Nat.le_of_ble_eq_true rfl) dX10_refusalOfTable_39 (Or.inr (Or.inr (Or.inr (Or.inr (Or.inr (Or.inl ⟨rfl, (hT.sub [0, 1, 2, 3, 6, 4, 5] (by decide) rfl)⟩))))))
      · skip
        have hT := J _ hT1
        have hT : TP D A [(h0, ob 7 [.ref h1, .ref h2, .int h0f2, .ref h3, .ref h4, .ref h5, .int h0f6, .ref h6, .int h0f8, .null, .ref h7, .int h0f11, .ref h8, .ref h9, .ref h10, .ref h11, .ref h12]), (h1, ob 4 [.int h1f0, .int h1f1, .int h1f2, .ref h13]), (h4, aQ (k 3) 4 (q4 h17 h18 h19 h20)), (h17, ob 5 [.int h17f0, .int h17f1, .ref h37]), (h19, ob 5 [.int h19f0, .int h19f1, .ref h39]), (h20, ob 5 [.int h20f0, .int h20f1, .ref h40]), (h18, ob 5 [.int h18f0, .int h18f1, .ref h38])] H := hT
        refine lv_if_eq (tgt := 28) hx hb dX10_refusalOfTable_22 (by decide) (fun cc => absurd cc (by decide +kernel)) (fun _ => ?_)
        refine lv_bipush (v := (-11)) hx hb dX10_refusalOfTable_25 (by decide) ?_
        exact tz_retI (B := B_cX10_refusalOfTable_450e2 D k h0 h1 h4 h17 h18 h19 h20 h2 h3 h5 h6 h7 h8 h9 h10 h11 h12 h13 h37 h38 h39 h40 x1 x2 h0f2 h0f6 h0f8 h0f11 h1f0 h1f1 h1f2 h17f0 h17f1 h18f0 h18f1 h19f0 h19f1 h20f0 h20f1) (v := (-11)) hQ hx hb hr hlocks hS (Nat.le_of_ble_eq_true rfl) (Nat.le_of_ble_eq_true rfl) dX10_refusalOfTable_27 (Or.inr (Or.inr (Or.inr (Or.inr (Or.inr (Or.inr (Or.inl ⟨rfl, (hT.sub [0, 1, 2, 3, 6, 4, 5] (by decide) rfl)⟩)))))))
    · skip
      refine tz_aldq (b := h19) hx hb hK hT 2 rfl (vp_in_iff.mpr (by have := hq4; omega)) (fun f hf => by rw [cl_of hq4]; exact hf.2.2.1) dX10_refusalOfTable_14 ?_
      refine lv_astore (lv' := [(4, .ref h19), (0, .ref h0), (1, .int x1), (2, .int x2), (3, .int 0)]) hx hb dX10_refusalOfTable_15 hl (by decide) rfl (fun ls hl => ?_)
      refine lv_aload hx hb dX10_refusalOfTable_17 (lv_at hl 0 rfl) ?_
      refine tcI (Tc := [(h19, ob 5 [.int h19f0, .int h19f1, .ref h39])]) (Tr := [(h0, ob 7 [.ref h1, .ref h2, .int h0f2, .ref h3, .ref h4, .ref h5, .int h0f6, .ref h6, .int h0f8, .null, .ref h7, .int h0f11, .ref h8, .ref h9, .ref h10, .ref h11, .ref h12]), (h1, ob 4 [.int h1f0, .int h1f1, .int h1f2, .ref h13]), (h4, aQ (k 3) 4 (q4 h17 h18 h19 h20)), (h17, ob 5 [.int h17f0, .int h17f1, .ref h37]), (h18, ob 5 [.int h18f0, .int h18f1, .ref h38]), (h20, ob 5 [.int h20f0, .int h20f1, .ref h40])]) (as := [h19]) (zcV (q0 := 5) (ci := 5) (As := []) (rest := []) (Tc := [(h19, ob 5 [.int h19f0, .int h19f1, .ref h39])]) hx hb hml hown hU hK hT rfl rfl [5] rfl (by decide) (cX6_isMissing_56a93 l D k _ h19 h39 h19f0 h19f1 (by omega) (by omega)) w644 w641 w642 w643 w71 hdX6_isMissing ⟨rfl, rfl⟩ ⟨Nat.le_of_ble_eq_true rfl, Nat.le_of_ble_eq_true rfl⟩ rfl hl.1 (Nat.le_of_ble_eq_true rfl) dX10_refusalOfTable_19 ⟨Nat.le_of_ble_eq_true rfl, Nat.le_of_ble_eq_true rfl⟩) hT hS hA [5] [0, 1, 2, 3, 4, 6] rfl rfl rfl (by decide) (by decide) (fun r43 H locs hB J hS => ?_)
      rcases hB with ⟨c_44, rfl, hT1⟩ | ⟨rfl, hT1⟩
      · skip
        have hT := J _ hT1
        have hT : TP D A [(h0, ob 7 [.ref h1, .ref h2, .int h0f2, .ref h3, .ref h4, .ref h5, .int h0f6, .ref h6, .int h0f8, .null, .ref h7, .int h0f11, .ref h8, .ref h9, .ref h10, .ref h11, .ref h12]), (h1, ob 4 [.int h1f0, .int h1f1, .int h1f2, .ref h13]), (h4, aQ (k 3) 4 (q4 h17 h18 h19 h20)), (h17, ob 5 [.int h17f0, .int h17f1, .ref h37]), (h18, ob 5 [.int h18f0, .int h18f1, .ref h38]), (h20, ob 5 [.int h20f0, .int h20f1, .ref h40]), (h19, ob 5 [.int h19f0, .int h19f1, .ref h39])] H := hT
        refine lv_if_eq (tgt := 28) hx hb dX10_refusalOfTable_22 (by decide) (fun _ => ?_) (fun cc => absurd (by decide +kernel) cc)
        refine lv_aload hx hb dX10_refusalOfTable_28 (lv_at hl 0 rfl) ?_
        refine tz_get (ci := 5) (v := .int h19f0) (C := RX6) (F := TX6) (N := 3) hx hb hU iX6 hown hK hT 6 rfl rfl 0 (by decide) w238 (fun _ h9 => h9) rfl dX10_refusalOfTable_30 ?_
        refine lv_iload_n hx hb dX10_refusalOfTable_33 rfl (lv_at hl 4 rfl) ?_
        refine lv_icmp_le (tgt := 40) hx hb dX10_refusalOfTable_34 (by decide) (fun c_45 => ?_) (fun c_45 => ?_)
        · skip
          have c_45 := ni_le c_45 rfl li_0
          refine lv_aload hx hb dX10_refusalOfTable_40 (lv_at hl 0 rfl) ?_
          refine lv_iload_n hx hb dX10_refusalOfTable_42 rfl (lv_at hl 3 rfl) ?_
          refine lv_aload_n hx hb dX10_refusalOfTable_43 rfl (lv_at hl 1 rfl) ?_
          refine tz_get (ci := 7) (v := .ref h1) (C := RX10) (F := TX10) (N := 17) hx hb hU iX10 hown hK hT 0 rfl rfl 0 (by decide) w249 (fun _ h9 => h9) rfl dX10_refusalOfTable_44 ?_
          refine tcI (Tc := [(h1, ob 4 [.int h1f0, .int h1f1, .int h1f2, .ref h13])]) (Tr := [(h0, ob 7 [.ref h1, .ref h2, .int h0f2, .ref h3, .ref h4, .ref h5, .int h0f6, .ref h6, .int h0f8, .null, .ref h7, .int h0f11, .ref h8, .ref h9, .ref h10, .ref h11, .ref h12]), (h4, aQ (k 3) 4 (q4 h17 h18 h19 h20)), (h17, ob 5 [.int h17f0, .int h17f1, .ref h37]), (h18, ob 5 [.int h18f0, .int h18f1, .ref h38]), (h20, ob 5 [.int h20f0, .int h20f1, .ref h40]), (h19, ob 5 [.int h19f0, .int h19f1, .ref h39])]) (as := [h1]) (zcV (q0 := 1) (ci := 4) (As := []) (rest := [.int x2, .ref h19]) (Tc := [(h1, ob 4 [.int h1f0, .int h1f1, .int h1f2, .ref h13])]) hx hb hml hown hU hK hT rfl rfl [1] rfl (by decide) (cX5_cellCount_f3983 l D k _ h1 h13 h1f0 h1f1 h1f2 (by omega) (by omega)) w385 w382 w383 w384 w64 hdX5_cellCount ⟨rfl, rfl⟩ ⟨Nat.le_of_ble_eq_true rfl, Nat.le_of_ble_eq_true rfl⟩ rfl hl.1 (Nat.le_of_ble_eq_true rfl) dX10_refusalOfTable_47 ⟨Nat.le_of_ble_eq_true rfl, Nat.le_of_ble_eq_true rfl⟩) hT hS hA [1] [0, 2, 3, 4, 5, 6] rfl rfl rfl (by decide) (by decide) (fun r46 H locs hB J hS => ?_)
          rcases hB with ⟨c_47, b_r46, hT1⟩ | ⟨c_48, b_r46, hT1⟩ | ⟨c_49, b_r46, hT1⟩
          · skip
            have hT := J _ hT1
            have hT : TP D A [(h0, ob 7 [.ref h1, .ref h2, .int h0f2, .ref h3, .ref h4, .ref h5, .int h0f6, .ref h6, .int h0f8, .null, .ref h7, .int h0f11, .ref h8, .ref h9, .ref h10, .ref h11, .ref h12]), (h4, aQ (k 3) 4 (q4 h17 h18 h19 h20)), (h17, ob 5 [.int h17f0, .int h17f1, .ref h37]), (h18, ob 5 [.int h18f0, .int h18f1, .ref h38]), (h20, ob 5 [.int h20f0, .int h20f1, .ref h40]), (h19, ob 5 [.int h19f0, .int h19f1, .ref h39]), (h1, ob 4 [.int h1f0, .int h1f1, .int h1f2, .ref h13])] H := hT
            refine tcI (Tc := [(h19, ob 5 [.int h19f0, .int h19f1, .ref h39])]) (Tr := [(h0, ob 7 [.ref h1, .ref h2, .int h0f2, .ref h3, .ref h4, .ref h5, .int h0f6, .ref h6, .int h0f8, .null, .ref h7, .int h0f11, .ref h8, .ref h9, .ref h10, .ref h11, .ref h12]), (h4, aQ (k 3) 4 (q4 h17 h18 h19 h20)), (h17, ob 5 [.int h17f0, .int h17f1, .ref h37]), (h18, ob 5 [.int h18f0, .int h18f1, .ref h38]), (h20, ob 5 [.int h20f0, .int h20f1, .ref h40]), (h1, ob 4 [.int h1f0, .int h1f1, .int h1f2, .ref h13])]) (as := [h19]) (zcV (q0 := 5) (ci := 5) (As := [.int x2, .int r46]) (rest := []) (Tc := [(h19, ob 5 [.int h19f0, .int h19f1, .ref h39])]) hx hb hml hown hU hK hT rfl rfl [5] rfl (by decide) (cX6_isOutside_cc85b l D k _ h19 h39 x2 r46 h19f0 h19f1 (by omega) (by omega)) w648 w645 w646 w647 w71 hdX6_isOutside ⟨rfl, rfl⟩ ⟨Nat.le_of_ble_eq_true rfl, Nat.le_of_ble_eq_true rfl⟩ rfl hl.1 (Nat.le_of_ble_eq_true rfl) dX10_refusalOfTable_50 ⟨Nat.le_of_ble_eq_true rfl, Nat.le_of_ble_eq_true rfl⟩) hT hS hA [5] [0, 1, 2, 3, 4, 6] rfl rfl rfl (by decide) (by decide) (fun r50 H locs hB J hS => ?_)
            rcases hB with ⟨rfl, hT1⟩ | ⟨c_51, c_52, c_53, rfl, hT1⟩
            · skip
              have hT := J _ hT1
              have hT : TP D A [(h0, ob 7 [.ref h1, .ref h2, .int h0f2, .ref h3, .ref h4, .ref h5, .int h0f6, .ref h6, .int h0f8, .null, .ref h7, .int h0f11, .ref h8, .ref h9, .ref h10, .ref h11, .ref h12]), (h4, aQ (k 3) 4 (q4 h17 h18 h19 h20)), (h17, ob 5 [.int h17f0, .int h17f1, .ref h37]), (h18, ob 5 [.int h18f0, .int h18f1, .ref h38]), (h20, ob 5 [.int h20f0, .int h20f1, .ref h40]), (h1, ob 4 [.int h1f0, .int h1f1, .int h1f2, .ref h13]), (h19, ob 5 [.int h19f0, .int h19f1, .ref h39])] H := hT
              refine lv_if_eq (tgt := 61) hx hb dX10_refusalOfTable_53 (by decide) (fun cc => absurd cc (by decide +kernel)) (fun _ => ?_)
              refine lv_bipush (v := (-12)) hx hb dX10_refusalOfTable_56 (by decide) ?_
              refine lv_goto (tgt := 62) hx hb dX10_refusalOfTable_58 (by decide) ?_
              exact tz_retI (B := B_cX10_refusalOfTable_450e2 D k h0 h1 h4 h17 h18 h19 h20 h2 h3 h5 h6 h7 h8 h9 h10 h11 h12 h13 h37 h38 h39 h40 x1 x2 h0f2 h0f6 h0f8 h0f11 h1f0 h1f1 h1f2 h17f0 h17f1 h18f0 h18f1 h19f0 h19f1 h20f0 h20f1) (v := (-12)) hQ hx hb hr hlocks hS (Nat.le_of_ble_eq_true rfl) (Nat.le_of_ble_eq_true rfl) dX10_refusalOfTable_62 (Or.inr (Or.inl ⟨rfl, (hT.sub [0, 5, 1, 2, 3, 6, 4] (by decide) rfl)⟩))
            · skip
              have hT := J _ hT1
              have hT : TP D A [(h0, ob 7 [.ref h1, .ref h2, .int h0f2, .ref h3, .ref h4, .ref h5, .int h0f6, .ref h6, .int h0f8, .null, .ref h7, .int h0f11, .ref h8, .ref h9, .ref h10, .ref h11, .ref h12]), (h4, aQ (k 3) 4 (q4 h17 h18 h19 h20)), (h17, ob 5 [.int h17f0, .int h17f1, .ref h37]), (h18, ob 5 [.int h18f0, .int h18f1, .ref h38]), (h20, ob 5 [.int h20f0, .int h20f1, .ref h40]), (h1, ob 4 [.int h1f0, .int h1f1, .int h1f2, .ref h13]), (h19, ob 5 [.int h19f0, .int h19f1, .ref h39])] H := hT
              refine lv_if_eq (tgt := 61) hx hb dX10_refusalOfTable_53 (by decide) (fun _ => ?_) (fun cc => absurd (by decide +kernel) cc)
              refine lv_iconst (v := 0) hx hb dX10_refusalOfTable_61 (by decide) ?_
              exact tz_retI (B := B_cX10_refusalOfTable_450e2 D k h0 h1 h4 h17 h18 h19 h20 h2 h3 h5 h6 h7 h8 h9 h10 h11 h12 h13 h37 h38 h39 h40 x1 x2 h0f2 h0f6 h0f8 h0f11 h1f0 h1f1 h1f2 h17f0 h17f1 h18f0 h18f1 h19f0 h19f1 h20f0 h20f1) (v := 0) hQ hx hb hr hlocks hS (Nat.le_of_ble_eq_true rfl) (Nat.le_of_ble_eq_true rfl) dX10_refusalOfTable_62 (Or.inr (Or.inr (Or.inr (Or.inr (Or.inr (Or.inr (Or.inr (Or.inr (Or.inr (Or.inr (Or.inl ⟨r46, (by have := li_0; omega), (by have := li_0; omega), (by have := li_0; omega), (by have := li_0; omega), (by have := li_0; omega), (by have := li_0; omega), (by have := li_0; omega), (by have := li_0; omega), (by have := li_0; omega), (by have := li_0; omega), rfl, (hT.sub [0, 5, 1, 2, 3, 6, 4] (by decide) rfl)⟩)))))))))))
          · skip
            have hT := J _ hT1
            have hT : TP D A [(h0, ob 7 [.ref h1, .ref h2, .int h0f2, .ref h3, .ref h4, .ref h5, .int h0f6, .ref h6, .int h0f8, .null, .ref h7, .int h0f11, .ref h8, .ref h9, .ref h10, .ref h11, .ref h12]), (h4, aQ (k 3) 4 (q4 h17 h18 h19 h20)), (h17, ob 5 [.int h17f0, .int h17f1, .ref h37]), (h18, ob 5 [.int h18f0, .int h18f1, .ref h38]), (h20, ob 5 [.int h20f0, .int h20f1, .ref h40]), (h19, ob 5 [.int h19f0, .int h19f1, .ref h39]), (h1, ob 4 [.int h1f0, .int h1f1, .int h1f2, .ref h13])] H := hT
            refine tcI (Tc := [(h19, ob 5 [.int h19f0, .int h19f1, .ref h39])]) (Tr := [(h0, ob 7 [.ref h1, .ref h2, .int h0f2, .ref h3, .ref h4, .ref h5, .int h0f6, .ref h6, .int h0f8, .null, .ref h7, .int h0f11, .ref h8, .ref h9, .ref h10, .ref h11, .ref h12]), (h4, aQ (k 3) 4 (q4 h17 h18 h19 h20)), (h17, ob 5 [.int h17f0, .int h17f1, .ref h37]), (h18, ob 5 [.int h18f0, .int h18f1, .ref h38]), (h20, ob 5 [.int h20f0, .int h20f1, .ref h40]), (h1, ob 4 [.int h1f0, .int h1f1, .int h1f2, .ref h13])]) (as := [h19]) (zcV (q0 := 5) (ci := 5) (As := [.int x2, .int r46]) (rest := []) (Tc := [(h19, ob 5 [.int h19f0, .int h19f1, .ref h39])]) hx hb hml hown hU hK hT rfl rfl [5] rfl (by decide) (cX6_isOutside_cc85b l D k _ h19 h39 x2 r46 h19f0 h19f1 (by omega) (by omega)) w648 w645 w646 w647 w71 hdX6_isOutside ⟨rfl, rfl⟩ ⟨Nat.le_of_ble_eq_true rfl, Nat.le_of_ble_eq_true rfl⟩ rfl hl.1 (Nat.le_of_ble_eq_true rfl) dX10_refusalOfTable_50 ⟨Nat.le_of_ble_eq_true rfl, Nat.le_of_ble_eq_true rfl⟩) hT hS hA [5] [0, 1, 2, 3, 4, 6] rfl rfl rfl (by decide) (by decide) (fun r54 H locs hB J hS => ?_)
            rcases hB with ⟨rfl, hT1⟩ | ⟨c_55, c_56, c_57, rfl, hT1⟩
            · skip
              have hT := J _ hT1
              have hT : TP D A [(h0, ob 7 [.ref h1, .ref h2, .int h0f2, .ref h3, .ref h4, .ref h5, .int h0f6, .ref h6, .int h0f8, .null, .ref h7, .int h0f11, .ref h8, .ref h9, .ref h10, .ref h11, .ref h12]), (h4, aQ (k 3) 4 (q4 h17 h18 h19 h20)), (h17, ob 5 [.int h17f0, .int h17f1, .ref h37]), (h18, ob 5 [.int h18f0, .int h18f1, .ref h38]), (h20, ob 5 [.int h20f0, .int h20f1, .ref h40]), (h1, ob 4 [.int h1f0, .int h1f1, .int h1f2, .ref h13]), (h19, ob 5 [.int h19f0, .int h19f1, .ref h39])] H := hT
              refine lv_if_eq (tgt := 61) hx hb dX10_refusalOfTable_53 (by decide) (fun cc => absurd cc (by decide +kernel)) (fun _ => ?_)
              refine lv_bipush (v := (-12)) hx hb dX10_refusalOfTable_56 (by decide) ?_
              refine lv_goto (tgt := 62) hx hb dX10_refusalOfTable_58 (by decide) ?_
              exact tz_retI (B := B_cX10_refusalOfTable_450e2 D k h0 h1 h4 h17 h18 h19 h20 h2 h3 h5 h6 h7 h8 h9 h10 h11 h12 h13 h37 h38 h39 h40 x1 x2 h0f2 h0f6 h0f8 h0f11 h1f0 h1f1 h1f2 h17f0 h17f1 h18f0 h18f1 h19f0 h19f1 h20f0 h20f1) (v := (-12)) hQ hx hb hr hlocks hS (Nat.le_of_ble_eq_true rfl) (Nat.le_of_ble_eq_true rfl) dX10_refusalOfTable_62 (Or.inr (Or.inl ⟨rfl, (hT.sub [0, 5, 1, 2, 3, 6, 4] (by decide) rfl)⟩))
            · skip
              have hT := J _ hT1
              have hT : TP D A [(h0, ob 7 [.ref h1, .ref h2, .int h0f2, .ref h3, .ref h4, .ref h5, .int h0f6, .ref h6, .int h0f8, .null, .ref h7, .int h0f11, .ref h8, .ref h9, .ref h10, .ref h11, .ref h12]), (h4, aQ (k 3) 4 (q4 h17 h18 h19 h20)), (h17, ob 5 [.int h17f0, .int h17f1, .ref h37]), (h18, ob 5 [.int h18f0, .int h18f1, .ref h38]), (h20, ob 5 [.int h20f0, .int h20f1, .ref h40]), (h1, ob 4 [.int h1f0, .int h1f1, .int h1f2, .ref h13]), (h19, ob 5 [.int h19f0, .int h19f1, .ref h39])] H := hT
              refine lv_if_eq (tgt := 61) hx hb dX10_refusalOfTable_53 (by decide) (fun _ => ?_) (fun cc => absurd (by decide +kernel) cc)
              refine lv_iconst (v := 0) hx hb dX10_refusalOfTable_61 (by decide) ?_
              exact tz_retI (B := B_cX10_refusalOfTable_450e2 D k h0 h1 h4 h17 h18 h19 h20 h2 h3 h5 h6 h7 h8 h9 h10 h11 h12 h13 h37 h38 h39 h40 x1 x2 h0f2 h0f6 h0f8 h0f11 h1f0 h1f1 h1f2 h17f0 h17f1 h18f0 h18f1 h19f0 h19f1 h20f0 h20f1) (v := 0) hQ hx hb hr hlocks hS (Nat.le_of_ble_eq_true rfl) (Nat.le_of_ble_eq_true rfl) dX10_refusalOfTable_62 (Or.inr (Or.inr (Or.inr (Or.inr (Or.inr (Or.inr (Or.inr (Or.inr (Or.inr (Or.inr (Or.inr (Or.inl ⟨r46, (by have := li_0; omega), (by have := li_0; omega), (by have := li_0; omega), (by have := li_0; omega), (by have := li_0; omega), (by have := li_0; omega), (by have := li_0; omega), (by have := li_0; omega), (by have := li_0; omega), (by have := li_0; omega), rfl, (hT.sub [0, 5, 1, 2, 3, 6, 4] (by decide) rfl)⟩))))))))))))
          · skip
            have hT := J _ hT1
            have hT : TP D A [(h0, ob 7 [.ref h1, .ref h2, .int h0f2, .ref h3, .ref h4, .ref h5, .int h0f6, .ref h6, .int h0f8, .null, .ref h7, .int h0f11, .ref h8, .ref h9, .ref h10, .ref h11, .ref h12]), (h4, aQ (k 3) 4 (q4 h17 h18 h19 h20)), (h17, ob 5 [.int h17f0, .int h17f1, .ref h37]), (h18, ob 5 [.int h18f0, .int h18f1, .ref h38]), (h20, ob 5 [.int h20f0, .int h20f1, .ref h40]), (h19, ob 5 [.int h19f0, .int h19f1, .ref h39]), (h1, ob 4 [.int h1f0, .int h1f1, .int h1f2, .ref h13])] H := hT
            refine tcI (Tc := [(h19, ob 5 [.int h19f0, .int h19f1, .ref h39])]) (Tr := [(h0, ob 7 [.ref h1, .ref h2, .int h0f2, .ref h3, .ref h4, .ref h5, .int h0f6, .ref h6, .int h0f8, .null, .ref h7, .int h0f11, .ref h8, .ref h9, .ref h10, .ref h11, .ref h12]), (h4, aQ (k 3) 4 (q4 h17 h18 h19 h20)), (h17, ob 5 [.int h17f0, .int h17f1, .ref h37]), (h18, ob 5 [.int h18f0, .int h18f1, .ref h38]), (h20, ob 5 [.int h20f0, .int h20f1, .ref h40]), (h1, ob 4 [.int h1f0, .int h1f1, .int h1f2, .ref h13])]) (as := [h19]) (zcV (q0 := 5) (ci := 5) (As := [.int x2, .int r46]) (rest := []) (Tc := [(h19, ob 5 [.int h19f0, .int h19f1, .ref h39])]) hx hb hml hown hU hK hT rfl rfl [5] rfl (by decide) (cX6_isOutside_cc85b l D k _ h19 h39 x2 r46 h19f0 h19f1 (by omega) (by omega)) w648 w645 w646 w647 w71 hdX6_isOutside ⟨rfl, rfl⟩ ⟨Nat.le_of_ble_eq_true rfl, Nat.le_of_ble_eq_true rfl⟩ rfl hl.1 (Nat.le_of_ble_eq_true rfl) dX10_refusalOfTable_50 ⟨Nat.le_of_ble_eq_true rfl, Nat.le_of_ble_eq_true rfl⟩) hT hS hA [5] [0, 1, 2, 3, 4, 6] rfl rfl rfl (by decide) (by decide) (fun r58 H locs hB J hS => ?_)
            rcases hB with ⟨rfl, hT1⟩ | ⟨c_59, c_60, c_61, rfl, hT1⟩
            · skip
              have hT := J _ hT1
              have hT : TP D A [(h0, ob 7 [.ref h1, .ref h2, .int h0f2, .ref h3, .ref h4, .ref h5, .int h0f6, .ref h6, .int h0f8, .null, .ref h7, .int h0f11, .ref h8, .ref h9, .ref h10, .ref h11, .ref h12]), (h4, aQ (k 3) 4 (q4 h17 h18 h19 h20)), (h17, ob 5 [.int h17f0, .int h17f1, .ref h37]), (h18, ob 5 [.int h18f0, .int h18f1, .ref h38]), (h20, ob 5 [.int h20f0, .int h20f1, .ref h40]), (h1, ob 4 [.int h1f0, .int h1f1, .int h1f2, .ref h13]), (h19, ob 5 [.int h19f0, .int h19f1, .ref h39])] H := hT
              refine lv_if_eq (tgt := 61) hx hb dX10_refusalOfTable_53 (by decide) (fun cc => absurd cc (by decide +kernel)) (fun _ => ?_)
              refine lv_bipush (v := (-12)) hx hb dX10_refusalOfTable_56 (by decide) ?_
              refine lv_goto (tgt := 62) hx hb dX10_refusalOfTable_58 (by decide) ?_
              exact tz_retI (B := B_cX10_refusalOfTable_450e2 D k h0 h1 h4 h17 h18 h19 h20 h2 h3 h5 h6 h7 h8 h9 h10 h11 h12 h13 h37 h38 h39 h40 x1 x2 h0f2 h0f6 h0f8 h0f11 h1f0 h1f1 h1f2 h17f0 h17f1 h18f0 h18f1 h19f0 h19f1 h20f0 h20f1) (v := (-12)) hQ hx hb hr hlocks hS (Nat.le_of_ble_eq_true rfl) (Nat.le_of_ble_eq_true rfl) dX10_refusalOfTable_62 (Or.inr (Or.inl ⟨rfl, (hT.sub [0, 5, 1, 2, 3, 6, 4] (by decide) rfl)⟩))
            · skip
              have hT := J _ hT1
              have hT : TP D A [(h0, ob 7 [.ref h1, .ref h2, .int h0f2, .ref h3, .ref h4, .ref h5, .int h0f6, .ref h6, .int h0f8, .null, .ref h7, .int h0f11, .ref h8, .ref h9, .ref h10, .ref h11, .ref h12]), (h4, aQ (k 3) 4 (q4 h17 h18 h19 h20)), (h17, ob 5 [.int h17f0, .int h17f1, .ref h37]), (h18, ob 5 [.int h18f0, .int h18f1, .ref h38]), (h20, ob 5 [.int h20f0, .int h20f1, .ref h40]), (h1, ob 4 [.int h1f0, .int h1f1, .int h1f2, .ref h13]), (h19, ob 5 [.int h19f0, .int h19f1, .ref h39])] H := hT
              refine lv_if_eq (tgt := 61) hx hb dX10_refusalOfTable_53 (by decide) (fun _ => ?_) (fun cc => absurd (by decide +kernel) cc)
              refine lv_iconst (v := 0) hx hb dX10_refusalOfTable_61 (by decide) ?_
              exact tz_retI (B := B_cX10_refusalOfTable_450e2 D k h0 h1 h4 h17 h18 h19 h20 h2 h3 h5 h6 h7 h8 h9 h10 h11 h12 h13 h37 h38 h39 h40 x1 x2 h0f2 h0f6 h0f8 h0f11 h1f0 h1f1 h1f2 h17f0 h17f1 h18f0 h18f1 h19f0 h19f1 h20f0 h20f1) (v := 0) hQ hx hb hr hlocks hS (Nat.le_of_ble_eq_true rfl) (Nat.le_of_ble_eq_true rfl) dX10_refusalOfTable_62 (Or.inr (Or.inr (Or.inr (Or.inr (Or.inr (Or.inr (Or.inr (Or.inr (Or.inr (Or.inr (Or.inr (Or.inr (Or.inl ⟨r46, (by have := li_0; omega), (by have := li_0; omega), (by have := li_0; omega), (by have := li_0; omega), (by have := li_0; omega), (by have := li_0; omega), (by have := li_0; omega), (by have := li_0; omega), (by have := li_0; omega), (by have := li_0; omega), rfl, (hT.sub [0, 5, 1, 2, 3, 6, 4] (by decide) rfl)⟩)))))))))))))
        · skip
          have c_45 := ni_nle c_45 rfl li_0
          refine lv_bipush (v := (-13)) hx hb dX10_refusalOfTable_37 (by decide) ?_
          exact tz_retI (B := B_cX10_refusalOfTable_450e2 D k h0 h1 h4 h17 h18 h19 h20 h2 h3 h5 h6 h7 h8 h9 h10 h11 h12 h13 h37 h38 h39 h40 x1 x2 h0f2 h0f6 h0f8 h0f11 h1f0 h1f1 h1f2 h17f0 h17f1 h18f0 h18f1 h19f0 h19f1 h20f0 h20f1) (v := (-13)) hQ hx hb hr hlocks hS (Nat.le_of_ble_eq_true rfl) (Nat.le_of_ble_eq_true rfl) dX10_refusalOfTable_39 (Or.inr (Or.inr (Or.inr (Or.inr (Or.inr (Or.inl ⟨rfl, (hT.sub [0, 1, 2, 3, 4, 6, 5] (by decide) rfl)⟩))))))
      · skip
        have hT := J _ hT1
        have hT : TP D A [(h0, ob 7 [.ref h1, .ref h2, .int h0f2, .ref h3, .ref h4, .ref h5, .int h0f6, .ref h6, .int h0f8, .null, .ref h7, .int h0f11, .ref h8, .ref h9, .ref h10, .ref h11, .ref h12]), (h1, ob 4 [.int h1f0, .int h1f1, .int h1f2, .ref h13]), (h4, aQ (k 3) 4 (q4 h17 h18 h19 h20)), (h17, ob 5 [.int h17f0, .int h17f1, .ref h37]), (h18, ob 5 [.int h18f0, .int h18f1, .ref h38]), (h20, ob 5 [.int h20f0, .int h20f1, .ref h40]), (h19, ob 5 [.int h19f0, .int h19f1, .ref h39])] H := hT
        refine lv_if_eq (tgt := 28) hx hb dX10_refusalOfTable_22 (by decide) (fun cc => absurd cc (by decide +kernel)) (fun _ => ?_)
        refine lv_bipush (v := (-11)) hx hb dX10_refusalOfTable_25 (by decide) ?_
        exact tz_retI (B := B_cX10_refusalOfTable_450e2 D k h0 h1 h4 h17 h18 h19 h20 h2 h3 h5 h6 h7 h8 h9 h10 h11 h12 h13 h37 h38 h39 h40 x1 x2 h0f2 h0f6 h0f8 h0f11 h1f0 h1f1 h1f2 h17f0 h17f1 h18f0 h18f1 h19f0 h19f1 h20f0 h20f1) (v := (-11)) hQ hx hb hr hlocks hS (Nat.le_of_ble_eq_true rfl) (Nat.le_of_ble_eq_true rfl) dX10_refusalOfTable_27 (Or.inr (Or.inr (Or.inr (Or.inr (Or.inr (Or.inr (Or.inl ⟨rfl, (hT.sub [0, 1, 2, 3, 4, 6, 5] (by decide) rfl)⟩)))))))
    · skip
      refine tz_aldq (b := h20) hx hb hK hT 2 rfl (vp_in_iff.mpr (by have := hq4; omega)) (fun f hf => by rw [cl_of hq4]; exact hf.2.2.2) dX10_refusalOfTable_14 ?_
      refine lv_astore (lv' := [(4, .ref h20), (0, .ref h0), (1, .int x1), (2, .int x2), (3, .int 0)]) hx hb dX10_refusalOfTable_15 hl (by decide) rfl (fun ls hl => ?_)
      refine lv_aload hx hb dX10_refusalOfTable_17 (lv_at hl 0 rfl) ?_
      refine tcI (Tc := [(h20, ob 5 [.int h20f0, .int h20f1, .ref h40])]) (Tr := [(h0, ob 7 [.ref h1, .ref h2, .int h0f2, .ref h3, .ref h4, .ref h5, .int h0f6, .ref h6, .int h0f8, .null, .ref h7, .int h0f11, .ref h8, .ref h9, .ref h10, .ref h11, .ref h12]), (h1, ob 4 [.int h1f0, .int h1f1, .int h1f2, .ref h13]), (h4, aQ (k 3) 4 (q4 h17 h18 h19 h20)), (h17, ob 5 [.int h17f0, .int h17f1, .ref h37]), (h18, ob 5 [.int h18f0, .int h18f1, .ref h38]), (h19, ob 5 [.int h19f0, .int h19f1, .ref h39])]) (as := [h20]) (zcV (q0 := 6) (ci := 5) (As := []) (rest := []) (Tc := [(h20, ob 5 [.int h20f0, .int h20f1, .ref h40])]) hx hb hml hown hU hK hT rfl rfl [6] rfl (by decide) (cX6_isMissing_56a93 l D k _ h20 h40 h20f0 h20f1 (by omega) (by omega)) w644 w641 w642 w643 w71 hdX6_isMissing ⟨rfl, rfl⟩ ⟨Nat.le_of_ble_eq_true rfl, Nat.le_of_ble_eq_true rfl⟩ rfl hl.1 (Nat.le_of_ble_eq_true rfl) dX10_refusalOfTable_19 ⟨Nat.le_of_ble_eq_true rfl, Nat.le_of_ble_eq_true rfl⟩) hT hS hA [6] [0, 1, 2, 3, 4, 5] rfl rfl rfl (by decide) (by decide) (fun r62 H locs hB J hS => ?_)
      rcases hB with ⟨c_63, rfl, hT1⟩ | ⟨rfl, hT1⟩
      · skip
        have hT := J _ hT1
        have hT : TP D A [(h0, ob 7 [.ref h1, .ref h2, .int h0f2, .ref h3, .ref h4, .ref h5, .int h0f6, .ref h6, .int h0f8, .null, .ref h7, .int h0f11, .ref h8, .ref h9, .ref h10, .ref h11, .ref h12]), (h1, ob 4 [.int h1f0, .int h1f1, .int h1f2, .ref h13]), (h4, aQ (k 3) 4 (q4 h17 h18 h19 h20)), (h17, ob 5 [.int h17f0, .int h17f1, .ref h37]), (h18, ob 5 [.int h18f0, .int h18f1, .ref h38]), (h19, ob 5 [.int h19f0, .int h19f1, .ref h39]), (h20, ob 5 [.int h20f0, .int h20f1, .ref h40])] H := hT
        refine lv_if_eq (tgt := 28) hx hb dX10_refusalOfTable_22 (by decide) (fun _ => ?_) (fun cc => absurd (by decide +kernel) cc)
        refine lv_aload hx hb dX10_refusalOfTable_28 (lv_at hl 0 rfl) ?_
        refine tz_get (ci := 5) (v := .int h20f0) (C := RX6) (F := TX6) (N := 3) hx hb hU iX6 hown hK hT 6 rfl rfl 0 (by decide) w238 (fun _ h9 => h9) rfl dX10_refusalOfTable_30 ?_
        refine lv_iload_n hx hb dX10_refusalOfTable_33 rfl (lv_at hl 4 rfl) ?_
        refine lv_icmp_le (tgt := 40) hx hb dX10_refusalOfTable_34 (by decide) (fun c_64 => ?_) (fun c_64 => ?_)
        · skip
          have c_64 := ni_le c_64 rfl li_0
          refine lv_aload hx hb dX10_refusalOfTable_40 (lv_at hl 0 rfl) ?_
          refine lv_iload_n hx hb dX10_refusalOfTable_42 rfl (lv_at hl 3 rfl) ?_
          refine lv_aload_n hx hb dX10_refusalOfTable_43 rfl (lv_at hl 1 rfl) ?_
          refine tz_get (ci := 7) (v := .ref h1) (C := RX10) (F := TX10) (N := 17) hx hb hU iX10 hown hK hT 0 rfl rfl 0 (by decide) w249 (fun _ h9 => h9) rfl dX10_refusalOfTable_44 ?_
          refine tcI (Tc := [(h1, ob 4 [.int h1f0, .int h1f1, .int h1f2, .ref h13])]) (Tr := [(h0, ob 7 [.ref h1, .ref h2, .int h0f2, .ref h3, .ref h4, .ref h5, .int h0f6, .ref h6, .int h0f8, .null, .ref h7, .int h0f11, .ref h8, .ref h9, .ref h10, .ref h11, .ref h12]), (h4, aQ (k 3) 4 (q4 h17 h18 h19 h20)), (h17, ob 5 [.int h17f0, .int h17f1, .ref h37]), (h18, ob 5 [.int h18f0, .int h18f1, .ref h38]), (h19, ob 5 [.int h19f0, .int h19f1, .ref h39]), (h20, ob 5 [.int h20f0, .int h20f1, .ref h40])]) (as := [h1]) (zcV (q0 := 1) (ci := 4) (As := []) (rest := [.int x2, .ref h20]) (Tc := [(h1, ob 4 [.int h1f0, .int h1f1, .int h1f2, .ref h13])]) hx hb hml hown hU hK hT rfl rfl [1] rfl (by decide) (cX5_cellCount_f3983 l D k _ h1 h13 h1f0 h1f1 h1f2 (by omega) (by omega)) w385 w382 w383 w384 w64 hdX5_cellCount ⟨rfl, rfl⟩ ⟨Nat.le_of_ble_eq_true rfl, Nat.le_of_ble_eq_true rfl⟩ rfl hl.1 (Nat.le_of_ble_eq_true rfl) dX10_refusalOfTable_47 ⟨Nat.le_of_ble_eq_true rfl, Nat.le_of_ble_eq_true rfl⟩) hT hS hA [1] [0, 2, 3, 4, 5, 6] rfl rfl rfl (by decide) (by decide) (fun r65 H locs hB J hS => ?_)
          rcases hB with ⟨c_66, b_r65, hT1⟩ | ⟨c_67, b_r65, hT1⟩ | ⟨c_68, b_r65, hT1⟩
          · skip
            have hT := J _ hT1
            have hT : TP D A [(h0, ob 7 [.ref h1, .ref h2, .int h0f2, .ref h3, .ref h4, .ref h5, .int h0f6, .ref h6, .int h0f8, .null, .ref h7, .int h0f11, .ref h8, .ref h9, .ref h10, .ref h11, .ref h12]), (h4, aQ (k 3) 4 (q4 h17 h18 h19 h20)), (h17, ob 5 [.int h17f0, .int h17f1, .ref h37]), (h18, ob 5 [.int h18f0, .int h18f1, .ref h38]), (h19, ob 5 [.int h19f0, .int h19f1, .ref h39]), (h20, ob 5 [.int h20f0, .int h20f1, .ref h40]), (h1, ob 4 [.int h1f0, .int h1f1, .int h1f2, .ref h13])] H := hT
            refine tcI (Tc := [(h20, ob 5 [.int h20f0, .int h20f1, .ref h40])]) (Tr := [(h0, ob 7 [.ref h1, .ref h2, .int h0f2, .ref h3, .ref h4, .ref h5, .int h0f6, .ref h6, .int h0f8, .null, .ref h7, .int h0f11, .ref h8, .ref h9, .ref h10, .ref h11, .ref h12]), (h4, aQ (k 3) 4 (q4 h17 h18 h19 h20)), (h17, ob 5 [.int h17f0, .int h17f1, .ref h37]), (h18, ob 5 [.int h18f0, .int h18f1, .ref h38]), (h19, ob 5 [.int h19f0, .int h19f1, .ref h39]), (h1, ob 4 [.int h1f0, .int h1f1, .int h1f2, .ref h13])]) (as := [h20]) (zcV (q0 := 5) (ci := 5) (As := [.int x2, .int r65]) (rest := []) (Tc := [(h20, ob 5 [.int h20f0, .int h20f1, .ref h40])]) hx hb hml hown hU hK hT rfl rfl [5] rfl (by decide) (cX6_isOutside_cc85b l D k _ h20 h40 x2 r65 h20f0 h20f1 (by omega) (by omega)) w648 w645 w646 w647 w71 hdX6_isOutside ⟨rfl, rfl⟩ ⟨Nat.le_of_ble_eq_true rfl, Nat.le_of_ble_eq_true rfl⟩ rfl hl.1 (Nat.le_of_ble_eq_true rfl) dX10_refusalOfTable_50 ⟨Nat.le_of_ble_eq_true rfl, Nat.le_of_ble_eq_true rfl⟩) hT hS hA [5] [0, 1, 2, 3, 4, 6] rfl rfl rfl (by decide) (by decide) (fun r69 H locs hB J hS => ?_)
            rcases hB with ⟨rfl, hT1⟩ | ⟨c_70, c_71, c_72, rfl, hT1⟩
            · skip
              have hT := J _ hT1
              have hT : TP D A [(h0, ob 7 [.ref h1, .ref h2, .int h0f2, .ref h3, .ref h4, .ref h5, .int h0f6, .ref h6, .int h0f8, .null, .ref h7, .int h0f11, .ref h8, .ref h9, .ref h10, .ref h11, .ref h12]), (h4, aQ (k 3) 4 (q4 h17 h18 h19 h20)), (h17, ob 5 [.int h17f0, .int h17f1, .ref h37]), (h18, ob 5 [.int h18f0, .int h18f1, .ref h38]), (h19, ob 5 [.int h19f0, .int h19f1, .ref h39]), (h1, ob 4 [.int h1f0, .int h1f1, .int h1f2, .ref h13]), (h20, ob 5 [.int h20f0, .int h20f1, .ref h40])] H := hT
              refine lv_if_eq (tgt := 61) hx hb dX10_refusalOfTable_53 (by decide) (fun cc => absurd cc (by decide +kernel)) (fun _ => ?_)
              refine lv_bipush (v := (-12)) hx hb dX10_refusalOfTable_56 (by decide) ?_
              refine lv_goto (tgt := 62) hx hb dX10_refusalOfTable_58 (by decide) ?_
              exact tz_retI (B := B_cX10_refusalOfTable_450e2 D k h0 h1 h4 h17 h18 h19 h20 h2 h3 h5 h6 h7 h8 h9 h10 h11 h12 h13 h37 h38 h39 h40 x1 x2 h0f2 h0f6 h0f8 h0f11 h1f0 h1f1 h1f2 h17f0 h17f1 h18f0 h18f1 h19f0 h19f1 h20f0 h20f1) (v := (-12)) hQ hx hb hr hlocks hS (Nat.le_of_ble_eq_true rfl) (Nat.le_of_ble_eq_true rfl) dX10_refusalOfTable_62 (Or.inr (Or.inl ⟨rfl, (hT.sub [0, 5, 1, 2, 3, 4, 6] (by decide) rfl)⟩))
            · skip
              have hT := J _ hT1
              have hT : TP D A [(h0, ob 7 [.ref h1, .ref h2, .int h0f2, .ref h3, .ref h4, .ref h5, .int h0f6, .ref h6, .int h0f8, .null, .ref h7, .int h0f11, .ref h8, .ref h9, .ref h10, .ref h11, .ref h12]), (h4, aQ (k 3) 4 (q4 h17 h18 h19 h20)), (h17, ob 5 [.int h17f0, .int h17f1, .ref h37]), (h18, ob 5 [.int h18f0, .int h18f1, .ref h38]), (h19, ob 5 [.int h19f0, .int h19f1, .ref h39]), (h1, ob 4 [.int h1f0, .int h1f1, .int h1f2, .ref h13]), (h20, ob 5 [.int h20f0, .int h20f1, .ref h40])] H := hT
              refine lv_if_eq (tgt := 61) hx hb dX10_refusalOfTable_53 (by decide) (fun _ => ?_) (fun cc => absurd (by decide +kernel) cc)
              refine lv_iconst (v := 0) hx hb dX10_refusalOfTable_61 (by decide) ?_
              exact tz_retI (B := B_cX10_refusalOfTable_450e2 D k h0 h1 h4 h17 h18 h19 h20 h2 h3 h5 h6 h7 h8 h9 h10 h11 h12 h13 h37 h38 h39 h40 x1 x2 h0f2 h0f6 h0f8 h0f11 h1f0 h1f1 h1f2 h17f0 h17f1 h18f0 h18f1 h19f0 h19f1 h20f0 h20f1) (v := 0) hQ hx hb hr hlocks hS (Nat.le_of_ble_eq_true rfl) (Nat.le_of_ble_eq_true rfl) dX10_refusalOfTable_62 (Or.inr (Or.inr (Or.inr (Or.inr (Or.inr (Or.inr (Or.inr (Or.inr (Or.inr (Or.inr (Or.inr (Or.inr (Or.inr (Or.inl ⟨r65, (by have := li_0; omega), (by have := li_0; omega), (by have := li_0; omega), (by have := li_0; omega), (by have := li_0; omega), (by have := li_0; omega), (by have := li_0; omega), (by have := li_0; omega), (by have := li_0; omega), (by have := li_0; omega), rfl, (hT.sub [0, 5, 1, 2, 3, 4, 6] (by decide) rfl)⟩))))))))))))))
          · skip
            have hT := J _ hT1
            have hT : TP D A [(h0, ob 7 [.ref h1, .ref h2, .int h0f2, .ref h3, .ref h4, .ref h5, .int h0f6, .ref h6, .int h0f8, .null, .ref h7, .int h0f11, .ref h8, .ref h9, .ref h10, .ref h11, .ref h12]), (h4, aQ (k 3) 4 (q4 h17 h18 h19 h20)), (h17, ob 5 [.int h17f0, .int h17f1, .ref h37]), (h18, ob 5 [.int h18f0, .int h18f1, .ref h38]), (h19, ob 5 [.int h19f0, .int h19f1, .ref h39]), (h20, ob 5 [.int h20f0, .int h20f1, .ref h40]), (h1, ob 4 [.int h1f0, .int h1f1, .int h1f2, .ref h13])] H := hT
            refine tcI (Tc := [(h20, ob 5 [.int h20f0, .int h20f1, .ref h40])]) (Tr := [(h0, ob 7 [.ref h1, .ref h2, .int h0f2, .ref h3, .ref h4, .ref h5, .int h0f6, .ref h6, .int h0f8, .null, .ref h7, .int h0f11, .ref h8, .ref h9, .ref h10, .ref h11, .ref h12]), (h4, aQ (k 3) 4 (q4 h17 h18 h19 h20)), (h17, ob 5 [.int h17f0, .int h17f1, .ref h37]), (h18, ob 5 [.int h18f0, .int h18f1, .ref h38]), (h19, ob 5 [.int h19f0, .int h19f1, .ref h39]), (h1, ob 4 [.int h1f0, .int h1f1, .int h1f2, .ref h13])]) (as := [h20]) (zcV (q0 := 5) (ci := 5) (As := [.int x2, .int r65]) (rest := []) (Tc := [(h20, ob 5 [.int h20f0, .int h20f1, .ref h40])]) hx hb hml hown hU hK hT rfl rfl [5] rfl (by decide) (cX6_isOutside_cc85b l D k _ h20 h40 x2 r65 h20f0 h20f1 (by omega) (by omega)) w648 w645 w646 w647 w71 hdX6_isOutside ⟨rfl, rfl⟩ ⟨Nat.le_of_ble_eq_true rfl, Nat.le_of_ble_eq_true rfl⟩ rfl hl.1 (Nat.le_of_ble_eq_true rfl) dX10_refusalOfTable_50 ⟨Nat.le_of_ble_eq_true rfl, Nat.le_of_ble_eq_true rfl⟩) hT hS hA [5] [0, 1, 2, 3, 4, 6] rfl rfl rfl (by decide) (by decide) (fun r73 H locs hB J hS => ?_)
            rcases hB with ⟨rfl, hT1⟩ | ⟨c_74, c_75, c_76, rfl, hT1⟩
            · skip
              have hT := J _ hT1
              have hT : TP D A [(h0, ob 7 [.ref h1, .ref h2, .int h0f2, .ref h3, .ref h4, .ref h5, .int h0f6, .ref h6, .int h0f8, .null, .ref h7, .int h0f11, .ref h8, .ref h9, .ref h10, .ref h11, .ref h12]), (h4, aQ (k 3) 4 (q4 h17 h18 h19 h20)), (h17, ob 5 [.int h17f0, .int h17f1, .ref h37]), (h18, ob 5 [.int h18f0, .int h18f1, .ref h38]), (h19, ob 5 [.int h19f0, .int h19f1, .ref h39]), (h1, ob 4 [.int h1f0, .int h1f1, .int h1f2, .ref h13]), (h20, ob 5 [.int h20f0, .int h20f1, .ref h40])] H := hT
              refine lv_if_eq (tgt := 61) hx hb dX10_refusalOfTable_53 (by decide) (fun cc => absurd cc (by decide +kernel)) (fun _ => ?_)
              refine lv_bipush (v := (-12)) hx hb dX10_refusalOfTable_56 (by decide) ?_
              refine lv_goto (tgt := 62) hx hb dX10_refusalOfTable_58 (by decide) ?_
              exact tz_retI (B := B_cX10_refusalOfTable_450e2 D k h0 h1 h4 h17 h18 h19 h20 h2 h3 h5 h6 h7 h8 h9 h10 h11 h12 h13 h37 h38 h39 h40 x1 x2 h0f2 h0f6 h0f8 h0f11 h1f0 h1f1 h1f2 h17f0 h17f1 h18f0 h18f1 h19f0 h19f1 h20f0 h20f1) (v := (-12)) hQ hx hb hr hlocks hS (Nat.le_of_ble_eq_true rfl) (Nat.le_of_ble_eq_true rfl) dX10_refusalOfTable_62 (Or.inr (Or.inl ⟨rfl, (hT.sub [0, 5, 1, 2, 3, 4, 6] (by decide) rfl)⟩))
            · skip
              have hT := J _ hT1
              have hT : TP D A [(h0, ob 7 [.ref h1, .ref h2, .int h0f2, .ref h3, .ref h4, .ref h5, .int h0f6, .ref h6, .int h0f8, .null, .ref h7, .int h0f11, .ref h8, .ref h9, .ref h10, .ref h11, .ref h12]), (h4, aQ (k 3) 4 (q4 h17 h18 h19 h20)), (h17, ob 5 [.int h17f0, .int h17f1, .ref h37]), (h18, ob 5 [.int h18f0, .int h18f1, .ref h38]), (h19, ob 5 [.int h19f0, .int h19f1, .ref h39]), (h1, ob 4 [.int h1f0, .int h1f1, .int h1f2, .ref h13]), (h20, ob 5 [.int h20f0, .int h20f1, .ref h40])] H := hT
              refine lv_if_eq (tgt := 61) hx hb dX10_refusalOfTable_53 (by decide) (fun _ => ?_) (fun cc => absurd (by decide +kernel) cc)
              refine lv_iconst (v := 0) hx hb dX10_refusalOfTable_61 (by decide) ?_
              exact tz_retI (B := B_cX10_refusalOfTable_450e2 D k h0 h1 h4 h17 h18 h19 h20 h2 h3 h5 h6 h7 h8 h9 h10 h11 h12 h13 h37 h38 h39 h40 x1 x2 h0f2 h0f6 h0f8 h0f11 h1f0 h1f1 h1f2 h17f0 h17f1 h18f0 h18f1 h19f0 h19f1 h20f0 h20f1) (v := 0) hQ hx hb hr hlocks hS (Nat.le_of_ble_eq_true rfl) (Nat.le_of_ble_eq_true rfl) dX10_refusalOfTable_62 (Or.inr (Or.inr (Or.inr (Or.inr (Or.inr (Or.inr (Or.inr (Or.inr (Or.inr (Or.inr (Or.inr (Or.inr (Or.inr (Or.inr (Or.inl ⟨r65, (by have := li_0; omega), (by have := li_0; omega), (by have := li_0; omega), (by have := li_0; omega), (by have := li_0; omega), (by have := li_0; omega), (by have := li_0; omega), (by have := li_0; omega), (by have := li_0; omega), (by have := li_0; omega), rfl, (hT.sub [0, 5, 1, 2, 3, 4, 6] (by decide) rfl)⟩)))))))))))))))
          · skip
            have hT := J _ hT1
            have hT : TP D A [(h0, ob 7 [.ref h1, .ref h2, .int h0f2, .ref h3, .ref h4, .ref h5, .int h0f6, .ref h6, .int h0f8, .null, .ref h7, .int h0f11, .ref h8, .ref h9, .ref h10, .ref h11, .ref h12]), (h4, aQ (k 3) 4 (q4 h17 h18 h19 h20)), (h17, ob 5 [.int h17f0, .int h17f1, .ref h37]), (h18, ob 5 [.int h18f0, .int h18f1, .ref h38]), (h19, ob 5 [.int h19f0, .int h19f1, .ref h39]), (h20, ob 5 [.int h20f0, .int h20f1, .ref h40]), (h1, ob 4 [.int h1f0, .int h1f1, .int h1f2, .ref h13])] H := hT
            refine tcI (Tc := [(h20, ob 5 [.int h20f0, .int h20f1, .ref h40])]) (Tr := [(h0, ob 7 [.ref h1, .ref h2, .int h0f2, .ref h3, .ref h4, .ref h5, .int h0f6, .ref h6, .int h0f8, .null, .ref h7, .int h0f11, .ref h8, .ref h9, .ref h10, .ref h11, .ref h12]), (h4, aQ (k 3) 4 (q4 h17 h18 h19 h20)), (h17, ob 5 [.int h17f0, .int h17f1, .ref h37]), (h18, ob 5 [.int h18f0, .int h18f1, .ref h38]), (h19, ob 5 [.int h19f0, .int h19f1, .ref h39]), (h1, ob 4 [.int h1f0, .int h1f1, .int h1f2, .ref h13])]) (as := [h20]) (zcV (q0 := 5) (ci := 5) (As := [.int x2, .int r65]) (rest := []) (Tc := [(h20, ob 5 [.int h20f0, .int h20f1, .ref h40])]) hx hb hml hown hU hK hT rfl rfl [5] rfl (by decide) (cX6_isOutside_cc85b l D k _ h20 h40 x2 r65 h20f0 h20f1 (by omega) (by omega)) w648 w645 w646 w647 w71 hdX6_isOutside ⟨rfl, rfl⟩ ⟨Nat.le_of_ble_eq_true rfl, Nat.le_of_ble_eq_true rfl⟩ rfl hl.1 (Nat.le_of_ble_eq_true rfl) dX10_refusalOfTable_50 ⟨Nat.le_of_ble_eq_true rfl, Nat.le_of_ble_eq_true rfl⟩) hT hS hA [5] [0, 1, 2, 3, 4, 6] rfl rfl rfl (by decide) (by decide) (fun r77 H locs hB J hS => ?_)
            rcases hB with ⟨rfl, hT1⟩ | ⟨c_78, c_79, c_80, rfl, hT1⟩
            · skip
              have hT := J _ hT1
              have hT : TP D A [(h0, ob 7 [.ref h1, .ref h2, .int h0f2, .ref h3, .ref h4, .ref h5, .int h0f6, .ref h6, .int h0f8, .null, .ref h7, .int h0f11, .ref h8, .ref h9, .ref h10, .ref h11, .ref h12]), (h4, aQ (k 3) 4 (q4 h17 h18 h19 h20)), (h17, ob 5 [.int h17f0, .int h17f1, .ref h37]), (h18, ob 5 [.int h18f0, .int h18f1, .ref h38]), (h19, ob 5 [.int h19f0, .int h19f1, .ref h39]), (h1, ob 4 [.int h1f0, .int h1f1, .int h1f2, .ref h13]), (h20, ob 5 [.int h20f0, .int h20f1, .ref h40])] H := hT
              refine lv_if_eq (tgt := 61) hx hb dX10_refusalOfTable_53 (by decide) (fun cc => absurd cc (by decide +kernel)) (fun _ => ?_)
              refine lv_bipush (v := (-12)) hx hb dX10_refusalOfTable_56 (by decide) ?_
              refine lv_goto (tgt := 62) hx hb dX10_refusalOfTable_58 (by decide) ?_
              exact tz_retI (B := B_cX10_refusalOfTable_450e2 D k h0 h1 h4 h17 h18 h19 h20 h2 h3 h5 h6 h7 h8 h9 h10 h11 h12 h13 h37 h38 h39 h40 x1 x2 h0f2 h0f6 h0f8 h0f11 h1f0 h1f1 h1f2 h17f0 h17f1 h18f0 h18f1 h19f0 h19f1 h20f0 h20f1) (v := (-12)) hQ hx hb hr hlocks hS (Nat.le_of_ble_eq_true rfl) (Nat.le_of_ble_eq_true rfl) dX10_refusalOfTable_62 (Or.inr (Or.inl ⟨rfl, (hT.sub [0, 5, 1, 2, 3, 4, 6] (by decide) rfl)⟩))
            · skip
              have hT := J _ hT1
              have hT : TP D A [(h0, ob 7 [.ref h1, .ref h2, .int h0f2, .ref h3, .ref h4, .ref h5, .int h0f6, .ref h6, .int h0f8, .null, .ref h7, .int h0f11, .ref h8, .ref h9, .ref h10, .ref h11, .ref h12]), (h4, aQ (k 3) 4 (q4 h17 h18 h19 h20)), (h17, ob 5 [.int h17f0, .int h17f1, .ref h37]), (h18, ob 5 [.int h18f0, .int h18f1, .ref h38]), (h19, ob 5 [.int h19f0, .int h19f1, .ref h39]), (h1, ob 4 [.int h1f0, .int h1f1, .int h1f2, .ref h13]), (h20, ob 5 [.int h20f0, .int h20f1, .ref h40])] H := hT
              refine lv_if_eq (tgt := 61) hx hb dX10_refusalOfTable_53 (by decide) (fun _ => ?_) (fun cc => absurd (by decide +kernel) cc)
              refine lv_iconst (v := 0) hx hb dX10_refusalOfTable_61 (by decide) ?_
              exact tz_retI (B := B_cX10_refusalOfTable_450e2 D k h0 h1 h4 h17 h18 h19 h20 h2 h3 h5 h6 h7 h8 h9 h10 h11 h12 h13 h37 h38 h39 h40 x1 x2 h0f2 h0f6 h0f8 h0f11 h1f0 h1f1 h1f2 h17f0 h17f1 h18f0 h18f1 h19f0 h19f1 h20f0 h20f1) (v := 0) hQ hx hb hr hlocks hS (Nat.le_of_ble_eq_true rfl) (Nat.le_of_ble_eq_true rfl) dX10_refusalOfTable_62 (Or.inr (Or.inr (Or.inr (Or.inr (Or.inr (Or.inr (Or.inr (Or.inr (Or.inr (Or.inr (Or.inr (Or.inr (Or.inr (Or.inr (Or.inr (⟨r65, (by have := li_0; omega), (by have := li_0; omega), (by have := li_0; omega), (by have := li_0; omega), (by have := li_0; omega), (by have := li_0; omega), (by have := li_0; omega), (by have := li_0; omega), (by have := li_0; omega), (by have := li_0; omega), rfl, (hT.sub [0, 5, 1, 2, 3, 4, 6] (by decide) rfl)⟩))))))))))))))))
        · skip
          have c_64 := ni_nle c_64 rfl li_0
          refine lv_bipush (v := (-13)) hx hb dX10_refusalOfTable_37 (by decide) ?_
          exact tz_retI (B := B_cX10_refusalOfTable_450e2 D k h0 h1 h4 h17 h18 h19 h20 h2 h3 h5 h6 h7 h8 h9 h10 h11 h12 h13 h37 h38 h39 h40 x1 x2 h0f2 h0f6 h0f8 h0f11 h1f0 h1f1 h1f2 h17f0 h17f1 h18f0 h18f1 h19f0 h19f1 h20f0 h20f1) (v := (-13)) hQ hx hb hr hlocks hS (Nat.le_of_ble_eq_true rfl) (Nat.le_of_ble_eq_true rfl) dX10_refusalOfTable_39 (Or.inr (Or.inr (Or.inr (Or.inr (Or.inr (Or.inl ⟨rfl, hT⟩))))))
      · skip
        have hT := J _ hT1
        have hT : TP D A [(h0, ob 7 [.ref h1, .ref h2, .int h0f2, .ref h3, .ref h4, .ref h5, .int h0f6, .ref h6, .int h0f8, .null, .ref h7, .int h0f11, .ref h8, .ref h9, .ref h10, .ref h11, .ref h12]), (h1, ob 4 [.int h1f0, .int h1f1, .int h1f2, .ref h13]), (h4, aQ (k 3) 4 (q4 h17 h18 h19 h20)), (h17, ob 5 [.int h17f0, .int h17f1, .ref h37]), (h18, ob 5 [.int h18f0, .int h18f1, .ref h38]), (h19, ob 5 [.int h19f0, .int h19f1, .ref h39]), (h20, ob 5 [.int h20f0, .int h20f1, .ref h40])] H := hT
        refine lv_if_eq (tgt := 28) hx hb dX10_refusalOfTable_22 (by decide) (fun cc => absurd cc (by decide +kernel)) (fun _ => ?_)
        refine lv_bipush (v := (-11)) hx hb dX10_refusalOfTable_25 (by decide) ?_
        exact tz_retI (B := B_cX10_refusalOfTable_450e2 D k h0 h1 h4 h17 h18 h19 h20 h2 h3 h5 h6 h7 h8 h9 h10 h11 h12 h13 h37 h38 h39 h40 x1 x2 h0f2 h0f6 h0f8 h0f11 h1f0 h1f1 h1f2 h17f0 h17f1 h18f0 h18f1 h19f0 h19f1 h20f0 h20f1) (v := (-11)) hQ hx hb hr hlocks hS (Nat.le_of_ble_eq_true rfl) (Nat.le_of_ble_eq_true rfl) dX10_refusalOfTable_27 (Or.inr (Or.inr (Or.inr (Or.inr (Or.inr (Or.inr (Or.inl ⟨rfl, hT⟩)))))))
abbrev Rm_cX7_turn_4a21f : Room := { frames := 0, cells := 0, slots := 0, locals := 0 }
abbrev B_cX7_turn_4a21f (D : va_G) (k : Nat → ClassId) (h0 h1 : Nat) (x1 : Int32) (x3 : Int32) (A : Nat → Prop) (H : Heap) : Prop := TP D A [(h0, aJ (k 1) 9 anJ), (h1, aJ (k 1) 9 anJ)] H
set_option maxHeartbeats 4000000 in
set_option maxRecDepth 100000 in
theorem cX7_turn_4a21f (l : Launch) (D : va_G) (k : Nat → ClassId) (sz : Nat) (h0 h1 : Nat) (x1 : Int32) (x3 : Int32) (b_x1 : 0 ≤ x1.toInt ∧ x1.toInt ≤ 0) (b_x3 : 1 ≤ x3.toInt ∧ x3.toInt ≤ 3) : Met l yX7_turn (Cond.code yX7_turn cX7_turn 6 none :: uw) Rm_cX7_turn_4a21f (pT D k sz [.ref h0, .int x1, .ref h1, .int x3] [(h0, aJ (k 1) 9 anJ), (h1, aJ (k 1) 9 anJ)]) (qV (B_cX7_turn_4a21f D k h0 h1 x1 x3 (zA [h0, h1] sz)) (zA [h0, h1] sz)) 0 0 (zA [h0, h1] sz) := by
  refine tz_begin (as := [h0, h1]) (Qc := fun A => qV (B_cX7_turn_4a21f D k h0 h1 x1 x3 A) A) (by decide +kernel) rfl (Nat.le_of_ble_eq_true rfl) ?_
  intro p e s m args below meth c ls A Q hx hb hr hml hown hlocks hin hU hK hT hS hA hl hQ
  have hl : lv_has ls 6 [(0, .ref h0), (1, .int x1), (2, .ref h1), (3, .int x3)] := hl
  have hT : TP D A [(h0, aJ (k 1) 9 anJ), (h1, aJ (k 1) 9 anJ)] s.heap := hT
  refine lv_iconst (v := 0) hx hb dX7_turn_0 (by decide) ?_
  refine lv_istore (lv' := [(4, .int 0), (0, .ref h0), (1, .int x1), (2, .ref h1), (3, .int x3)]) hx hb dX7_turn_1 hl (by decide) rfl (fun ls hl => ?_)
  have lp3_4 : ∀ (n : Nat) (y3 : Int32) (H : Heap) (locs : List Loc) (ls : Array Slot), (0 ≤ y3.toInt ∧ y3.toInt ≤ 3) → (x3.toInt + (-1) * y3.toInt + 1).toNat < n → TP D A [(h0, aJ (k 1) 9 anJ), (h1, aJ (k 1) 9 anJ)] H → va_S A s.heap H locs → lv_has ls 6 [(0, .ref h0), (1, .int x1), (2, .ref h1), (3, .int x3), (4, .int y3)] → W p l e Rm_cX7_turn_4a21f s m args below meth c H locs 0 0 Q (F0 m 3 ls []) := by
    intro n
    induction n with
    | zero => intro y3 H locs ls b_y3 hm hT hS hl; exact absurd hm (Nat.not_lt_zero _)
    | succ n ih =>
      intro y3 H locs ls b_y3 hm hT hS hl
      have ih3_4 := ih
      clear ih
      refine lv_iload hx hb dX7_turn_3 (lv_at hl 4 rfl) ?_
      refine lv_iload_n hx hb dX7_turn_5 rfl (lv_at hl 3 rfl) ?_
      refine lv_icmp_ge (tgt := 50) hx hb dX7_turn_6 (by decide) (fun c_5 => ?_) (fun c_5 => ?_)
      · skip
        have c_5 := ni_le c_5 rfl rfl
        exact tz_retV (B := B_cX7_turn_4a21f D k h0 h1 x1 x3) hQ hx hb hr hlocks hS (Nat.le_of_ble_eq_true rfl) (Nat.le_of_ble_eq_true rfl) dX7_turn_50 (hT)
      · skip
        have c_5 := ni_nle c_5 rfl rfl
        refine lv_iconst (v := 0) hx hb dX7_turn_9 (by decide) ?_
        refine lv_istore (lv' := [(5, .int 0), (0, .ref h0), (1, .int x1), (2, .ref h1), (3, .int x3), (4, .int y3)]) hx hb dX7_turn_10 hl (by decide) rfl (fun ls hl => ?_)
        have lp12_9 : ∀ (n : Nat) (y8 : Int32) (H : Heap) (locs : List Loc) (ls : Array Slot), (0 ≤ y8.toInt ∧ y8.toInt ≤ 3) → (x3.toInt + (-1) * y8.toInt + 1).toNat < n → TP D A [(h0, aJ (k 1) 9 anJ), (h1, aJ (k 1) 9 anJ)] H → va_S A s.heap H locs → lv_has ls 6 [(0, .ref h0), (1, .int x1), (2, .ref h1), (3, .int x3), (4, .int y3), (5, .int y8)] → W p l e Rm_cX7_turn_4a21f s m args below meth c H locs 0 0 Q (F0 m 12 ls []) := by
          intro n
          induction n with
          | zero => intro y8 H locs ls b_y8 hm hT hS hl; exact absurd hm (Nat.not_lt_zero _)
          | succ n ih =>
            intro y8 H locs ls b_y8 hm hT hS hl
            have ih12_9 := ih
            clear ih
            refine lv_iload hx hb dX7_turn_12 (lv_at hl 5 rfl) ?_
            refine lv_iload_n hx hb dX7_turn_14 rfl (lv_at hl 3 rfl) ?_
            refine lv_icmp_ge (tgt := 44) hx hb dX7_turn_15 (by decide) (fun c_10 => ?_) (fun c_10 => ?_)
            · skip
              have c_10 := ni_le c_10 rfl rfl
              obtain ⟨v11, e_v11⟩ : ∃ x : Int32, x = y3 + Int32.ofInt 1 := ⟨_, rfl⟩
              have f_v11 := e_v11.symm
              have e_v11 : v11.toInt = y3.toInt + 1 := ai_add e_v11 rfl (show (Int32.ofInt 1).toInt = 1 from (by decide +kernel)) (by omega)
              refine lv_iinc (v := v11) (lv' := [(4, .int v11), (0, .ref h0), (1, .int x1), (2, .ref h1), (3, .int x3), (5, .int y8)]) hx hb dX7_turn_44 hl (k := 4) rfl f_v11 (by decide) rfl (fun ls hl => ?_)
              refine lv_goto (tgt := 3) hx hb dX7_turn_47 (by decide) ?_
              exact ih3_4 v11 _ _ _ (by omega)  (by omega) hT hS (lv_sub hl [1, 2, 3, 4, 0] rfl)
            · skip
              have c_10 := ni_nle c_10 rfl rfl
              refine lv_aload_n hx hb dX7_turn_18 rfl (lv_at hl 2 rfl) ?_
              refine lv_iload hx hb dX7_turn_19 (lv_at hl 4 rfl) ?_
              refine lv_iload_n hx hb dX7_turn_21 rfl (lv_at hl 3 rfl) ?_
              refine lv_imul hx hb dX7_turn_22 (lv_topi (fun v12 e_v12 => ?_))
              have e_v12 := ai_mm (la := 0) (ua := 2) (lb := 1) (ub := 3) e_v12 rfl rfl (by omega) (by decide)
              refine lv_iload hx hb dX7_turn_23 (lv_at hl 5 rfl) ?_
              refine lv_iadd hx hb dX7_turn_25 (lv_topi (fun v13 e_v13 => ?_))
              have e_v13 := ai_add e_v13 rfl rfl (by omega)
              refine lv_aload_n hx hb dX7_turn_26 rfl (lv_at hl 0 rfl) ?_
              refine lv_iload_n hx hb dX7_turn_27 rfl (lv_at hl 1 rfl) ?_
              refine lv_iload hx hb dX7_turn_28 (lv_at hl 5 rfl) ?_
              refine lv_iload_n hx hb dX7_turn_30 rfl (lv_at hl 3 rfl) ?_
              refine lv_imul hx hb dX7_turn_31 (lv_topi (fun v14 e_v14 => ?_))
              have e_v14 := ai_mm (la := 0) (ua := 2) (lb := 1) (ub := 3) e_v14 rfl rfl (by omega) (by decide)
              have hq15 : x1.toInt = 0 := by omega
              refine lv_iadd hx hb dX7_turn_32 (lv_topi (fun v16 e_v16 => ?_))
              have e_v16 := ai_add e_v16 hq15 rfl (by omega)
              refine lv_iload hx hb dX7_turn_33 (lv_at hl 4 rfl) ?_
              refine lv_iadd hx hb dX7_turn_35 (lv_topi (fun v17 e_v17 => ?_))
              have e_v17 := ai_add e_v17 rfl rfl (by omega)
              refine tz_lald hx hb hK hT 0 rfl (by omega) dX7_turn_36 (fun v18 e_v18 => ?_)
              clear e_v18
              refine tz_last hx hb hK hT hS 1 rfl (by omega) (fun _ _ => trivial) dX7_turn_37 (fun H locs hT hS => ?_)
              obtain ⟨v19, e_v19⟩ : ∃ x : Int32, x = y8 + Int32.ofInt 1 := ⟨_, rfl⟩
              have f_v19 := e_v19.symm
              have e_v19 : v19.toInt = y8.toInt + 1 := ai_add e_v19 rfl (show (Int32.ofInt 1).toInt = 1 from (by decide +kernel)) (by omega)
              refine lv_iinc (v := v19) (lv' := [(5, .int v19), (0, .ref h0), (1, .int x1), (2, .ref h1), (3, .int x3), (4, .int y3)]) hx hb dX7_turn_38 hl (k := 5) rfl f_v19 (by decide) rfl (fun ls hl => ?_)
              refine lv_goto (tgt := 12) hx hb dX7_turn_41 (by decide) ?_
              exact ih12_9 v19 _ _ _ (by omega)  (by omega) hT hS (lv_sub hl [1, 2, 3, 4, 5, 0] rfl)
        exact lp12_9 ((x3.toInt + (-1) * (0 : Int32).toInt + 1).toNat + 1) (0) _ _ _ (by have := li_0; omega)  (Nat.lt_succ_self _) hT hS (lv_sub hl [1, 2, 3, 4, 5, 0] rfl)
  exact lp3_4 ((x3.toInt + (-1) * (0 : Int32).toInt + 1).toNat + 1) (0) _ _ _ (by have := li_0; omega)  (Nat.lt_succ_self _) hT hS (lv_sub hl [1, 2, 3, 4, 0] rfl)
abbrev Rm_cX7_cofactor_1417b : Room := { frames := 0, cells := 0, slots := 0, locals := 0 }
abbrev B_cX7_cofactor_1417b (D : va_G) (k : Nat → ClassId) (h0 : Nat) (x4 : Int32) (A : Nat → Prop) (r : Int64) (H : Heap) : Prop := TP D A [(h0, aJ (k 1) 9 anJ)] H
set_option maxHeartbeats 4000000 in
set_option maxRecDepth 100000 in
theorem cX7_cofactor_1417b (l : Launch) (D : va_G) (k : Nat → ClassId) (sz : Nat) (h0 : Nat) (x4 : Int32) (b_x4 : 0 ≤ x4.toInt ∧ x4.toInt ≤ 2) : Met l yX7_cofactor (Cond.code yX7_cofactor cX7_cofactor 9 (some .long) :: uw) Rm_cX7_cofactor_1417b (pT D k sz [.ref h0, .int 0, .int 3, .int 0, .int x4] [(h0, aJ (k 1) 9 anJ)]) (qL (B_cX7_cofactor_1417b D k h0 x4 (zA [h0] sz)) (zA [h0] sz)) 0 0 (zA [h0] sz) := by
  refine tz_begin (as := [h0]) (Qc := fun A => qL (B_cX7_cofactor_1417b D k h0 x4 A) A) (by decide +kernel) rfl (Nat.le_of_ble_eq_true rfl) ?_
  intro p e s m args below meth c ls A Q hx hb hr hml hown hlocks hin hU hK hT hS hA hl hQ
  have hl : lv_has ls 9 [(0, .ref h0), (1, .int 0), (2, .int 3), (3, .int 0), (4, .int x4)] := hl
  have hT : TP D A [(h0, aJ (k 1) 9 anJ)] s.heap := hT
  refine lv_iload_n hx hb dX7_cofactor_0 rfl (lv_at hl 2 rfl) ?_
  refine lv_iconst (v := 1) hx hb dX7_cofactor_1 (by decide) ?_
  refine lv_icmp_ne (tgt := 7) hx hb dX7_cofactor_2 (by decide) (fun _ => ?_) (fun cc => absurd cc (by decide +kernel))
  refine lv_iload_n hx hb dX7_cofactor_7 rfl (lv_at hl 2 rfl) ?_
  refine lv_iconst (v := 2) hx hb dX7_cofactor_8 (by decide) ?_
  refine lv_icmp_ne (tgt := 43) hx hb dX7_cofactor_9 (by decide) (fun _ => ?_) (fun cc => absurd cc (by decide +kernel))
  refine lv_iload_n hx hb dX7_cofactor_43 rfl (lv_at hl 1 rfl) ?_
  refine lv_iload_n hx hb dX7_cofactor_44 rfl (lv_at hl 3 rfl) ?_
  refine lv_iconst (v := 1) hx hb dX7_cofactor_45 (by decide) ?_
  refine lv_iadd hx hb dX7_cofactor_46 (sv_i (v := 1) (by decide +kernel) ?_)
  refine lv_iconst (v := 3) hx hb dX7_cofactor_47 (by decide) ?_
  refine lv_irem hx hb dX7_cofactor_48 (by decide +kernel) (sv_i (v := 1) (by decide +kernel) ?_)
  refine lv_iconst (v := 3) hx hb dX7_cofactor_49 (by decide) ?_
  refine lv_imul hx hb dX7_cofactor_50 (sv_i (v := 3) (by decide +kernel) ?_)
  refine lv_iadd hx hb dX7_cofactor_51 (sv_i (v := 3) (by decide +kernel) ?_)
  refine lv_istore (lv' := [(5, .int 3), (0, .ref h0), (1, .int 0), (2, .int 3), (3, .int 0), (4, .int x4)]) hx hb dX7_cofactor_52 hl (by decide) rfl (fun ls hl => ?_)
  refine lv_iload_n hx hb dX7_cofactor_54 rfl (lv_at hl 2 rfl) ?_
  refine lv_iload_n hx hb dX7_cofactor_55 rfl (lv_at hl 4 rfl) ?_
  refine lv_iconst (v := 2) hx hb dX7_cofactor_56 (by decide) ?_
  refine lv_iadd hx hb dX7_cofactor_57 (sv_i (v := 2) (by decide +kernel) ?_)
  refine lv_iconst (v := 3) hx hb dX7_cofactor_58 (by decide) ?_
  refine lv_irem hx hb dX7_cofactor_59 (by decide +kernel) (sv_i (v := 2) (by decide +kernel) ?_)
  refine lv_iconst (v := 3) hx hb dX7_cofactor_60 (by decide) ?_
  refine lv_imul hx hb dX7_cofactor_61 (sv_i (v := 6) (by decide +kernel) ?_)
  refine lv_iadd hx hb dX7_cofactor_62 (sv_i (v := 6) (by decide +kernel) ?_)
  refine lv_istore (lv' := [(6, .int 6), (5, .int 3), (0, .ref h0), (1, .int 0), (2, .int 3), (3, .int 0), (4, .int x4)]) hx hb dX7_cofactor_63 hl (by decide) rfl (fun ls hl => ?_)
  refine lv_iload hx hb dX7_cofactor_65 (lv_at hl 6 rfl) ?_
  refine lv_iconst (v := 1) hx hb dX7_cofactor_67 (by decide) ?_
  refine lv_iadd hx hb dX7_cofactor_68 (lv_topi (fun v1 e_v1 => ?_))
  have e_v1 := ai_add e_v1 rfl li_1 (by omega)
  refine lv_iconst (v := 3) hx hb dX7_cofactor_69 (by decide) ?_
  refine lv_irem hx hb dX7_cofactor_70 (by decide +kernel) (lv_topi (fun v2 e_v2 => ?_))
  have e_v2 := ai_rem e_v2 rfl li_3 (by omega)
  refine lv_istore (lv' := [(7, .int v2), (6, .int 6), (5, .int 3), (0, .ref h0), (1, .int 0), (2, .int 3), (3, .int 0), (4, .int x4)]) hx hb dX7_cofactor_71 hl (by decide) rfl (fun ls hl => ?_)
  refine lv_iload hx hb dX7_cofactor_73 (lv_at hl 7 rfl) ?_
  refine lv_iconst (v := 2) hx hb dX7_cofactor_75 (by decide) ?_
  refine lv_iadd hx hb dX7_cofactor_76 (lv_topi (fun v3 e_v3 => ?_))
  have e_v3 := ai_add e_v3 rfl li_2 (by omega)
  refine lv_iconst (v := 3) hx hb dX7_cofactor_77 (by decide) ?_
  refine lv_irem hx hb dX7_cofactor_78 (by decide +kernel) (lv_topi (fun v4 e_v4 => ?_))
  have e_v4 := ai_rem e_v4 rfl li_3 (by omega)
  refine lv_istore (lv' := [(8, .int v4), (7, .int v2), (6, .int 6), (5, .int 3), (0, .ref h0), (1, .int 0), (2, .int 3), (3, .int 0), (4, .int x4)]) hx hb dX7_cofactor_79 hl (by decide) rfl (fun ls hl => ?_)
  refine lv_aload_n hx hb dX7_cofactor_81 rfl (lv_at hl 4 rfl) ?_
  refine lv_iload hx hb dX7_cofactor_82 (lv_at hl 3 rfl) ?_
  refine lv_iload hx hb dX7_cofactor_84 (lv_at hl 1 rfl) ?_
  refine lv_iadd hx hb dX7_cofactor_86 (lv_topi (fun v5 e_v5 => ?_))
  have e_v5 := ai_add e_v5 li_3 rfl (by omega)
  refine tz_lald hx hb hK hT 0 rfl (by omega) dX7_cofactor_87 (fun v6 e_v6 => ?_)
  clear e_v6
  refine lv_aload_n hx hb dX7_cofactor_88 rfl (lv_at hl 4 rfl) ?_
  refine lv_iload hx hb dX7_cofactor_89 (lv_at hl 2 rfl) ?_
  refine lv_iload hx hb dX7_cofactor_91 (lv_at hl 0 rfl) ?_
  refine lv_iadd hx hb dX7_cofactor_93 (lv_topi (fun v7 e_v7 => ?_))
  have e_v7 := ai_add e_v7 li_6 rfl (by omega)
  refine tz_lald hx hb hK hT 0 rfl (by omega) dX7_cofactor_94 (fun v8 e_v8 => ?_)
  clear e_v8
  refine lv_lmul hx hb dX7_cofactor_95 (lv_topl (fun v9 e_v9 => ?_))
  refine lv_aload_n hx hb dX7_cofactor_96 rfl (lv_at hl 4 rfl) ?_
  refine lv_iload hx hb dX7_cofactor_97 (lv_at hl 3 rfl) ?_
  refine lv_iload hx hb dX7_cofactor_99 (lv_at hl 0 rfl) ?_
  refine lv_iadd hx hb dX7_cofactor_101 (lv_topi (fun v10 e_v10 => ?_))
  have e_v10 := ai_add e_v10 li_3 rfl (by omega)
  refine tz_lald hx hb hK hT 0 rfl (by omega) dX7_cofactor_102 (fun v11 e_v11 => ?_)
  clear e_v11
  refine lv_aload_n hx hb dX7_cofactor_103 rfl (lv_at hl 4 rfl) ?_
  refine lv_iload hx hb dX7_cofactor_104 (lv_at hl 2 rfl) ?_
  refine lv_iload hx hb dX7_cofactor_106 (lv_at hl 1 rfl) ?_
  refine lv_iadd hx hb dX7_cofactor_108 (lv_topi (fun v12 e_v12 => ?_))
  have e_v12 := ai_add e_v12 li_6 rfl (by omega)
  refine tz_lald hx hb hK hT 0 rfl (by omega) dX7_cofactor_109 (fun v13 e_v13 => ?_)
  clear e_v13
  refine lv_lmul hx hb dX7_cofactor_110 (lv_topl (fun v14 e_v14 => ?_))
  refine lv_lsub hx hb dX7_cofactor_111 (lv_topl (fun v15 e_v15 => ?_))
  exact tz_retL (B := B_cX7_cofactor_1417b D k h0 x4) (v := v15) hQ hx hb hr hlocks hS (Nat.le_of_ble_eq_true rfl) (Nat.le_of_ble_eq_true rfl) dX7_cofactor_112 (hT)
abbrev Rm_cX7_determinant_a44b2 : Room := { frames := 1, cells := 0, slots := 0, locals := 28 }
abbrev B_cX7_determinant_a44b2 (D : va_G) (k : Nat → ClassId) (h0 : Nat) (x2 : Int32) (x3 : Int32) (A : Nat → Prop) (r : Int64) (H : Heap) : Prop := TP D A [(h0, aJ (k 1) 9 anJ)] H
set_option maxHeartbeats 4000000 in
set_option maxRecDepth 100000 in
theorem cX7_determinant_a44b2 (l : Launch) (D : va_G) (k : Nat → ClassId) (sz : Nat) (h0 : Nat) (x2 : Int32) (x3 : Int32) (b_x2 : 1 ≤ x2.toInt ∧ x2.toInt ≤ 3) (b_x3 : 1 ≤ x3.toInt ∧ x3.toInt ≤ 3) : Met l yX7_determinant (Cond.code yX7_determinant cX7_determinant 7 (some .long) :: uw) Rm_cX7_determinant_a44b2 (pT D k sz [.ref h0, .int 0, .int x2, .int x3] [(h0, aJ (k 1) 9 anJ)]) (qL (B_cX7_determinant_a44b2 D k h0 x2 x3 (zA [h0] sz)) (zA [h0] sz)) 0 0 (zA [h0] sz) := by
  refine tz_begin (as := [h0]) (Qc := fun A => qL (B_cX7_determinant_a44b2 D k h0 x2 x3 A) A) (by decide +kernel) rfl (Nat.le_of_ble_eq_true rfl) ?_
  intro p e s m args below meth c ls A Q hx hb hr hml hown hlocks hin hU hK hT hS hA hl hQ
  have hl : lv_has ls 7 [(0, .ref h0), (1, .int 0), (2, .int x2), (3, .int x3)] := hl
  have hT : TP D A [(h0, aJ (k 1) 9 anJ)] s.heap := hT
  refine lv_iload_n hx hb dX7_determinant_0 rfl (lv_at hl 3 rfl) ?_
  refine lv_iconst (v := 1) hx hb dX7_determinant_1 (by decide) ?_
  refine lv_icmp_ne (tgt := 9) hx hb dX7_determinant_2 (by decide) (fun c_1 => ?_) (fun c_1 => ?_)
  · skip
    have c_1 := ni_ne c_1 rfl li_1
    refine lv_iload_n hx hb dX7_determinant_9 rfl (lv_at hl 3 rfl) ?_
    refine lv_iconst (v := 2) hx hb dX7_determinant_10 (by decide) ?_
    refine lv_icmp_ne (tgt := 38) hx hb dX7_determinant_11 (by decide) (fun c_2 => ?_) (fun c_2 => ?_)
    · skip
      have c_2 := ni_ne c_2 rfl li_2
      refine lv_lconst (v := 0) hx hb dX7_determinant_38 (by decide) ?_
      refine lv_lstore (lv' := [(4, .long 0), (0, .ref h0), (1, .int 0), (2, .int x2), (3, .int x3)]) hx hb dX7_determinant_39 hl (by decide) rfl (fun ls hl => ?_)
      refine lv_iconst (v := 0) hx hb dX7_determinant_41 (by decide) ?_
      refine lv_istore (lv' := [(6, .int 0), (4, .long 0), (0, .ref h0), (1, .int 0), (2, .int x2), (3, .int x3)]) hx hb dX7_determinant_42 hl (by decide) rfl (fun ls hl => ?_)
      have lp44_9 : ∀ (n : Nat) (y7 : Int32) (y8 : Int64) (H : Heap) (locs : List Loc) (ls : Array Slot), (0 ≤ y7.toInt ∧ y7.toInt ≤ 3) → ((-1) * y7.toInt + 3 + 1).toNat < n → TP D A [(h0, aJ (k 1) 9 anJ)] H → va_S A s.heap H locs → lv_has ls 7 [(0, .ref h0), (1, .int 0), (4, .long y8), (6, .int y7)] → W p l e Rm_cX7_determinant_a44b2 s m args below meth c H locs 0 0 Q (F0 m 44 ls []) := by
        intro n
        induction n with
        | zero => intro y7 y8 H locs ls b_y7 hm hT hS hl; exact absurd hm (Nat.not_lt_zero _)
        | succ n ih =>
          intro y7 y8 H locs ls b_y7 hm hT hS hl
          have ih44_9 := ih
          clear ih
          refine lv_iload hx hb dX7_determinant_44 (lv_at hl 3 rfl) ?_
          refine lv_iconst (v := 3) hx hb dX7_determinant_46 (by decide) ?_
          refine lv_icmp_ge (tgt := 77) hx hb dX7_determinant_47 (by decide) (fun c_10 => ?_) (fun c_10 => ?_)
          · skip
            have c_10 := ni_le c_10 li_3 rfl
            refine lv_lload hx hb dX7_determinant_77 (lv_at hl 2 rfl) ?_
            exact tz_retL (B := B_cX7_determinant_a44b2 D k h0 x2 x3) (v := y8) hQ hx hb hr hlocks hS (Nat.le_of_ble_eq_true rfl) (Nat.le_of_ble_eq_true rfl) dX7_determinant_79 (hT)
          · skip
            have c_10 := ni_nle c_10 li_3 rfl
            refine lv_lload hx hb dX7_determinant_50 (lv_at hl 2 rfl) ?_
            refine lv_aload_n hx hb dX7_determinant_52 rfl (lv_at hl 0 rfl) ?_
            refine lv_iload_n hx hb dX7_determinant_53 rfl (lv_at hl 1 rfl) ?_
            refine lv_iload hx hb dX7_determinant_54 (lv_at hl 3 rfl) ?_
            refine lv_iadd hx hb dX7_determinant_56 (lv_topi (fun v11 e_v11 => ?_))
            have e_v11 := ai_add e_v11 li_0 rfl (by omega)
            refine tz_lald hx hb hK hT 0 rfl (by omega) dX7_determinant_57 (fun v12 e_v12 => ?_)
            clear e_v12
            refine lv_aload_n hx hb dX7_determinant_58 rfl (lv_at hl 0 rfl) ?_
            refine lv_iload_n hx hb dX7_determinant_59 rfl (lv_at hl 1 rfl) ?_
            refine lv_iconst (v := 3) hx hb dX7_determinant_60 (by decide) ?_
            refine lv_iconst (v := 0) hx hb dX7_determinant_61 (by decide) ?_
            refine lv_iload hx hb dX7_determinant_62 (lv_at hl 3 rfl) ?_
            refine tcL (Tc := [(h0, aJ (k 1) 9 anJ)]) (Tr := []) (as := [h0]) (zcS (As := [.ref h0, .int 0, .int 3, .int 0, .int y7]) (rest := [.long v12, .long y8]) (Tc := [(h0, aJ (k 1) 9 anJ)]) hx hb hml hown hU hK hT [0] rfl (by decide) (cX7_cofactor_1417b l D k _ h0 y7 (by omega)) w375 w373 w374 w74 hdX7_cofactor ⟨rfl, rfl⟩ ⟨Nat.le_of_ble_eq_true rfl, Nat.le_of_ble_eq_true rfl⟩ rfl hl.1 (Nat.le_of_ble_eq_true rfl) dX7_determinant_64 ⟨Nat.le_of_ble_eq_true rfl, Nat.le_of_ble_eq_true rfl⟩) hT hS hA [0] [] rfl rfl rfl (by decide) (by decide) (fun r13 H locs hB J hS => ?_)
            have hT1 := hB
            have hT := J _ hT1
            have hT : TP D A [(h0, aJ (k 1) 9 anJ)] H := hT
            refine lv_lmul hx hb dX7_determinant_67 (lv_topl (fun v14 e_v14 => ?_))
            refine lv_ladd hx hb dX7_determinant_68 (lv_topl (fun v15 e_v15 => ?_))
            refine lv_lstore (lv' := [(4, .long v15), (0, .ref h0), (1, .int 0), (6, .int y7)]) hx hb dX7_determinant_69 hl (by decide) rfl (fun ls hl => ?_)
            obtain ⟨v16, e_v16⟩ : ∃ x : Int32, x = y7 + Int32.ofInt 1 := ⟨_, rfl⟩
            have f_v16 := e_v16.symm
            have e_v16 : v16.toInt = y7.toInt + 1 := ai_add e_v16 rfl (show (Int32.ofInt 1).toInt = 1 from (by decide +kernel)) (by omega)
            refine lv_iinc (v := v16) (lv' := [(6, .int v16), (4, .long v15), (0, .ref h0), (1, .int 0)]) hx hb dX7_determinant_71 hl (k := 3) rfl f_v16 (by decide) rfl (fun ls hl => ?_)
            refine lv_goto (tgt := 44) hx hb dX7_determinant_74 (by decide) ?_
            exact ih44_9 v16 v15 _ _ _ (by omega)  (by omega) hT hS (lv_sub hl [2, 3, 1, 0] rfl)
      exact lp44_9 (((-1) * (0 : Int32).toInt + 3 + 1).toNat + 1) (0) (0) _ _ _ (by have := li_0; have := ll_0; omega)  (Nat.lt_succ_self _) hT hS (lv_sub hl [2, 3, 1, 0] rfl)
    · skip
      have c_2 := ni_eq c_2 rfl li_2
      refine lv_aload_n hx hb dX7_determinant_14 rfl (lv_at hl 0 rfl) ?_
      refine lv_iload_n hx hb dX7_determinant_15 rfl (lv_at hl 1 rfl) ?_
      refine tz_lald hx hb hK hT 0 rfl (by have := li_0; omega) dX7_determinant_16 (fun v17 e_v17 => ?_)
      clear e_v17
      refine lv_aload_n hx hb dX7_determinant_17 rfl (lv_at hl 0 rfl) ?_
      refine lv_iload_n hx hb dX7_determinant_18 rfl (lv_at hl 1 rfl) ?_
      refine lv_iload_n hx hb dX7_determinant_19 rfl (lv_at hl 2 rfl) ?_
      refine lv_iadd hx hb dX7_determinant_20 (lv_topi (fun v18 e_v18 => ?_))
      have e_v18 := ai_add e_v18 li_0 rfl (by omega)
      refine lv_iconst (v := 1) hx hb dX7_determinant_21 (by decide) ?_
      refine lv_iadd hx hb dX7_determinant_22 (lv_topi (fun v19 e_v19 => ?_))
      have e_v19 := ai_add e_v19 rfl li_1 (by omega)
      refine tz_lald hx hb hK hT 0 rfl (by omega) dX7_determinant_23 (fun v20 e_v20 => ?_)
      clear e_v20
      refine lv_lmul hx hb dX7_determinant_24 (lv_topl (fun v21 e_v21 => ?_))
      refine lv_aload_n hx hb dX7_determinant_25 rfl (lv_at hl 0 rfl) ?_
      refine lv_iload_n hx hb dX7_determinant_26 rfl (lv_at hl 1 rfl) ?_
      refine lv_iconst (v := 1) hx hb dX7_determinant_27 (by decide) ?_
      refine lv_iadd hx hb dX7_determinant_28 (sv_i (v := 1) (by decide +kernel) ?_)
      refine tz_lald hx hb hK hT 0 rfl (by have := li_1; omega) dX7_determinant_29 (fun v22 e_v22 => ?_)
      clear e_v22
      refine lv_aload_n hx hb dX7_determinant_30 rfl (lv_at hl 0 rfl) ?_
      refine lv_iload_n hx hb dX7_determinant_31 rfl (lv_at hl 1 rfl) ?_
      refine lv_iload_n hx hb dX7_determinant_32 rfl (lv_at hl 2 rfl) ?_
      refine lv_iadd hx hb dX7_determinant_33 (lv_topi (fun v23 e_v23 => ?_))
      have e_v23 := ai_add e_v23 li_0 rfl (by omega)
      refine tz_lald hx hb hK hT 0 rfl (by omega) dX7_determinant_34 (fun v24 e_v24 => ?_)
      clear e_v24
      refine lv_lmul hx hb dX7_determinant_35 (lv_topl (fun v25 e_v25 => ?_))
      refine lv_lsub hx hb dX7_determinant_36 (lv_topl (fun v26 e_v26 => ?_))
      exact tz_retL (B := B_cX7_determinant_a44b2 D k h0 x2 x3) (v := v26) hQ hx hb hr hlocks hS (Nat.le_of_ble_eq_true rfl) (Nat.le_of_ble_eq_true rfl) dX7_determinant_37 (hT)
  · skip
    have c_1 := ni_eq c_1 rfl li_1
    refine lv_aload_n hx hb dX7_determinant_5 rfl (lv_at hl 0 rfl) ?_
    refine lv_iload_n hx hb dX7_determinant_6 rfl (lv_at hl 1 rfl) ?_
    refine tz_lald hx hb hK hT 0 rfl (by have := li_0; omega) dX7_determinant_7 (fun v27 e_v27 => ?_)
    clear e_v27
    exact tz_retL (B := B_cX7_determinant_a44b2 D k h0 x2 x3) (v := v27) hQ hx hb hr hlocks hS (Nat.le_of_ble_eq_true rfl) (Nat.le_of_ble_eq_true rfl) dX7_determinant_8 (hT)
abbrev Rm_cX10_isPositiveForm_92f38 : Room := { frames := 2, cells := 0, slots := 0, locals := 54 }
abbrev B_cX10_isPositiveForm_92f38 (D : va_G) (k : Nat → ClassId) (h0 h1 h11 h12 h2 h3 h4 h5 h6 h7 h8 h9 h10 h13 : Nat) (h0f2 : Int32) (h0f6 : Int32) (h0f8 : Int32) (h0f11 : Int32) (h1f0 : Int32) (h1f1 : Int32) (h1f2 : Int32) (A : Nat → Prop) (r : Int32) (H : Heap) : Prop := (0 ≤ r.toInt ∧ r.toInt ≤ 1) ∧ TP D A [(h0, ob 7 [.ref h1, .ref h2, .int h0f2, .ref h3, .ref h4, .ref h5, .int h0f6, .ref h6, .int h0f8, .null, .ref h7, .int h0f11, .ref h8, .ref h9, .ref h10, .ref h11, .ref h12]), (h1, ob 4 [.int h1f0, .int h1f1, .int h1f2, .ref h13]), (h11, aJ (k 1) 9 anJ), (h12, aJ (k 1) 9 anJ)] H
set_option maxHeartbeats 4000000 in
set_option maxRecDepth 100000 in
theorem cX10_isPositiveForm_92f38 (l : Launch) (D : va_G) (k : Nat → ClassId) (sz : Nat) (h0 h1 h11 h12 h2 h3 h4 h5 h6 h7 h8 h9 h10 h13 : Nat) (h0f2 : Int32) (h0f6 : Int32) (h0f8 : Int32) (h0f11 : Int32) (h1f0 : Int32) (h1f1 : Int32) (h1f2 : Int32) (b_h0f2 : 0 ≤ h0f2.toInt ∧ h0f2.toInt ≤ 1) (b_h0f6 : 0 ≤ h0f6.toInt ∧ h0f6.toInt ≤ 1) (b_h0f8 : 0 ≤ h0f8.toInt ∧ h0f8.toInt ≤ 1) (b_h0f11 : 0 ≤ h0f11.toInt ∧ h0f11.toInt ≤ 200) (b_h1f0 : 1 ≤ h1f0.toInt ∧ h1f0.toInt ≤ 3) (b_h1f1 : 0 ≤ h1f1.toInt ∧ h1f1.toInt ≤ 4) : Met l yX10_isPositiveForm (Cond.code yX10_isPositiveForm cX10_isPositiveForm 2 (some .boolean) :: uw) Rm_cX10_isPositiveForm_92f38 (pT D k sz [.ref h0] [(h0, ob 7 [.ref h1, .ref h2, .int h0f2, .ref h3, .ref h4, .ref h5, .int h0f6, .ref h6, .int h0f8, .null, .ref h7, .int h0f11, .ref h8, .ref h9, .ref h10, .ref h11, .ref h12]), (h1, ob 4 [.int h1f0, .int h1f1, .int h1f2, .ref h13]), (h11, aJ (k 1) 9 anJ), (h12, aJ (k 1) 9 anJ)]) (qI (B_cX10_isPositiveForm_92f38 D k h0 h1 h11 h12 h2 h3 h4 h5 h6 h7 h8 h9 h10 h13 h0f2 h0f6 h0f8 h0f11 h1f0 h1f1 h1f2 (zA [h0, h1, h11, h12] sz)) (zA [h0, h1, h11, h12] sz)) 0 0 (zA [h0, h1, h11, h12] sz) := by
  refine tz_begin (as := [h0, h1, h11, h12]) (Qc := fun A => qI (B_cX10_isPositiveForm_92f38 D k h0 h1 h11 h12 h2 h3 h4 h5 h6 h7 h8 h9 h10 h13 h0f2 h0f6 h0f8 h0f11 h1f0 h1f1 h1f2 A) A) (by decide +kernel) rfl (Nat.le_of_ble_eq_true rfl) ?_
  intro p e s m args below meth c ls A Q hx hb hr hml hown hlocks hin hU hK hT hS hA hl hQ
  have hl : lv_has ls 2 [(0, .ref h0)] := hl
  have hT : TP D A [(h0, ob 7 [.ref h1, .ref h2, .int h0f2, .ref h3, .ref h4, .ref h5, .int h0f6, .ref h6, .int h0f8, .null, .ref h7, .int h0f11, .ref h8, .ref h9, .ref h10, .ref h11, .ref h12]), (h1, ob 4 [.int h1f0, .int h1f1, .int h1f2, .ref h13]), (h11, aJ (k 1) 9 anJ), (h12, aJ (k 1) 9 anJ)] s.heap := hT
  refine lv_aload_n hx hb dX10_isPositiveForm_0 rfl (lv_at hl 0 rfl) ?_
  refine tz_get (ci := 7) (v := .ref h11) (C := RX10) (F := TX10) (N := 17) hx hb hU iX10 hown hK hT 0 rfl rfl 15 (by decide) w264 (fun _ h9 => h9) rfl dX10_isPositiveForm_1 ?_
  refine lv_iconst (v := 0) hx hb dX10_isPositiveForm_4 (by decide) ?_
  refine lv_aload_n hx hb dX10_isPositiveForm_5 rfl (lv_at hl 0 rfl) ?_
  refine tz_get (ci := 7) (v := .ref h12) (C := RX10) (F := TX10) (N := 17) hx hb hU iX10 hown hK hT 0 rfl rfl 16 (by decide) w265 (fun _ h9 => h9) rfl dX10_isPositiveForm_6 ?_
  refine lv_aload_n hx hb dX10_isPositiveForm_9 rfl (lv_at hl 0 rfl) ?_
  refine tz_get (ci := 7) (v := .ref h1) (C := RX10) (F := TX10) (N := 17) hx hb hU iX10 hown hK hT 0 rfl rfl 0 (by decide) w249 (fun _ h9 => h9) rfl dX10_isPositiveForm_10 ?_
  refine tz_get (ci := 4) (v := .int h1f0) (C := RX5) (F := TX5) (N := 4) hx hb hU iX5 hown hK hT 1 rfl rfl 0 (by decide) w93 (fun _ h9 => h9) rfl dX10_isPositiveForm_13 ?_
  have q_q2 := li_0
  refine tcV (Tc := [(h11, aJ (k 1) 9 anJ), (h12, aJ (k 1) 9 anJ)]) (Tr := [(h0, ob 7 [.ref h1, .ref h2, .int h0f2, .ref h3, .ref h4, .ref h5, .int h0f6, .ref h6, .int h0f8, .null, .ref h7, .int h0f11, .ref h8, .ref h9, .ref h10, .ref h11, .ref h12]), (h1, ob 4 [.int h1f0, .int h1f1, .int h1f2, .ref h13])]) (as := [h11, h12]) (zcS (As := [.ref h11, .int 0, .ref h12, .int h1f0]) (rest := []) (Tc := [(h11, aJ (k 1) 9 anJ), (h12, aJ (k 1) 9 anJ)]) hx hb hml hown hU hK hT [2, 3] rfl (by decide) (cX7_turn_4a21f l D k _ h11 h12 (0) h1f0 (by have := li_0; omega) (by omega)) w378 w376 w377 w74 hdX7_turn ⟨rfl, rfl⟩ ⟨Nat.le_of_ble_eq_true rfl, Nat.le_of_ble_eq_true rfl⟩ rfl hl.1 (Nat.le_of_ble_eq_true rfl) dX10_isPositiveForm_16 ⟨Nat.le_of_ble_eq_true rfl, Nat.le_of_ble_eq_true rfl⟩) hT hS hA [2, 3] [0, 1] rfl rfl rfl (by decide) (by decide) (fun H locs hB J hS => ?_)
  have hT1 := hB
  have hT := J _ hT1
  have hT : TP D A [(h0, ob 7 [.ref h1, .ref h2, .int h0f2, .ref h3, .ref h4, .ref h5, .int h0f6, .ref h6, .int h0f8, .null, .ref h7, .int h0f11, .ref h8, .ref h9, .ref h10, .ref h11, .ref h12]), (h1, ob 4 [.int h1f0, .int h1f1, .int h1f2, .ref h13]), (h11, aJ (k 1) 9 anJ), (h12, aJ (k 1) 9 anJ)] H := hT
  refine lv_aload_n hx hb dX10_isPositiveForm_19 rfl (lv_at hl 0 rfl) ?_
  refine tz_get (ci := 7) (v := .ref h11) (C := RX10) (F := TX10) (N := 17) hx hb hU iX10 hown hK hT 0 rfl rfl 15 (by decide) w264 (fun _ h9 => h9) rfl dX10_isPositiveForm_20 ?_
  refine lv_aload_n hx hb dX10_isPositiveForm_23 rfl (lv_at hl 0 rfl) ?_
  refine tz_get (ci := 7) (v := .ref h12) (C := RX10) (F := TX10) (N := 17) hx hb hU iX10 hown hK hT 0 rfl rfl 16 (by decide) w265 (fun _ h9 => h9) rfl dX10_isPositiveForm_24 ?_
  refine lv_aload_n hx hb dX10_isPositiveForm_27 rfl (lv_at hl 0 rfl) ?_
  refine tz_get (ci := 7) (v := .ref h1) (C := RX10) (F := TX10) (N := 17) hx hb hU iX10 hown hK hT 0 rfl rfl 0 (by decide) w249 (fun _ h9 => h9) rfl dX10_isPositiveForm_28 ?_
  refine tcI (Tc := [(h1, ob 4 [.int h1f0, .int h1f1, .int h1f2, .ref h13])]) (Tr := [(h0, ob 7 [.ref h1, .ref h2, .int h0f2, .ref h3, .ref h4, .ref h5, .int h0f6, .ref h6, .int h0f8, .null, .ref h7, .int h0f11, .ref h8, .ref h9, .ref h10, .ref h11, .ref h12]), (h11, aJ (k 1) 9 anJ), (h12, aJ (k 1) 9 anJ)]) (as := [h1]) (zcV (q0 := 1) (ci := 4) (As := []) (rest := [.ref h12, .ref h11]) (Tc := [(h1, ob 4 [.int h1f0, .int h1f1, .int h1f2, .ref h13])]) hx hb hml hown hU hK hT rfl rfl [1] rfl (by decide) (cX5_cellCount_642c9 l D k _ h1 h13 h1f0 h1f1 h1f2 (by omega) (by omega)) w385 w382 w383 w384 w64 hdX5_cellCount ⟨rfl, rfl⟩ ⟨Nat.le_of_ble_eq_true rfl, Nat.le_of_ble_eq_true rfl⟩ rfl hl.1 (Nat.le_of_ble_eq_true rfl) dX10_isPositiveForm_31 ⟨Nat.le_of_ble_eq_true rfl, Nat.le_of_ble_eq_true rfl⟩) hT hS hA [1] [0, 2, 3] rfl rfl rfl (by decide) (by decide) (fun r3 H locs hB J hS => ?_)
  obtain ⟨b_r3, hT1⟩ := hB
  have hT := J _ hT1
  have hT : TP D A [(h0, ob 7 [.ref h1, .ref h2, .int h0f2, .ref h3, .ref h4, .ref h5, .int h0f6, .ref h6, .int h0f8, .null, .ref h7, .int h0f11, .ref h8, .ref h9, .ref h10, .ref h11, .ref h12]), (h11, aJ (k 1) 9 anJ), (h12, aJ (k 1) 9 anJ), (h1, ob 4 [.int h1f0, .int h1f1, .int h1f2, .ref h13])] H := hT
  refine tcI (Tc := [(h11, aJ (k 1) 9 anJ), (h12, aJ (k 1) 9 anJ)]) (Tr := [(h0, ob 7 [.ref h1, .ref h2, .int h0f2, .ref h3, .ref h4, .ref h5, .int h0f6, .ref h6, .int h0f8, .null, .ref h7, .int h0f11, .ref h8, .ref h9, .ref h10, .ref h11, .ref h12]), (h1, ob 4 [.int h1f0, .int h1f1, .int h1f2, .ref h13])]) (as := [h11, h12]) (zcS (As := [.ref h11, .ref h12, .int r3]) (rest := []) (Tc := [(h11, aJ (k 1) 9 anJ), (h12, aJ (k 1) 9 anJ)]) hx hb hml hown hU hK hT [1, 2] rfl (by decide) (cX7_areAlike_339bc l D k _ h11 h12 r3 (by omega)) w608 w606 w607 w74 hdX7_areAlike ⟨rfl, rfl⟩ ⟨Nat.le_of_ble_eq_true rfl, Nat.le_of_ble_eq_true rfl⟩ rfl hl.1 (Nat.le_of_ble_eq_true rfl) dX10_isPositiveForm_34 ⟨Nat.le_of_ble_eq_true rfl, Nat.le_of_ble_eq_true rfl⟩) hT hS hA [1, 2] [0, 3] rfl rfl rfl (by decide) (by decide) (fun r4 H locs hB J hS => ?_)
  obtain ⟨b_r4, hT1⟩ := hB
  have hT := J _ hT1
  have hT : TP D A [(h0, ob 7 [.ref h1, .ref h2, .int h0f2, .ref h3, .ref h4, .ref h5, .int h0f6, .ref h6, .int h0f8, .null, .ref h7, .int h0f11, .ref h8, .ref h9, .ref h10, .ref h11, .ref h12]), (h1, ob 4 [.int h1f0, .int h1f1, .int h1f2, .ref h13]), (h11, aJ (k 1) 9 anJ), (h12, aJ (k 1) 9 anJ)] H := hT
  refine lv_if_ne (tgt := 42) hx hb dX10_isPositiveForm_37 (by decide) (fun c_5 => ?_) (fun c_5 => ?_)
  · skip
    have c_5 := ni_ne c_5 rfl li_0
    refine lv_iconst (v := 1) hx hb dX10_isPositiveForm_42 (by decide) ?_
    refine lv_istore_n (lv' := [(1, .int 1), (0, .ref h0)]) hx hb dX10_isPositiveForm_43 rfl hl (by decide) rfl (fun ls hl => ?_)
    have lp44_9 : ∀ (n : Nat) (y8 : Int32) (H : Heap) (locs : List Loc) (ls : Array Slot), (1 ≤ y8.toInt ∧ y8.toInt ≤ 4) → (h1f0.toInt + (-1) * y8.toInt + 1).toNat < n → TP D A [(h0, ob 7 [.ref h1, .ref h2, .int h0f2, .ref h3, .ref h4, .ref h5, .int h0f6, .ref h6, .int h0f8, .null, .ref h7, .int h0f11, .ref h8, .ref h9, .ref h10, .ref h11, .ref h12]), (h1, ob 4 [.int h1f0, .int h1f1, .int h1f2, .ref h13]), (h11, aJ (k 1) 9 anJ), (h12, aJ (k 1) 9 anJ)] H → va_S A s.heap H locs → lv_has ls 2 [(0, .ref h0), (1, .int y8)] → W p l e Rm_cX10_isPositiveForm_92f38 s m args below meth c H locs 0 0 Q (F0 m 44 ls []) := by
      intro n
      induction n with
      | zero => intro y8 H locs ls b_y8 hm hT hS hl; exact absurd hm (Nat.not_lt_zero _)
      | succ n ih =>
        intro y8 H locs ls b_y8 hm hT hS hl
        have ih44_9 := ih
        clear ih
        refine lv_iload_n hx hb dX10_isPositiveForm_44 rfl (lv_at hl 1 rfl) ?_
        refine lv_aload_n hx hb dX10_isPositiveForm_45 rfl (lv_at hl 0 rfl) ?_
        refine tz_get (ci := 7) (v := .ref h1) (C := RX10) (F := TX10) (N := 17) hx hb hU iX10 hown hK hT 0 rfl rfl 0 (by decide) w249 (fun _ h9 => h9) rfl dX10_isPositiveForm_46 ?_
        refine tz_get (ci := 4) (v := .int h1f0) (C := RX5) (F := TX5) (N := 4) hx hb hU iX5 hown hK hT 1 rfl rfl 0 (by decide) w93 (fun _ h9 => h9) rfl dX10_isPositiveForm_49 ?_
        refine lv_icmp_gt (tgt := 84) hx hb dX10_isPositiveForm_52 (by decide) (fun c_10 => ?_) (fun c_10 => ?_)
        · skip
          have c_10 := ni_lt c_10 rfl rfl
          refine lv_iconst (v := 1) hx hb dX10_isPositiveForm_84 (by decide) ?_
          exact tz_retZ (B := B_cX10_isPositiveForm_92f38 D k h0 h1 h11 h12 h2 h3 h4 h5 h6 h7 h8 h9 h10 h13 h0f2 h0f6 h0f8 h0f11 h1f0 h1f1 h1f2) (v := 1) hQ hx hb hr hlocks hS (Nat.le_of_ble_eq_true rfl) (Nat.le_of_ble_eq_true rfl) dX10_isPositiveForm_85 (by have := li_1; omega) (⟨(by have := li_1; omega), hT⟩)
        · skip
          have c_10 := ni_nlt c_10 rfl rfl
          refine lv_aload_n hx hb dX10_isPositiveForm_55 rfl (lv_at hl 0 rfl) ?_
          refine tz_get (ci := 7) (v := .ref h11) (C := RX10) (F := TX10) (N := 17) hx hb hU iX10 hown hK hT 0 rfl rfl 15 (by decide) w264 (fun _ h9 => h9) rfl dX10_isPositiveForm_56 ?_
          refine lv_iconst (v := 0) hx hb dX10_isPositiveForm_59 (by decide) ?_
          refine lv_aload_n hx hb dX10_isPositiveForm_60 rfl (lv_at hl 0 rfl) ?_
          refine tz_get (ci := 7) (v := .ref h1) (C := RX10) (F := TX10) (N := 17) hx hb hU iX10 hown hK hT 0 rfl rfl 0 (by decide) w249 (fun _ h9 => h9) rfl dX10_isPositiveForm_61 ?_
          refine tz_get (ci := 4) (v := .int h1f0) (C := RX5) (F := TX5) (N := 4) hx hb hU iX5 hown hK hT 1 rfl rfl 0 (by decide) w93 (fun _ h9 => h9) rfl dX10_isPositiveForm_64 ?_
          refine lv_iload_n hx hb dX10_isPositiveForm_67 rfl (lv_at hl 1 rfl) ?_
          refine tcL (Tc := [(h11, aJ (k 1) 9 anJ)]) (Tr := [(h0, ob 7 [.ref h1, .ref h2, .int h0f2, .ref h3, .ref h4, .ref h5, .int h0f6, .ref h6, .int h0f8, .null, .ref h7, .int h0f11, .ref h8, .ref h9, .ref h10, .ref h11, .ref h12]), (h1, ob 4 [.int h1f0, .int h1f1, .int h1f2, .ref h13]), (h12, aJ (k 1) 9 anJ)]) (as := [h11]) (zcS (As := [.ref h11, .int 0, .int h1f0, .int y8]) (rest := []) (Tc := [(h11, aJ (k 1) 9 anJ)]) hx hb hml hown hU hK hT [2] rfl (by decide) (cX7_determinant_a44b2 l D k _ h11 h1f0 y8 (by omega) (by omega)) w372 w402 w371 w74 hdX7_determinant ⟨rfl, rfl⟩ ⟨Nat.le_of_ble_eq_true rfl, Nat.le_of_ble_eq_true rfl⟩ rfl hl.1 (Nat.le_of_ble_eq_true rfl) dX10_isPositiveForm_68 ⟨Nat.le_of_ble_eq_true rfl, Nat.le_of_ble_eq_true rfl⟩) hT hS hA [2] [0, 1, 3] rfl rfl rfl (by decide) (by decide) (fun r11 H locs hB J hS => ?_)
          have hT1 := hB
          have hT := J _ hT1
          have hT : TP D A [(h0, ob 7 [.ref h1, .ref h2, .int h0f2, .ref h3, .ref h4, .ref h5, .int h0f6, .ref h6, .int h0f8, .null, .ref h7, .int h0f11, .ref h8, .ref h9, .ref h10, .ref h11, .ref h12]), (h1, ob 4 [.int h1f0, .int h1f1, .int h1f2, .ref h13]), (h12, aJ (k 1) 9 anJ), (h11, aJ (k 1) 9 anJ)] H := hT
          refine lv_lconst (v := 0) hx hb dX10_isPositiveForm_71 (by decide) ?_
          refine W.lcmp hx hb dX10_isPositiveForm_72 ?_
          refine lv_if_gt (tgt := 78) hx hb dX10_isPositiveForm_73 (by decide) (fun c_12 => ?_) (fun c_12 => ?_)
          · skip
            have c_12 := nl_gt c_12 rfl ll_0
            obtain ⟨v13, e_v13⟩ : ∃ x : Int32, x = y8 + Int32.ofInt 1 := ⟨_, rfl⟩
            have f_v13 := e_v13.symm
            have e_v13 : v13.toInt = y8.toInt + 1 := ai_add e_v13 rfl (show (Int32.ofInt 1).toInt = 1 from (by decide +kernel)) (by omega)
            refine lv_iinc (v := v13) (lv' := [(1, .int v13), (0, .ref h0)]) hx hb dX10_isPositiveForm_78 hl (k := 1) rfl f_v13 (by decide) rfl (fun ls hl => ?_)
            refine lv_goto (tgt := 44) hx hb dX10_isPositiveForm_81 (by decide) ?_
            exact ih44_9 v13 _ _ _ (by omega)  (by omega) (hT.sub [0, 1, 3, 2] (by decide) rfl) hS (lv_sub hl [1, 0] rfl)
          · skip
            have c_12 := nl_ngt c_12 rfl ll_0
            refine lv_iconst (v := 0) hx hb dX10_isPositiveForm_76 (by decide) ?_
            exact tz_retZ (B := B_cX10_isPositiveForm_92f38 D k h0 h1 h11 h12 h2 h3 h4 h5 h6 h7 h8 h9 h10 h13 h0f2 h0f6 h0f8 h0f11 h1f0 h1f1 h1f2) (v := 0) hQ hx hb hr hlocks hS (Nat.le_of_ble_eq_true rfl) (Nat.le_of_ble_eq_true rfl) dX10_isPositiveForm_77 (by have := li_0; omega) (⟨(by have := li_0; omega), (hT.sub [0, 1, 3, 2] (by decide) rfl)⟩)
    exact lp44_9 ((h1f0.toInt + (-1) * (1 : Int32).toInt + 1).toNat + 1) (1) _ _ _ (by have := li_1; omega)  (Nat.lt_succ_self _) hT hS (lv_sub hl [1, 0] rfl)
  · skip
    have c_5 := ni_eq c_5 rfl li_0
    refine lv_iconst (v := 0) hx hb dX10_isPositiveForm_40 (by decide) ?_
    exact tz_retZ (B := B_cX10_isPositiveForm_92f38 D k h0 h1 h11 h12 h2 h3 h4 h5 h6 h7 h8 h9 h10 h13 h0f2 h0f6 h0f8 h0f11 h1f0 h1f1 h1f2) (v := 0) hQ hx hb hr hlocks hS (Nat.le_of_ble_eq_true rfl) (Nat.le_of_ble_eq_true rfl) dX10_isPositiveForm_41 (by have := li_0; omega) (⟨(by have := li_0; omega), hT⟩)
abbrev Rm_cX7_addUp_b264d : Room := { frames := 0, cells := 0, slots := 0, locals := 0 }
abbrev B_cX7_addUp_b264d (D : va_G) (k : Nat → ClassId) (h0 h1 : Nat) (x1 : Int32) (x2 : Int32) (x4 : Int32) (x5 : Int32) (x6 : Int32) (A : Nat → Prop) (r : Int64) (H : Heap) : Prop := TP D A [(h0, aJ (k 1) 36 anJ), (h1, aJ (k 1) 9 anJ)] H
set_option maxHeartbeats 4000000 in
set_option maxRecDepth 100000 in
theorem cX7_addUp_b264d (l : Launch) (D : va_G) (k : Nat → ClassId) (sz : Nat) (h0 h1 : Nat) (x1 : Int32) (x2 : Int32) (x4 : Int32) (x5 : Int32) (x6 : Int32) (b_x1 : 0 ≤ x1.toInt ∧ x1.toInt ≤ 29) (b_x2 : 1 ≤ x2.toInt ∧ x2.toInt ≤ 3) (b_x4 : 0 ≤ x4.toInt ∧ x4.toInt ≤ 2) (b_x5 : 1 ≤ x5.toInt ∧ x5.toInt ≤ 3) (b_x6 : 1 ≤ x6.toInt ∧ x6.toInt ≤ 3) : Met l yX7_addUp (Cond.code yX7_addUp cX7_addUp 10 (some .long) :: uw) Rm_cX7_addUp_b264d (pT D k sz [.ref h0, .int x1, .int x2, .ref h1, .int x4, .int x5, .int x6] [(h0, aJ (k 1) 36 anJ), (h1, aJ (k 1) 9 anJ)]) (qL (B_cX7_addUp_b264d D k h0 h1 x1 x2 x4 x5 x6 (zA [h0, h1] sz)) (zA [h0, h1] sz)) 0 0 (zA [h0, h1] sz) := by
  refine tz_begin (as := [h0, h1]) (Qc := fun A => qL (B_cX7_addUp_b264d D k h0 h1 x1 x2 x4 x5 x6 A) A) (by decide +kernel) rfl (Nat.le_of_ble_eq_true rfl) ?_
  intro p e s m args below meth c ls A Q hx hb hr hml hown hlocks hin hU hK hT hS hA hl hQ
  have hl : lv_has ls 10 [(0, .ref h0), (1, .int x1), (2, .int x2), (3, .ref h1), (4, .int x4), (5, .int x5), (6, .int x6)] := hl
  have hT : TP D A [(h0, aJ (k 1) 36 anJ), (h1, aJ (k 1) 9 anJ)] s.heap := hT
  refine lv_lconst (v := 0) hx hb dX7_addUp_0 (by decide) ?_
  refine lv_lstore (lv' := [(7, .long 0), (0, .ref h0), (1, .int x1), (2, .int x2), (3, .ref h1), (4, .int x4), (5, .int x5), (6, .int x6)]) hx hb dX7_addUp_1 hl (by decide) rfl (fun ls hl => ?_)
  refine lv_iconst (v := 0) hx hb dX7_addUp_3 (by decide) ?_
  refine lv_istore (lv' := [(9, .int 0), (7, .long 0), (0, .ref h0), (1, .int x1), (2, .int x2), (3, .ref h1), (4, .int x4), (5, .int x5), (6, .int x6)]) hx hb dX7_addUp_4 hl (by decide) rfl (fun ls hl => ?_)
  have lp6_7 : ∀ (n : Nat) (y5 : Int32) (y6 : Int64) (H : Heap) (locs : List Loc) (ls : Array Slot), (0 ≤ y5.toInt ∧ y5.toInt ≤ 3) → (x6.toInt + (-1) * y5.toInt + 1).toNat < n → TP D A [(h0, aJ (k 1) 36 anJ), (h1, aJ (k 1) 9 anJ)] H → va_S A s.heap H locs → lv_has ls 10 [(0, .ref h0), (1, .int x1), (2, .int x2), (3, .ref h1), (4, .int x4), (5, .int x5), (6, .int x6), (7, .long y6), (9, .int y5)] → W p l e Rm_cX7_addUp_b264d s m args below meth c H locs 0 0 Q (F0 m 6 ls []) := by
    intro n
    induction n with
    | zero => intro y5 y6 H locs ls b_y5 hm hT hS hl; exact absurd hm (Nat.not_lt_zero _)
    | succ n ih =>
      intro y5 y6 H locs ls b_y5 hm hT hS hl
      have ih6_7 := ih
      clear ih
      refine lv_iload hx hb dX7_addUp_6 (lv_at hl 8 rfl) ?_
      refine lv_iload hx hb dX7_addUp_8 (lv_at hl 6 rfl) ?_
      refine lv_icmp_ge (tgt := 43) hx hb dX7_addUp_10 (by decide) (fun c_8 => ?_) (fun c_8 => ?_)
      · skip
        have c_8 := ni_le c_8 rfl rfl
        refine lv_lload hx hb dX7_addUp_43 (lv_at hl 7 rfl) ?_
        exact tz_retL (B := B_cX7_addUp_b264d D k h0 h1 x1 x2 x4 x5 x6) (v := y6) hQ hx hb hr hlocks hS (Nat.le_of_ble_eq_true rfl) (Nat.le_of_ble_eq_true rfl) dX7_addUp_45 (hT)
      · skip
        have c_8 := ni_nle c_8 rfl rfl
        refine lv_lload hx hb dX7_addUp_13 (lv_at hl 7 rfl) ?_
        refine lv_aload_n hx hb dX7_addUp_15 rfl (lv_at hl 0 rfl) ?_
        refine lv_iload_n hx hb dX7_addUp_16 rfl (lv_at hl 1 rfl) ?_
        refine lv_iload hx hb dX7_addUp_17 (lv_at hl 8 rfl) ?_
        refine lv_iload_n hx hb dX7_addUp_19 rfl (lv_at hl 2 rfl) ?_
        refine lv_imul hx hb dX7_addUp_20 (lv_topi (fun v9 e_v9 => ?_))
        have e_v9 := ai_mm (la := 0) (ua := 2) (lb := 1) (ub := 3) e_v9 rfl rfl (by omega) (by decide)
        refine lv_iadd hx hb dX7_addUp_21 (lv_topi (fun v10 e_v10 => ?_))
        have e_v10 := ai_add e_v10 rfl rfl (by omega)
        refine tz_lald hx hb hK hT 0 rfl (by omega) dX7_addUp_22 (fun v11 e_v11 => ?_)
        clear e_v11
        refine lv_aload_n hx hb dX7_addUp_23 rfl (lv_at hl 3 rfl) ?_
        refine lv_iload hx hb dX7_addUp_24 (lv_at hl 4 rfl) ?_
        refine lv_iload hx hb dX7_addUp_26 (lv_at hl 8 rfl) ?_
        refine lv_iload hx hb dX7_addUp_28 (lv_at hl 5 rfl) ?_
        refine lv_imul hx hb dX7_addUp_30 (lv_topi (fun v12 e_v12 => ?_))
        have e_v12 := ai_mm (la := 0) (ua := 2) (lb := 1) (ub := 3) e_v12 rfl rfl (by omega) (by decide)
        refine lv_iadd hx hb dX7_addUp_31 (lv_topi (fun v13 e_v13 => ?_))
        have e_v13 := ai_add e_v13 rfl rfl (by omega)
        refine tz_lald hx hb hK hT 1 rfl (by omega) dX7_addUp_32 (fun v14 e_v14 => ?_)
        clear e_v14
        refine lv_lmul hx hb dX7_addUp_33 (lv_topl (fun v15 e_v15 => ?_))
        refine lv_ladd hx hb dX7_addUp_34 (lv_topl (fun v16 e_v16 => ?_))
        refine lv_lstore (lv' := [(7, .long v16), (0, .ref h0), (1, .int x1), (2, .int x2), (3, .ref h1), (4, .int x4), (5, .int x5), (6, .int x6), (9, .int y5)]) hx hb dX7_addUp_35 hl (by decide) rfl (fun ls hl => ?_)
        obtain ⟨v17, e_v17⟩ : ∃ x : Int32, x = y5 + Int32.ofInt 1 := ⟨_, rfl⟩
        have f_v17 := e_v17.symm
        have e_v17 : v17.toInt = y5.toInt + 1 := ai_add e_v17 rfl (show (Int32.ofInt 1).toInt = 1 from (by decide +kernel)) (by omega)
        refine lv_iinc (v := v17) (lv' := [(9, .int v17), (7, .long v16), (0, .ref h0), (1, .int x1), (2, .int x2), (3, .ref h1), (4, .int x4), (5, .int x5), (6, .int x6)]) hx hb dX7_addUp_37 hl (k := 8) rfl f_v17 (by decide) rfl (fun ls hl => ?_)
        refine lv_goto (tgt := 6) hx hb dX7_addUp_40 (by decide) ?_
        exact ih6_7 v17 v16 _ _ _ (by omega)  (by omega) hT hS (lv_sub hl [2, 3, 4, 5, 6, 7, 8, 1, 0] rfl)
  exact lp6_7 ((x6.toInt + (-1) * (0 : Int32).toInt + 1).toNat + 1) (0) (0) _ _ _ (by have := li_0; have := ll_0; omega)  (Nat.lt_succ_self _) hT hS (lv_sub hl [2, 3, 4, 5, 6, 7, 8, 1, 0] rfl)
