abbrev BX11_isPrime_1 (D : va_G) (k : Nat → ClassId) (x0 : Int32) (A : Nat → Prop) (r : Int32) (H : Heap) : Prop := (x0 = 2 ∧ 1 = r ∧ va_P D cl0 [] H ∧ va_D A []) ∨ (x0 = 3 ∧ 1 = r ∧ va_P D cl0 [] H ∧ va_D A []) ∨ (x0 = 5 ∧ 1 = r ∧ va_P D cl0 [] H ∧ va_D A []) ∨ (¬ (x0 = 2) ∧ ¬ (x0 = 3) ∧ ¬ (x0 = 5) ∧ ¬ (x0 = 7) ∧ 0 = r ∧ va_P D cl0 [] H ∧ va_D A []) ∨ (x0 = 7 ∧ 1 = r ∧ va_P D cl0 [] H ∧ va_D A [])
set_option maxHeartbeats 4000000 in
set_option maxRecDepth 100000 in
theorem cX11_isPrime_1 (l : Launch) (D : va_G) (k : Nat → ClassId) (sz : Nat) (x0 : Int32) : Met l yX11_isPrime (Cond.code yX11_isPrime cX11_isPrime 1 (some .boolean) :: uw) ({ frames := 0, cells := 0, slots := 0, locals := 0 }) (pC D k sz [.int x0] []) (qI (BX11_isPrime_1 D k x0 (va_A [] sz)) (va_A [] sz)) 0 0 (va_A [] sz) := by
  refine begin_ (Qc := fun A => qI (BX11_isPrime_1 D k x0 A) A) (by decide) (Nat.le_of_ble_eq_true rfl) ?_
  intro p e s m below meth c ls A hx hb hr hml hown hlocks hin hU hK hsz hP hD hS hA hl
  have hl : lv_has ls 1 [(0, .int x0)] := hl
  clear hsz
  refine lv_iload_n hx hb dX11_isPrime_0 rfl (lv_at hl 0 rfl) ?_
  refine lv_iconst (v := 2) hx hb dX11_isPrime_1 (by decide) ?_
  refine lv_icmp_eq (tgt := 21) hx hb dX11_isPrime_2 (by decide) (fun c_1 => ?_) (fun c_1 => ?_)
  · skip
    subst c_1
    refine lv_iconst (v := 1) hx hb dX11_isPrime_21 (by decide) ?_
    refine lv_goto (tgt := 26) hx hb dX11_isPrime_22 (by decide) ?_
    exact retZ (v := 1) hx hb hr hlocks hS (Or.inl ⟨rfl, rfl, hP, hD⟩) dX11_isPrime_26 (by decide +kernel)
  · skip
    refine lv_iload_n hx hb dX11_isPrime_5 rfl (lv_at hl 0 rfl) ?_
    refine lv_iconst (v := 3) hx hb dX11_isPrime_6 (by decide) ?_
    refine lv_icmp_eq (tgt := 21) hx hb dX11_isPrime_7 (by decide) (fun c_2 => ?_) (fun c_2 => ?_)
    · skip
      subst c_2
      refine lv_iconst (v := 1) hx hb dX11_isPrime_21 (by decide) ?_
      refine lv_goto (tgt := 26) hx hb dX11_isPrime_22 (by decide) ?_
      exact retZ (v := 1) hx hb hr hlocks hS (Or.inr (Or.inl ⟨rfl, rfl, hP, hD⟩)) dX11_isPrime_26 (by decide +kernel)
    · skip
      refine lv_iload_n hx hb dX11_isPrime_10 rfl (lv_at hl 0 rfl) ?_
      refine lv_iconst (v := 5) hx hb dX11_isPrime_11 (by decide) ?_
      refine lv_icmp_eq (tgt := 21) hx hb dX11_isPrime_12 (by decide) (fun c_3 => ?_) (fun c_3 => ?_)
      · skip
        subst c_3
        refine lv_iconst (v := 1) hx hb dX11_isPrime_21 (by decide) ?_
        refine lv_goto (tgt := 26) hx hb dX11_isPrime_22 (by decide) ?_
        exact retZ (v := 1) hx hb hr hlocks hS (Or.inr (Or.inr (Or.inl ⟨rfl, rfl, hP, hD⟩))) dX11_isPrime_26 (by decide +kernel)
      · skip
        refine lv_iload_n hx hb dX11_isPrime_15 rfl (lv_at hl 0 rfl) ?_
        refine lv_bipush (v := 7) hx hb dX11_isPrime_16 (by decide) ?_
        refine lv_icmp_ne (tgt := 25) hx hb dX11_isPrime_18 (by decide) (fun c_4 => ?_) (fun c_4 => ?_)
        · skip
          refine lv_iconst (v := 0) hx hb dX11_isPrime_25 (by decide) ?_
          exact retZ (v := 0) hx hb hr hlocks hS (Or.inr (Or.inr (Or.inr (Or.inl ⟨c_1, c_2, c_3, c_4, rfl, hP, hD⟩)))) dX11_isPrime_26 (by decide +kernel)
        · skip
          subst c_4
          refine lv_iconst (v := 1) hx hb dX11_isPrime_21 (by decide) ?_
          refine lv_goto (tgt := 26) hx hb dX11_isPrime_22 (by decide) ?_
          exact retZ (v := 1) hx hb hr hlocks hS (Or.inr (Or.inr (Or.inr (Or.inr (⟨rfl, rfl, hP, hD⟩))))) dX11_isPrime_26 (by decide +kernel)
abbrev BX11_told_1 (D : va_G) (k : Nat → ClassId) (h0 h1 : Nat) (A : Nat → Prop) (r : Int32) (H : Heap) : Prop := 272 = r ∧ va_P D cl0 [(h0, .inl (k 1, 9, .inr (.inl (tL [1, 0, 0, 0, 1, 0, 0, 0, 0] 0))))] H ∧ va_D A [(h0, .inl (k 1, 9, .inr (.inl (tL [1, 0, 0, 0, 1, 0, 0, 0, 0] 0))))]
set_option maxHeartbeats 4000000 in
set_option maxRecDepth 100000 in
theorem cX11_told_1 (l : Launch) (D : va_G) (k : Nat → ClassId) (sz : Nat) (h0 h1 : Nat) : Met l yX11_told (Cond.code yX11_told cX11_told 6 (some .int) :: uw) ({ frames := 0, cells := 0, slots := 0, locals := 0 }) (pC D k sz [.ref h1, .ref h0, .int 2] [(h0, .inl (k 1, 9, .inr (.inl (tL [1, 0, 0, 0, 1, 0, 0, 0, 0] 0))))]) (qI (BX11_told_1 D k h0 h1 (va_A [(h0, .inl (k 1, 9, .inr (.inl (tL [1, 0, 0, 0, 1, 0, 0, 0, 0] 0))))] sz)) (va_A [(h0, .inl (k 1, 9, .inr (.inl (tL [1, 0, 0, 0, 1, 0, 0, 0, 0] 0))))] sz)) 0 0 (va_A [(h0, .inl (k 1, 9, .inr (.inl (tL [1, 0, 0, 0, 1, 0, 0, 0, 0] 0))))] sz) := by
  refine begin_ (Qc := fun A => qI (BX11_told_1 D k h0 h1 A) A) (by decide) (Nat.le_of_ble_eq_true rfl) ?_
  intro p e s m below meth c ls A hx hb hr hml hown hlocks hin hU hK hsz hP hD hS hA hl
  have hl : lv_has ls 6 [(0, .ref h1), (1, .ref h0), (2, .int 2)] := hl
  clear hsz
  refine lv_iconst (v := 0) hx hb dX11_told_0 (by decide) ?_
  refine lv_istore_n (lv' := [(3, .int 0), (0, .ref h1), (1, .ref h0), (2, .int 2)]) hx hb dX11_told_1 rfl hl (by decide) rfl (fun ls hl => ?_)
  refine lv_iconst (v := 0) hx hb dX11_told_2 (by decide) ?_
  refine lv_istore (lv' := [(4, .int 0), (3, .int 0), (0, .ref h1), (1, .ref h0), (2, .int 2)]) hx hb dX11_told_3 hl (by decide) rfl (fun ls hl => ?_)
  refine lv_iload hx hb dX11_told_5 (lv_at hl 0 rfl) ?_
  refine lv_bipush (v := 9) hx hb dX11_told_7 (by decide) ?_
  refine lv_icmp_ge (tgt := 47) hx hb dX11_told_9 (by decide) (fun cc => absurd cc (by decide +kernel)) (fun _ => ?_)
  refine lv_aload_n hx hb dX11_told_12 rfl (lv_at hl 3 rfl) ?_
  refine lv_iload hx hb dX11_told_13 (lv_at hl 0 rfl) ?_
  refine ld_l (j := 0) (v := 1) hx hb hK hP 0 rfl (by decide +kernel) rfl dX11_told_15 ?_
  refine lv_iload_n hx hb dX11_told_16 rfl (lv_at hl 4 rfl) ?_
  refine lv_i2l (v := 2) hx hb dX11_told_17 (by decide +kernel) ?_
  refine lv_lrem hx hb dX11_told_18 (by decide +kernel) (sv_l (v := 1) (by decide +kernel) ?_)
  refine lv_l2i (v := 1) hx hb dX11_told_19 (by decide +kernel) ?_
  refine lv_istore (lv' := [(5, .int 1), (4, .int 0), (3, .int 0), (0, .ref h1), (1, .ref h0), (2, .int 2)]) hx hb dX11_told_20 hl (by decide) rfl (fun ls hl => ?_)
  refine lv_iload_n hx hb dX11_told_22 rfl (lv_at hl 5 rfl) ?_
  refine lv_iload_n hx hb dX11_told_23 rfl (lv_at hl 2 rfl) ?_
  refine lv_imul hx hb dX11_told_24 (sv_i (v := 0) (by decide +kernel) ?_)
  refine lv_iload hx hb dX11_told_25 (lv_at hl 0 rfl) ?_
  refine lv_if_ge (tgt := 37) hx hb dX11_told_27 (by decide) (fun _ => ?_) (fun cc => absurd (by decide +kernel) cc)
  refine lv_iload hx hb dX11_told_37 (lv_at hl 0 rfl) ?_
  refine lv_iadd hx hb dX11_told_39 (sv_i (v := 1) (by decide +kernel) ?_)
  refine lv_istore_n (lv' := [(3, .int 1), (5, .int 1), (4, .int 0), (0, .ref h1), (1, .ref h0), (2, .int 2)]) hx hb dX11_told_40 rfl hl (by decide) rfl (fun ls hl => ?_)
  refine lv_iinc (v := 1) (lv' := [(4, .int 1), (3, .int 1), (5, .int 1), (0, .ref h1), (1, .ref h0), (2, .int 2)]) hx hb dX11_told_41 hl (k := 2) rfl (by decide) (by decide) rfl (fun ls hl => ?_)
  refine lv_goto (tgt := 5) hx hb dX11_told_44 (by decide) ?_
  refine lv_iload hx hb dX11_told_5 (lv_at hl 0 rfl) ?_
  refine lv_bipush (v := 9) hx hb dX11_told_7 (by decide) ?_
  refine lv_icmp_ge (tgt := 47) hx hb dX11_told_9 (by decide) (fun cc => absurd cc (by decide +kernel)) (fun _ => ?_)
  refine lv_aload_n hx hb dX11_told_12 rfl (lv_at hl 4 rfl) ?_
  refine lv_iload hx hb dX11_told_13 (lv_at hl 0 rfl) ?_
  refine ld_l (j := 1) (v := 0) hx hb hK hP 0 rfl (by decide +kernel) rfl dX11_told_15 ?_
  refine lv_iload_n hx hb dX11_told_16 rfl (lv_at hl 5 rfl) ?_
  refine lv_i2l (v := 2) hx hb dX11_told_17 (by decide +kernel) ?_
  refine lv_lrem hx hb dX11_told_18 (by decide +kernel) (sv_l (v := 0) (by decide +kernel) ?_)
  refine lv_l2i (v := 0) hx hb dX11_told_19 (by decide +kernel) ?_
  refine lv_istore (lv' := [(5, .int 0), (4, .int 1), (3, .int 1), (0, .ref h1), (1, .ref h0), (2, .int 2)]) hx hb dX11_told_20 hl (by decide) rfl (fun ls hl => ?_)
  refine lv_iload_n hx hb dX11_told_22 rfl (lv_at hl 5 rfl) ?_
  refine lv_iload_n hx hb dX11_told_23 rfl (lv_at hl 2 rfl) ?_
  refine lv_imul hx hb dX11_told_24 (sv_i (v := 2) (by decide +kernel) ?_)
  refine lv_iload hx hb dX11_told_25 (lv_at hl 0 rfl) ?_
  refine lv_if_ge (tgt := 37) hx hb dX11_told_27 (by decide) (fun _ => ?_) (fun cc => absurd (by decide +kernel) cc)
  refine lv_iload hx hb dX11_told_37 (lv_at hl 0 rfl) ?_
  refine lv_iadd hx hb dX11_told_39 (sv_i (v := 2) (by decide +kernel) ?_)
  refine lv_istore_n (lv' := [(3, .int 2), (5, .int 0), (4, .int 1), (0, .ref h1), (1, .ref h0), (2, .int 2)]) hx hb dX11_told_40 rfl hl (by decide) rfl (fun ls hl => ?_)
  refine lv_iinc (v := 2) (lv' := [(4, .int 2), (3, .int 2), (5, .int 0), (0, .ref h1), (1, .ref h0), (2, .int 2)]) hx hb dX11_told_41 hl (k := 2) rfl (by decide) (by decide) rfl (fun ls hl => ?_)
  refine lv_goto (tgt := 5) hx hb dX11_told_44 (by decide) ?_
  refine lv_iload hx hb dX11_told_5 (lv_at hl 0 rfl) ?_
  refine lv_bipush (v := 9) hx hb dX11_told_7 (by decide) ?_
  refine lv_icmp_ge (tgt := 47) hx hb dX11_told_9 (by decide) (fun cc => absurd cc (by decide +kernel)) (fun _ => ?_)
  refine lv_aload_n hx hb dX11_told_12 rfl (lv_at hl 4 rfl) ?_
  refine lv_iload hx hb dX11_told_13 (lv_at hl 0 rfl) ?_
  refine ld_l (j := 2) (v := 0) hx hb hK hP 0 rfl (by decide +kernel) rfl dX11_told_15 ?_
  refine lv_iload_n hx hb dX11_told_16 rfl (lv_at hl 5 rfl) ?_
  refine lv_i2l (v := 2) hx hb dX11_told_17 (by decide +kernel) ?_
  refine lv_lrem hx hb dX11_told_18 (by decide +kernel) (sv_l (v := 0) (by decide +kernel) ?_)
  refine lv_l2i (v := 0) hx hb dX11_told_19 (by decide +kernel) ?_
  refine lv_istore (lv' := [(5, .int 0), (4, .int 2), (3, .int 2), (0, .ref h1), (1, .ref h0), (2, .int 2)]) hx hb dX11_told_20 hl (by decide) rfl (fun ls hl => ?_)
  refine lv_iload_n hx hb dX11_told_22 rfl (lv_at hl 5 rfl) ?_
  refine lv_iload_n hx hb dX11_told_23 rfl (lv_at hl 2 rfl) ?_
  refine lv_imul hx hb dX11_told_24 (sv_i (v := 4) (by decide +kernel) ?_)
  refine lv_iload hx hb dX11_told_25 (lv_at hl 0 rfl) ?_
  refine lv_if_ge (tgt := 37) hx hb dX11_told_27 (by decide) (fun _ => ?_) (fun cc => absurd (by decide +kernel) cc)
  refine lv_iload hx hb dX11_told_37 (lv_at hl 0 rfl) ?_
  refine lv_iadd hx hb dX11_told_39 (sv_i (v := 4) (by decide +kernel) ?_)
  refine lv_istore_n (lv' := [(3, .int 4), (5, .int 0), (4, .int 2), (0, .ref h1), (1, .ref h0), (2, .int 2)]) hx hb dX11_told_40 rfl hl (by decide) rfl (fun ls hl => ?_)
  refine lv_iinc (v := 3) (lv' := [(4, .int 3), (3, .int 4), (5, .int 0), (0, .ref h1), (1, .ref h0), (2, .int 2)]) hx hb dX11_told_41 hl (k := 2) rfl (by decide) (by decide) rfl (fun ls hl => ?_)
  refine lv_goto (tgt := 5) hx hb dX11_told_44 (by decide) ?_
  refine lv_iload hx hb dX11_told_5 (lv_at hl 0 rfl) ?_
  refine lv_bipush (v := 9) hx hb dX11_told_7 (by decide) ?_
  refine lv_icmp_ge (tgt := 47) hx hb dX11_told_9 (by decide) (fun cc => absurd cc (by decide +kernel)) (fun _ => ?_)
  refine lv_aload_n hx hb dX11_told_12 rfl (lv_at hl 4 rfl) ?_
  refine lv_iload hx hb dX11_told_13 (lv_at hl 0 rfl) ?_
  refine ld_l (j := 3) (v := 0) hx hb hK hP 0 rfl (by decide +kernel) rfl dX11_told_15 ?_
  refine lv_iload_n hx hb dX11_told_16 rfl (lv_at hl 5 rfl) ?_
  refine lv_i2l (v := 2) hx hb dX11_told_17 (by decide +kernel) ?_
  refine lv_lrem hx hb dX11_told_18 (by decide +kernel) (sv_l (v := 0) (by decide +kernel) ?_)
  refine lv_l2i (v := 0) hx hb dX11_told_19 (by decide +kernel) ?_
  refine lv_istore (lv' := [(5, .int 0), (4, .int 3), (3, .int 4), (0, .ref h1), (1, .ref h0), (2, .int 2)]) hx hb dX11_told_20 hl (by decide) rfl (fun ls hl => ?_)
  refine lv_iload_n hx hb dX11_told_22 rfl (lv_at hl 5 rfl) ?_
  refine lv_iload_n hx hb dX11_told_23 rfl (lv_at hl 2 rfl) ?_
  refine lv_imul hx hb dX11_told_24 (sv_i (v := 8) (by decide +kernel) ?_)
  refine lv_iload hx hb dX11_told_25 (lv_at hl 0 rfl) ?_
  refine lv_if_ge (tgt := 37) hx hb dX11_told_27 (by decide) (fun _ => ?_) (fun cc => absurd (by decide +kernel) cc)
  refine lv_iload hx hb dX11_told_37 (lv_at hl 0 rfl) ?_
  refine lv_iadd hx hb dX11_told_39 (sv_i (v := 8) (by decide +kernel) ?_)
  refine lv_istore_n (lv' := [(3, .int 8), (5, .int 0), (4, .int 3), (0, .ref h1), (1, .ref h0), (2, .int 2)]) hx hb dX11_told_40 rfl hl (by decide) rfl (fun ls hl => ?_)
  refine lv_iinc (v := 4) (lv' := [(4, .int 4), (3, .int 8), (5, .int 0), (0, .ref h1), (1, .ref h0), (2, .int 2)]) hx hb dX11_told_41 hl (k := 2) rfl (by decide) (by decide) rfl (fun ls hl => ?_)
  refine lv_goto (tgt := 5) hx hb dX11_told_44 (by decide) ?_
  refine lv_iload hx hb dX11_told_5 (lv_at hl 0 rfl) ?_
  refine lv_bipush (v := 9) hx hb dX11_told_7 (by decide) ?_
  refine lv_icmp_ge (tgt := 47) hx hb dX11_told_9 (by decide) (fun cc => absurd cc (by decide +kernel)) (fun _ => ?_)
  refine lv_aload_n hx hb dX11_told_12 rfl (lv_at hl 4 rfl) ?_
  refine lv_iload hx hb dX11_told_13 (lv_at hl 0 rfl) ?_
  refine ld_l (j := 4) (v := 1) hx hb hK hP 0 rfl (by decide +kernel) rfl dX11_told_15 ?_
  refine lv_iload_n hx hb dX11_told_16 rfl (lv_at hl 5 rfl) ?_
  refine lv_i2l (v := 2) hx hb dX11_told_17 (by decide +kernel) ?_
  refine lv_lrem hx hb dX11_told_18 (by decide +kernel) (sv_l (v := 1) (by decide +kernel) ?_)
  refine lv_l2i (v := 1) hx hb dX11_told_19 (by decide +kernel) ?_
  refine lv_istore (lv' := [(5, .int 1), (4, .int 4), (3, .int 8), (0, .ref h1), (1, .ref h0), (2, .int 2)]) hx hb dX11_told_20 hl (by decide) rfl (fun ls hl => ?_)
  refine lv_iload_n hx hb dX11_told_22 rfl (lv_at hl 5 rfl) ?_
  refine lv_iload_n hx hb dX11_told_23 rfl (lv_at hl 2 rfl) ?_
  refine lv_imul hx hb dX11_told_24 (sv_i (v := 16) (by decide +kernel) ?_)
  refine lv_iload hx hb dX11_told_25 (lv_at hl 0 rfl) ?_
  refine lv_if_ge (tgt := 37) hx hb dX11_told_27 (by decide) (fun _ => ?_) (fun cc => absurd (by decide +kernel) cc)
  refine lv_iload hx hb dX11_told_37 (lv_at hl 0 rfl) ?_
  refine lv_iadd hx hb dX11_told_39 (sv_i (v := 17) (by decide +kernel) ?_)
  refine lv_istore_n (lv' := [(3, .int 17), (5, .int 1), (4, .int 4), (0, .ref h1), (1, .ref h0), (2, .int 2)]) hx hb dX11_told_40 rfl hl (by decide) rfl (fun ls hl => ?_)
  refine lv_iinc (v := 5) (lv' := [(4, .int 5), (3, .int 17), (5, .int 1), (0, .ref h1), (1, .ref h0), (2, .int 2)]) hx hb dX11_told_41 hl (k := 2) rfl (by decide) (by decide) rfl (fun ls hl => ?_)
  refine lv_goto (tgt := 5) hx hb dX11_told_44 (by decide) ?_
  refine lv_iload hx hb dX11_told_5 (lv_at hl 0 rfl) ?_
  refine lv_bipush (v := 9) hx hb dX11_told_7 (by decide) ?_
  refine lv_icmp_ge (tgt := 47) hx hb dX11_told_9 (by decide) (fun cc => absurd cc (by decide +kernel)) (fun _ => ?_)
  refine lv_aload_n hx hb dX11_told_12 rfl (lv_at hl 4 rfl) ?_
  refine lv_iload hx hb dX11_told_13 (lv_at hl 0 rfl) ?_
  refine ld_l (j := 5) (v := 0) hx hb hK hP 0 rfl (by decide +kernel) rfl dX11_told_15 ?_
  refine lv_iload_n hx hb dX11_told_16 rfl (lv_at hl 5 rfl) ?_
  refine lv_i2l (v := 2) hx hb dX11_told_17 (by decide +kernel) ?_
  refine lv_lrem hx hb dX11_told_18 (by decide +kernel) (sv_l (v := 0) (by decide +kernel) ?_)
  refine lv_l2i (v := 0) hx hb dX11_told_19 (by decide +kernel) ?_
  refine lv_istore (lv' := [(5, .int 0), (4, .int 5), (3, .int 17), (0, .ref h1), (1, .ref h0), (2, .int 2)]) hx hb dX11_told_20 hl (by decide) rfl (fun ls hl => ?_)
  refine lv_iload_n hx hb dX11_told_22 rfl (lv_at hl 5 rfl) ?_
  refine lv_iload_n hx hb dX11_told_23 rfl (lv_at hl 2 rfl) ?_
  refine lv_imul hx hb dX11_told_24 (sv_i (v := 34) (by decide +kernel) ?_)
  refine lv_iload hx hb dX11_told_25 (lv_at hl 0 rfl) ?_
  refine lv_if_ge (tgt := 37) hx hb dX11_told_27 (by decide) (fun _ => ?_) (fun cc => absurd (by decide +kernel) cc)
  refine lv_iload hx hb dX11_told_37 (lv_at hl 0 rfl) ?_
  refine lv_iadd hx hb dX11_told_39 (sv_i (v := 34) (by decide +kernel) ?_)
  refine lv_istore_n (lv' := [(3, .int 34), (5, .int 0), (4, .int 5), (0, .ref h1), (1, .ref h0), (2, .int 2)]) hx hb dX11_told_40 rfl hl (by decide) rfl (fun ls hl => ?_)
  refine lv_iinc (v := 6) (lv' := [(4, .int 6), (3, .int 34), (5, .int 0), (0, .ref h1), (1, .ref h0), (2, .int 2)]) hx hb dX11_told_41 hl (k := 2) rfl (by decide) (by decide) rfl (fun ls hl => ?_)
  refine lv_goto (tgt := 5) hx hb dX11_told_44 (by decide) ?_
  refine lv_iload hx hb dX11_told_5 (lv_at hl 0 rfl) ?_
  refine lv_bipush (v := 9) hx hb dX11_told_7 (by decide) ?_
  refine lv_icmp_ge (tgt := 47) hx hb dX11_told_9 (by decide) (fun cc => absurd cc (by decide +kernel)) (fun _ => ?_)
  refine lv_aload_n hx hb dX11_told_12 rfl (lv_at hl 4 rfl) ?_
  refine lv_iload hx hb dX11_told_13 (lv_at hl 0 rfl) ?_
  refine ld_l (j := 6) (v := 0) hx hb hK hP 0 rfl (by decide +kernel) rfl dX11_told_15 ?_
  refine lv_iload_n hx hb dX11_told_16 rfl (lv_at hl 5 rfl) ?_
  refine lv_i2l (v := 2) hx hb dX11_told_17 (by decide +kernel) ?_
  refine lv_lrem hx hb dX11_told_18 (by decide +kernel) (sv_l (v := 0) (by decide +kernel) ?_)
  refine lv_l2i (v := 0) hx hb dX11_told_19 (by decide +kernel) ?_
  refine lv_istore (lv' := [(5, .int 0), (4, .int 6), (3, .int 34), (0, .ref h1), (1, .ref h0), (2, .int 2)]) hx hb dX11_told_20 hl (by decide) rfl (fun ls hl => ?_)
  refine lv_iload_n hx hb dX11_told_22 rfl (lv_at hl 5 rfl) ?_
  refine lv_iload_n hx hb dX11_told_23 rfl (lv_at hl 2 rfl) ?_
  refine lv_imul hx hb dX11_told_24 (sv_i (v := 68) (by decide +kernel) ?_)
  refine lv_iload hx hb dX11_told_25 (lv_at hl 0 rfl) ?_
  refine lv_if_ge (tgt := 37) hx hb dX11_told_27 (by decide) (fun _ => ?_) (fun cc => absurd (by decide +kernel) cc)
  refine lv_iload hx hb dX11_told_37 (lv_at hl 0 rfl) ?_
  refine lv_iadd hx hb dX11_told_39 (sv_i (v := 68) (by decide +kernel) ?_)
  refine lv_istore_n (lv' := [(3, .int 68), (5, .int 0), (4, .int 6), (0, .ref h1), (1, .ref h0), (2, .int 2)]) hx hb dX11_told_40 rfl hl (by decide) rfl (fun ls hl => ?_)
  refine lv_iinc (v := 7) (lv' := [(4, .int 7), (3, .int 68), (5, .int 0), (0, .ref h1), (1, .ref h0), (2, .int 2)]) hx hb dX11_told_41 hl (k := 2) rfl (by decide) (by decide) rfl (fun ls hl => ?_)
  refine lv_goto (tgt := 5) hx hb dX11_told_44 (by decide) ?_
  refine lv_iload hx hb dX11_told_5 (lv_at hl 0 rfl) ?_
  refine lv_bipush (v := 9) hx hb dX11_told_7 (by decide) ?_
  refine lv_icmp_ge (tgt := 47) hx hb dX11_told_9 (by decide) (fun cc => absurd cc (by decide +kernel)) (fun _ => ?_)
  refine lv_aload_n hx hb dX11_told_12 rfl (lv_at hl 4 rfl) ?_
  refine lv_iload hx hb dX11_told_13 (lv_at hl 0 rfl) ?_
  refine ld_l (j := 7) (v := 0) hx hb hK hP 0 rfl (by decide +kernel) rfl dX11_told_15 ?_
  refine lv_iload_n hx hb dX11_told_16 rfl (lv_at hl 5 rfl) ?_
  refine lv_i2l (v := 2) hx hb dX11_told_17 (by decide +kernel) ?_
  refine lv_lrem hx hb dX11_told_18 (by decide +kernel) (sv_l (v := 0) (by decide +kernel) ?_)
  refine lv_l2i (v := 0) hx hb dX11_told_19 (by decide +kernel) ?_
  refine lv_istore (lv' := [(5, .int 0), (4, .int 7), (3, .int 68), (0, .ref h1), (1, .ref h0), (2, .int 2)]) hx hb dX11_told_20 hl (by decide) rfl (fun ls hl => ?_)
  refine lv_iload_n hx hb dX11_told_22 rfl (lv_at hl 5 rfl) ?_
  refine lv_iload_n hx hb dX11_told_23 rfl (lv_at hl 2 rfl) ?_
  refine lv_imul hx hb dX11_told_24 (sv_i (v := 136) (by decide +kernel) ?_)
  refine lv_iload hx hb dX11_told_25 (lv_at hl 0 rfl) ?_
  refine lv_if_ge (tgt := 37) hx hb dX11_told_27 (by decide) (fun _ => ?_) (fun cc => absurd (by decide +kernel) cc)
  refine lv_iload hx hb dX11_told_37 (lv_at hl 0 rfl) ?_
  refine lv_iadd hx hb dX11_told_39 (sv_i (v := 136) (by decide +kernel) ?_)
  refine lv_istore_n (lv' := [(3, .int 136), (5, .int 0), (4, .int 7), (0, .ref h1), (1, .ref h0), (2, .int 2)]) hx hb dX11_told_40 rfl hl (by decide) rfl (fun ls hl => ?_)
  refine lv_iinc (v := 8) (lv' := [(4, .int 8), (3, .int 136), (5, .int 0), (0, .ref h1), (1, .ref h0), (2, .int 2)]) hx hb dX11_told_41 hl (k := 2) rfl (by decide) (by decide) rfl (fun ls hl => ?_)
  refine lv_goto (tgt := 5) hx hb dX11_told_44 (by decide) ?_
  refine lv_iload hx hb dX11_told_5 (lv_at hl 0 rfl) ?_
  refine lv_bipush (v := 9) hx hb dX11_told_7 (by decide) ?_
  refine lv_icmp_ge (tgt := 47) hx hb dX11_told_9 (by decide) (fun cc => absurd cc (by decide +kernel)) (fun _ => ?_)
  refine lv_aload_n hx hb dX11_told_12 rfl (lv_at hl 4 rfl) ?_
  refine lv_iload hx hb dX11_told_13 (lv_at hl 0 rfl) ?_
  refine ld_l (j := 8) (v := 0) hx hb hK hP 0 rfl (by decide +kernel) rfl dX11_told_15 ?_
  refine lv_iload_n hx hb dX11_told_16 rfl (lv_at hl 5 rfl) ?_
  refine lv_i2l (v := 2) hx hb dX11_told_17 (by decide +kernel) ?_
  refine lv_lrem hx hb dX11_told_18 (by decide +kernel) (sv_l (v := 0) (by decide +kernel) ?_)
  refine lv_l2i (v := 0) hx hb dX11_told_19 (by decide +kernel) ?_
  refine lv_istore (lv' := [(5, .int 0), (4, .int 8), (3, .int 136), (0, .ref h1), (1, .ref h0), (2, .int 2)]) hx hb dX11_told_20 hl (by decide) rfl (fun ls hl => ?_)
  refine lv_iload_n hx hb dX11_told_22 rfl (lv_at hl 5 rfl) ?_
  refine lv_iload_n hx hb dX11_told_23 rfl (lv_at hl 2 rfl) ?_
  refine lv_imul hx hb dX11_told_24 (sv_i (v := 272) (by decide +kernel) ?_)
  refine lv_iload hx hb dX11_told_25 (lv_at hl 0 rfl) ?_
  refine lv_if_ge (tgt := 37) hx hb dX11_told_27 (by decide) (fun _ => ?_) (fun cc => absurd (by decide +kernel) cc)
  refine lv_iload hx hb dX11_told_37 (lv_at hl 0 rfl) ?_
  refine lv_iadd hx hb dX11_told_39 (sv_i (v := 272) (by decide +kernel) ?_)
  refine lv_istore_n (lv' := [(3, .int 272), (5, .int 0), (4, .int 8), (0, .ref h1), (1, .ref h0), (2, .int 2)]) hx hb dX11_told_40 rfl hl (by decide) rfl (fun ls hl => ?_)
  refine lv_iinc (v := 9) (lv' := [(4, .int 9), (3, .int 272), (5, .int 0), (0, .ref h1), (1, .ref h0), (2, .int 2)]) hx hb dX11_told_41 hl (k := 2) rfl (by decide) (by decide) rfl (fun ls hl => ?_)
  refine lv_goto (tgt := 5) hx hb dX11_told_44 (by decide) ?_
  refine lv_iload hx hb dX11_told_5 (lv_at hl 0 rfl) ?_
  refine lv_bipush (v := 9) hx hb dX11_told_7 (by decide) ?_
  refine lv_icmp_ge (tgt := 47) hx hb dX11_told_9 (by decide) (fun _ => ?_) (fun cc => absurd (by decide +kernel) cc)
  refine lv_iload_n hx hb dX11_told_47 rfl (lv_at hl 1 rfl) ?_
  exact retI (v := 272) hx hb hr hlocks hS (⟨rfl, hP, hD⟩) dX11_told_48
abbrev BX11_told_2 (D : va_G) (k : Nat → ClassId) (h0 h1 : Nat) (A : Nat → Prop) (r : Int32) (H : Heap) : Prop := 6642 = r ∧ va_P D cl0 [(h0, .inl (k 1, 9, .inr (.inl (tL [1, 0, 0, 0, 1, 0, 0, 0, 0] 0))))] H ∧ va_D A [(h0, .inl (k 1, 9, .inr (.inl (tL [1, 0, 0, 0, 1, 0, 0, 0, 0] 0))))]
set_option maxHeartbeats 4000000 in
set_option maxRecDepth 100000 in
theorem cX11_told_2 (l : Launch) (D : va_G) (k : Nat → ClassId) (sz : Nat) (h0 h1 : Nat) : Met l yX11_told (Cond.code yX11_told cX11_told 6 (some .int) :: uw) ({ frames := 0, cells := 0, slots := 0, locals := 0 }) (pC D k sz [.ref h1, .ref h0, .int 3] [(h0, .inl (k 1, 9, .inr (.inl (tL [1, 0, 0, 0, 1, 0, 0, 0, 0] 0))))]) (qI (BX11_told_2 D k h0 h1 (va_A [(h0, .inl (k 1, 9, .inr (.inl (tL [1, 0, 0, 0, 1, 0, 0, 0, 0] 0))))] sz)) (va_A [(h0, .inl (k 1, 9, .inr (.inl (tL [1, 0, 0, 0, 1, 0, 0, 0, 0] 0))))] sz)) 0 0 (va_A [(h0, .inl (k 1, 9, .inr (.inl (tL [1, 0, 0, 0, 1, 0, 0, 0, 0] 0))))] sz) := by
  refine begin_ (Qc := fun A => qI (BX11_told_2 D k h0 h1 A) A) (by decide) (Nat.le_of_ble_eq_true rfl) ?_
  intro p e s m below meth c ls A hx hb hr hml hown hlocks hin hU hK hsz hP hD hS hA hl
  have hl : lv_has ls 6 [(0, .ref h1), (1, .ref h0), (2, .int 3)] := hl
  clear hsz
  refine lv_iconst (v := 0) hx hb dX11_told_0 (by decide) ?_
  refine lv_istore_n (lv' := [(3, .int 0), (0, .ref h1), (1, .ref h0), (2, .int 3)]) hx hb dX11_told_1 rfl hl (by decide) rfl (fun ls hl => ?_)
  refine lv_iconst (v := 0) hx hb dX11_told_2 (by decide) ?_
  refine lv_istore (lv' := [(4, .int 0), (3, .int 0), (0, .ref h1), (1, .ref h0), (2, .int 3)]) hx hb dX11_told_3 hl (by decide) rfl (fun ls hl => ?_)
  refine lv_iload hx hb dX11_told_5 (lv_at hl 0 rfl) ?_
  refine lv_bipush (v := 9) hx hb dX11_told_7 (by decide) ?_
  refine lv_icmp_ge (tgt := 47) hx hb dX11_told_9 (by decide) (fun cc => absurd cc (by decide +kernel)) (fun _ => ?_)
  refine lv_aload_n hx hb dX11_told_12 rfl (lv_at hl 3 rfl) ?_
  refine lv_iload hx hb dX11_told_13 (lv_at hl 0 rfl) ?_
  refine ld_l (j := 0) (v := 1) hx hb hK hP 0 rfl (by decide +kernel) rfl dX11_told_15 ?_
  refine lv_iload_n hx hb dX11_told_16 rfl (lv_at hl 4 rfl) ?_
  refine lv_i2l (v := 3) hx hb dX11_told_17 (by decide +kernel) ?_
  refine lv_lrem hx hb dX11_told_18 (by decide +kernel) (sv_l (v := 1) (by decide +kernel) ?_)
  refine lv_l2i (v := 1) hx hb dX11_told_19 (by decide +kernel) ?_
  refine lv_istore (lv' := [(5, .int 1), (4, .int 0), (3, .int 0), (0, .ref h1), (1, .ref h0), (2, .int 3)]) hx hb dX11_told_20 hl (by decide) rfl (fun ls hl => ?_)
  refine lv_iload_n hx hb dX11_told_22 rfl (lv_at hl 5 rfl) ?_
  refine lv_iload_n hx hb dX11_told_23 rfl (lv_at hl 2 rfl) ?_
  refine lv_imul hx hb dX11_told_24 (sv_i (v := 0) (by decide +kernel) ?_)
  refine lv_iload hx hb dX11_told_25 (lv_at hl 0 rfl) ?_
  refine lv_if_ge (tgt := 37) hx hb dX11_told_27 (by decide) (fun _ => ?_) (fun cc => absurd (by decide +kernel) cc)
  refine lv_iload hx hb dX11_told_37 (lv_at hl 0 rfl) ?_
  refine lv_iadd hx hb dX11_told_39 (sv_i (v := 1) (by decide +kernel) ?_)
  refine lv_istore_n (lv' := [(3, .int 1), (5, .int 1), (4, .int 0), (0, .ref h1), (1, .ref h0), (2, .int 3)]) hx hb dX11_told_40 rfl hl (by decide) rfl (fun ls hl => ?_)
  refine lv_iinc (v := 1) (lv' := [(4, .int 1), (3, .int 1), (5, .int 1), (0, .ref h1), (1, .ref h0), (2, .int 3)]) hx hb dX11_told_41 hl (k := 2) rfl (by decide) (by decide) rfl (fun ls hl => ?_)
  refine lv_goto (tgt := 5) hx hb dX11_told_44 (by decide) ?_
  refine lv_iload hx hb dX11_told_5 (lv_at hl 0 rfl) ?_
  refine lv_bipush (v := 9) hx hb dX11_told_7 (by decide) ?_
  refine lv_icmp_ge (tgt := 47) hx hb dX11_told_9 (by decide) (fun cc => absurd cc (by decide +kernel)) (fun _ => ?_)
  refine lv_aload_n hx hb dX11_told_12 rfl (lv_at hl 4 rfl) ?_
  refine lv_iload hx hb dX11_told_13 (lv_at hl 0 rfl) ?_
  refine ld_l (j := 1) (v := 0) hx hb hK hP 0 rfl (by decide +kernel) rfl dX11_told_15 ?_
  refine lv_iload_n hx hb dX11_told_16 rfl (lv_at hl 5 rfl) ?_
  refine lv_i2l (v := 3) hx hb dX11_told_17 (by decide +kernel) ?_
  refine lv_lrem hx hb dX11_told_18 (by decide +kernel) (sv_l (v := 0) (by decide +kernel) ?_)
  refine lv_l2i (v := 0) hx hb dX11_told_19 (by decide +kernel) ?_
  refine lv_istore (lv' := [(5, .int 0), (4, .int 1), (3, .int 1), (0, .ref h1), (1, .ref h0), (2, .int 3)]) hx hb dX11_told_20 hl (by decide) rfl (fun ls hl => ?_)
  refine lv_iload_n hx hb dX11_told_22 rfl (lv_at hl 5 rfl) ?_
  refine lv_iload_n hx hb dX11_told_23 rfl (lv_at hl 2 rfl) ?_
  refine lv_imul hx hb dX11_told_24 (sv_i (v := 3) (by decide +kernel) ?_)
  refine lv_iload hx hb dX11_told_25 (lv_at hl 0 rfl) ?_
  refine lv_if_ge (tgt := 37) hx hb dX11_told_27 (by decide) (fun _ => ?_) (fun cc => absurd (by decide +kernel) cc)
  refine lv_iload hx hb dX11_told_37 (lv_at hl 0 rfl) ?_
  refine lv_iadd hx hb dX11_told_39 (sv_i (v := 3) (by decide +kernel) ?_)
  refine lv_istore_n (lv' := [(3, .int 3), (5, .int 0), (4, .int 1), (0, .ref h1), (1, .ref h0), (2, .int 3)]) hx hb dX11_told_40 rfl hl (by decide) rfl (fun ls hl => ?_)
  refine lv_iinc (v := 2) (lv' := [(4, .int 2), (3, .int 3), (5, .int 0), (0, .ref h1), (1, .ref h0), (2, .int 3)]) hx hb dX11_told_41 hl (k := 2) rfl (by decide) (by decide) rfl (fun ls hl => ?_)
  refine lv_goto (tgt := 5) hx hb dX11_told_44 (by decide) ?_
  refine lv_iload hx hb dX11_told_5 (lv_at hl 0 rfl) ?_
  refine lv_bipush (v := 9) hx hb dX11_told_7 (by decide) ?_
  refine lv_icmp_ge (tgt := 47) hx hb dX11_told_9 (by decide) (fun cc => absurd cc (by decide +kernel)) (fun _ => ?_)
  refine lv_aload_n hx hb dX11_told_12 rfl (lv_at hl 4 rfl) ?_
  refine lv_iload hx hb dX11_told_13 (lv_at hl 0 rfl) ?_
  refine ld_l (j := 2) (v := 0) hx hb hK hP 0 rfl (by decide +kernel) rfl dX11_told_15 ?_
  refine lv_iload_n hx hb dX11_told_16 rfl (lv_at hl 5 rfl) ?_
  refine lv_i2l (v := 3) hx hb dX11_told_17 (by decide +kernel) ?_
  refine lv_lrem hx hb dX11_told_18 (by decide +kernel) (sv_l (v := 0) (by decide +kernel) ?_)
  refine lv_l2i (v := 0) hx hb dX11_told_19 (by decide +kernel) ?_
  refine lv_istore (lv' := [(5, .int 0), (4, .int 2), (3, .int 3), (0, .ref h1), (1, .ref h0), (2, .int 3)]) hx hb dX11_told_20 hl (by decide) rfl (fun ls hl => ?_)
  refine lv_iload_n hx hb dX11_told_22 rfl (lv_at hl 5 rfl) ?_
  refine lv_iload_n hx hb dX11_told_23 rfl (lv_at hl 2 rfl) ?_
  refine lv_imul hx hb dX11_told_24 (sv_i (v := 9) (by decide +kernel) ?_)
  refine lv_iload hx hb dX11_told_25 (lv_at hl 0 rfl) ?_
  refine lv_if_ge (tgt := 37) hx hb dX11_told_27 (by decide) (fun _ => ?_) (fun cc => absurd (by decide +kernel) cc)
  refine lv_iload hx hb dX11_told_37 (lv_at hl 0 rfl) ?_
  refine lv_iadd hx hb dX11_told_39 (sv_i (v := 9) (by decide +kernel) ?_)
  refine lv_istore_n (lv' := [(3, .int 9), (5, .int 0), (4, .int 2), (0, .ref h1), (1, .ref h0), (2, .int 3)]) hx hb dX11_told_40 rfl hl (by decide) rfl (fun ls hl => ?_)
  refine lv_iinc (v := 3) (lv' := [(4, .int 3), (3, .int 9), (5, .int 0), (0, .ref h1), (1, .ref h0), (2, .int 3)]) hx hb dX11_told_41 hl (k := 2) rfl (by decide) (by decide) rfl (fun ls hl => ?_)
  refine lv_goto (tgt := 5) hx hb dX11_told_44 (by decide) ?_
  refine lv_iload hx hb dX11_told_5 (lv_at hl 0 rfl) ?_
  refine lv_bipush (v := 9) hx hb dX11_told_7 (by decide) ?_
  refine lv_icmp_ge (tgt := 47) hx hb dX11_told_9 (by decide) (fun cc => absurd cc (by decide +kernel)) (fun _ => ?_)
  refine lv_aload_n hx hb dX11_told_12 rfl (lv_at hl 4 rfl) ?_
  refine lv_iload hx hb dX11_told_13 (lv_at hl 0 rfl) ?_
  refine ld_l (j := 3) (v := 0) hx hb hK hP 0 rfl (by decide +kernel) rfl dX11_told_15 ?_
  refine lv_iload_n hx hb dX11_told_16 rfl (lv_at hl 5 rfl) ?_
  refine lv_i2l (v := 3) hx hb dX11_told_17 (by decide +kernel) ?_
  refine lv_lrem hx hb dX11_told_18 (by decide +kernel) (sv_l (v := 0) (by decide +kernel) ?_)
  refine lv_l2i (v := 0) hx hb dX11_told_19 (by decide +kernel) ?_
  refine lv_istore (lv' := [(5, .int 0), (4, .int 3), (3, .int 9), (0, .ref h1), (1, .ref h0), (2, .int 3)]) hx hb dX11_told_20 hl (by decide) rfl (fun ls hl => ?_)
  refine lv_iload_n hx hb dX11_told_22 rfl (lv_at hl 5 rfl) ?_
  refine lv_iload_n hx hb dX11_told_23 rfl (lv_at hl 2 rfl) ?_
  refine lv_imul hx hb dX11_told_24 (sv_i (v := 27) (by decide +kernel) ?_)
  refine lv_iload hx hb dX11_told_25 (lv_at hl 0 rfl) ?_
  refine lv_if_ge (tgt := 37) hx hb dX11_told_27 (by decide) (fun _ => ?_) (fun cc => absurd (by decide +kernel) cc)
  refine lv_iload hx hb dX11_told_37 (lv_at hl 0 rfl) ?_
  refine lv_iadd hx hb dX11_told_39 (sv_i (v := 27) (by decide +kernel) ?_)
  refine lv_istore_n (lv' := [(3, .int 27), (5, .int 0), (4, .int 3), (0, .ref h1), (1, .ref h0), (2, .int 3)]) hx hb dX11_told_40 rfl hl (by decide) rfl (fun ls hl => ?_)
  refine lv_iinc (v := 4) (lv' := [(4, .int 4), (3, .int 27), (5, .int 0), (0, .ref h1), (1, .ref h0), (2, .int 3)]) hx hb dX11_told_41 hl (k := 2) rfl (by decide) (by decide) rfl (fun ls hl => ?_)
  refine lv_goto (tgt := 5) hx hb dX11_told_44 (by decide) ?_
  refine lv_iload hx hb dX11_told_5 (lv_at hl 0 rfl) ?_
  refine lv_bipush (v := 9) hx hb dX11_told_7 (by decide) ?_
  refine lv_icmp_ge (tgt := 47) hx hb dX11_told_9 (by decide) (fun cc => absurd cc (by decide +kernel)) (fun _ => ?_)
  refine lv_aload_n hx hb dX11_told_12 rfl (lv_at hl 4 rfl) ?_
  refine lv_iload hx hb dX11_told_13 (lv_at hl 0 rfl) ?_
  refine ld_l (j := 4) (v := 1) hx hb hK hP 0 rfl (by decide +kernel) rfl dX11_told_15 ?_
  refine lv_iload_n hx hb dX11_told_16 rfl (lv_at hl 5 rfl) ?_
  refine lv_i2l (v := 3) hx hb dX11_told_17 (by decide +kernel) ?_
  refine lv_lrem hx hb dX11_told_18 (by decide +kernel) (sv_l (v := 1) (by decide +kernel) ?_)
  refine lv_l2i (v := 1) hx hb dX11_told_19 (by decide +kernel) ?_
  refine lv_istore (lv' := [(5, .int 1), (4, .int 4), (3, .int 27), (0, .ref h1), (1, .ref h0), (2, .int 3)]) hx hb dX11_told_20 hl (by decide) rfl (fun ls hl => ?_)
  refine lv_iload_n hx hb dX11_told_22 rfl (lv_at hl 5 rfl) ?_
  refine lv_iload_n hx hb dX11_told_23 rfl (lv_at hl 2 rfl) ?_
  refine lv_imul hx hb dX11_told_24 (sv_i (v := 81) (by decide +kernel) ?_)
  refine lv_iload hx hb dX11_told_25 (lv_at hl 0 rfl) ?_
  refine lv_if_ge (tgt := 37) hx hb dX11_told_27 (by decide) (fun _ => ?_) (fun cc => absurd (by decide +kernel) cc)
  refine lv_iload hx hb dX11_told_37 (lv_at hl 0 rfl) ?_
  refine lv_iadd hx hb dX11_told_39 (sv_i (v := 82) (by decide +kernel) ?_)
  refine lv_istore_n (lv' := [(3, .int 82), (5, .int 1), (4, .int 4), (0, .ref h1), (1, .ref h0), (2, .int 3)]) hx hb dX11_told_40 rfl hl (by decide) rfl (fun ls hl => ?_)
  refine lv_iinc (v := 5) (lv' := [(4, .int 5), (3, .int 82), (5, .int 1), (0, .ref h1), (1, .ref h0), (2, .int 3)]) hx hb dX11_told_41 hl (k := 2) rfl (by decide) (by decide) rfl (fun ls hl => ?_)
  refine lv_goto (tgt := 5) hx hb dX11_told_44 (by decide) ?_
  refine lv_iload hx hb dX11_told_5 (lv_at hl 0 rfl) ?_
  refine lv_bipush (v := 9) hx hb dX11_told_7 (by decide) ?_
  refine lv_icmp_ge (tgt := 47) hx hb dX11_told_9 (by decide) (fun cc => absurd cc (by decide +kernel)) (fun _ => ?_)
  refine lv_aload_n hx hb dX11_told_12 rfl (lv_at hl 4 rfl) ?_
  refine lv_iload hx hb dX11_told_13 (lv_at hl 0 rfl) ?_
  refine ld_l (j := 5) (v := 0) hx hb hK hP 0 rfl (by decide +kernel) rfl dX11_told_15 ?_
  refine lv_iload_n hx hb dX11_told_16 rfl (lv_at hl 5 rfl) ?_
  refine lv_i2l (v := 3) hx hb dX11_told_17 (by decide +kernel) ?_
  refine lv_lrem hx hb dX11_told_18 (by decide +kernel) (sv_l (v := 0) (by decide +kernel) ?_)
  refine lv_l2i (v := 0) hx hb dX11_told_19 (by decide +kernel) ?_
  refine lv_istore (lv' := [(5, .int 0), (4, .int 5), (3, .int 82), (0, .ref h1), (1, .ref h0), (2, .int 3)]) hx hb dX11_told_20 hl (by decide) rfl (fun ls hl => ?_)
  refine lv_iload_n hx hb dX11_told_22 rfl (lv_at hl 5 rfl) ?_
  refine lv_iload_n hx hb dX11_told_23 rfl (lv_at hl 2 rfl) ?_
  refine lv_imul hx hb dX11_told_24 (sv_i (v := 246) (by decide +kernel) ?_)
  refine lv_iload hx hb dX11_told_25 (lv_at hl 0 rfl) ?_
  refine lv_if_ge (tgt := 37) hx hb dX11_told_27 (by decide) (fun _ => ?_) (fun cc => absurd (by decide +kernel) cc)
  refine lv_iload hx hb dX11_told_37 (lv_at hl 0 rfl) ?_
  refine lv_iadd hx hb dX11_told_39 (sv_i (v := 246) (by decide +kernel) ?_)
  refine lv_istore_n (lv' := [(3, .int 246), (5, .int 0), (4, .int 5), (0, .ref h1), (1, .ref h0), (2, .int 3)]) hx hb dX11_told_40 rfl hl (by decide) rfl (fun ls hl => ?_)
  refine lv_iinc (v := 6) (lv' := [(4, .int 6), (3, .int 246), (5, .int 0), (0, .ref h1), (1, .ref h0), (2, .int 3)]) hx hb dX11_told_41 hl (k := 2) rfl (by decide) (by decide) rfl (fun ls hl => ?_)
  refine lv_goto (tgt := 5) hx hb dX11_told_44 (by decide) ?_
  refine lv_iload hx hb dX11_told_5 (lv_at hl 0 rfl) ?_
  refine lv_bipush (v := 9) hx hb dX11_told_7 (by decide) ?_
  refine lv_icmp_ge (tgt := 47) hx hb dX11_told_9 (by decide) (fun cc => absurd cc (by decide +kernel)) (fun _ => ?_)
  refine lv_aload_n hx hb dX11_told_12 rfl (lv_at hl 4 rfl) ?_
  refine lv_iload hx hb dX11_told_13 (lv_at hl 0 rfl) ?_
  refine ld_l (j := 6) (v := 0) hx hb hK hP 0 rfl (by decide +kernel) rfl dX11_told_15 ?_
  refine lv_iload_n hx hb dX11_told_16 rfl (lv_at hl 5 rfl) ?_
  refine lv_i2l (v := 3) hx hb dX11_told_17 (by decide +kernel) ?_
  refine lv_lrem hx hb dX11_told_18 (by decide +kernel) (sv_l (v := 0) (by decide +kernel) ?_)
  refine lv_l2i (v := 0) hx hb dX11_told_19 (by decide +kernel) ?_
  refine lv_istore (lv' := [(5, .int 0), (4, .int 6), (3, .int 246), (0, .ref h1), (1, .ref h0), (2, .int 3)]) hx hb dX11_told_20 hl (by decide) rfl (fun ls hl => ?_)
  refine lv_iload_n hx hb dX11_told_22 rfl (lv_at hl 5 rfl) ?_
  refine lv_iload_n hx hb dX11_told_23 rfl (lv_at hl 2 rfl) ?_
  refine lv_imul hx hb dX11_told_24 (sv_i (v := 738) (by decide +kernel) ?_)
  refine lv_iload hx hb dX11_told_25 (lv_at hl 0 rfl) ?_
  refine lv_if_ge (tgt := 37) hx hb dX11_told_27 (by decide) (fun _ => ?_) (fun cc => absurd (by decide +kernel) cc)
  refine lv_iload hx hb dX11_told_37 (lv_at hl 0 rfl) ?_
  refine lv_iadd hx hb dX11_told_39 (sv_i (v := 738) (by decide +kernel) ?_)
  refine lv_istore_n (lv' := [(3, .int 738), (5, .int 0), (4, .int 6), (0, .ref h1), (1, .ref h0), (2, .int 3)]) hx hb dX11_told_40 rfl hl (by decide) rfl (fun ls hl => ?_)
  refine lv_iinc (v := 7) (lv' := [(4, .int 7), (3, .int 738), (5, .int 0), (0, .ref h1), (1, .ref h0), (2, .int 3)]) hx hb dX11_told_41 hl (k := 2) rfl (by decide) (by decide) rfl (fun ls hl => ?_)
  refine lv_goto (tgt := 5) hx hb dX11_told_44 (by decide) ?_
  refine lv_iload hx hb dX11_told_5 (lv_at hl 0 rfl) ?_
  refine lv_bipush (v := 9) hx hb dX11_told_7 (by decide) ?_
  refine lv_icmp_ge (tgt := 47) hx hb dX11_told_9 (by decide) (fun cc => absurd cc (by decide +kernel)) (fun _ => ?_)
  refine lv_aload_n hx hb dX11_told_12 rfl (lv_at hl 4 rfl) ?_
  refine lv_iload hx hb dX11_told_13 (lv_at hl 0 rfl) ?_
  refine ld_l (j := 7) (v := 0) hx hb hK hP 0 rfl (by decide +kernel) rfl dX11_told_15 ?_
  refine lv_iload_n hx hb dX11_told_16 rfl (lv_at hl 5 rfl) ?_
  refine lv_i2l (v := 3) hx hb dX11_told_17 (by decide +kernel) ?_
  refine lv_lrem hx hb dX11_told_18 (by decide +kernel) (sv_l (v := 0) (by decide +kernel) ?_)
  refine lv_l2i (v := 0) hx hb dX11_told_19 (by decide +kernel) ?_
  refine lv_istore (lv' := [(5, .int 0), (4, .int 7), (3, .int 738), (0, .ref h1), (1, .ref h0), (2, .int 3)]) hx hb dX11_told_20 hl (by decide) rfl (fun ls hl => ?_)
  refine lv_iload_n hx hb dX11_told_22 rfl (lv_at hl 5 rfl) ?_
  refine lv_iload_n hx hb dX11_told_23 rfl (lv_at hl 2 rfl) ?_
  refine lv_imul hx hb dX11_told_24 (sv_i (v := 2214) (by decide +kernel) ?_)
  refine lv_iload hx hb dX11_told_25 (lv_at hl 0 rfl) ?_
  refine lv_if_ge (tgt := 37) hx hb dX11_told_27 (by decide) (fun _ => ?_) (fun cc => absurd (by decide +kernel) cc)
  refine lv_iload hx hb dX11_told_37 (lv_at hl 0 rfl) ?_
  refine lv_iadd hx hb dX11_told_39 (sv_i (v := 2214) (by decide +kernel) ?_)
  refine lv_istore_n (lv' := [(3, .int 2214), (5, .int 0), (4, .int 7), (0, .ref h1), (1, .ref h0), (2, .int 3)]) hx hb dX11_told_40 rfl hl (by decide) rfl (fun ls hl => ?_)
  refine lv_iinc (v := 8) (lv' := [(4, .int 8), (3, .int 2214), (5, .int 0), (0, .ref h1), (1, .ref h0), (2, .int 3)]) hx hb dX11_told_41 hl (k := 2) rfl (by decide) (by decide) rfl (fun ls hl => ?_)
  refine lv_goto (tgt := 5) hx hb dX11_told_44 (by decide) ?_
  refine lv_iload hx hb dX11_told_5 (lv_at hl 0 rfl) ?_
  refine lv_bipush (v := 9) hx hb dX11_told_7 (by decide) ?_
  refine lv_icmp_ge (tgt := 47) hx hb dX11_told_9 (by decide) (fun cc => absurd cc (by decide +kernel)) (fun _ => ?_)
  refine lv_aload_n hx hb dX11_told_12 rfl (lv_at hl 4 rfl) ?_
  refine lv_iload hx hb dX11_told_13 (lv_at hl 0 rfl) ?_
  refine ld_l (j := 8) (v := 0) hx hb hK hP 0 rfl (by decide +kernel) rfl dX11_told_15 ?_
  refine lv_iload_n hx hb dX11_told_16 rfl (lv_at hl 5 rfl) ?_
  refine lv_i2l (v := 3) hx hb dX11_told_17 (by decide +kernel) ?_
  refine lv_lrem hx hb dX11_told_18 (by decide +kernel) (sv_l (v := 0) (by decide +kernel) ?_)
  refine lv_l2i (v := 0) hx hb dX11_told_19 (by decide +kernel) ?_
  refine lv_istore (lv' := [(5, .int 0), (4, .int 8), (3, .int 2214), (0, .ref h1), (1, .ref h0), (2, .int 3)]) hx hb dX11_told_20 hl (by decide) rfl (fun ls hl => ?_)
  refine lv_iload_n hx hb dX11_told_22 rfl (lv_at hl 5 rfl) ?_
  refine lv_iload_n hx hb dX11_told_23 rfl (lv_at hl 2 rfl) ?_
  refine lv_imul hx hb dX11_told_24 (sv_i (v := 6642) (by decide +kernel) ?_)
  refine lv_iload hx hb dX11_told_25 (lv_at hl 0 rfl) ?_
  refine lv_if_ge (tgt := 37) hx hb dX11_told_27 (by decide) (fun _ => ?_) (fun cc => absurd (by decide +kernel) cc)
  refine lv_iload hx hb dX11_told_37 (lv_at hl 0 rfl) ?_
  refine lv_iadd hx hb dX11_told_39 (sv_i (v := 6642) (by decide +kernel) ?_)
  refine lv_istore_n (lv' := [(3, .int 6642), (5, .int 0), (4, .int 8), (0, .ref h1), (1, .ref h0), (2, .int 3)]) hx hb dX11_told_40 rfl hl (by decide) rfl (fun ls hl => ?_)
  refine lv_iinc (v := 9) (lv' := [(4, .int 9), (3, .int 6642), (5, .int 0), (0, .ref h1), (1, .ref h0), (2, .int 3)]) hx hb dX11_told_41 hl (k := 2) rfl (by decide) (by decide) rfl (fun ls hl => ?_)
  refine lv_goto (tgt := 5) hx hb dX11_told_44 (by decide) ?_
  refine lv_iload hx hb dX11_told_5 (lv_at hl 0 rfl) ?_
  refine lv_bipush (v := 9) hx hb dX11_told_7 (by decide) ?_
  refine lv_icmp_ge (tgt := 47) hx hb dX11_told_9 (by decide) (fun _ => ?_) (fun cc => absurd (by decide +kernel) cc)
  refine lv_iload_n hx hb dX11_told_47 rfl (lv_at hl 1 rfl) ?_
  exact retI (v := 6642) hx hb hr hlocks hS (⟨rfl, hP, hD⟩) dX11_told_48
abbrev BX11_told_3 (D : va_G) (k : Nat → ClassId) (h0 h1 : Nat) (A : Nat → Prop) (r : Int32) (H : Heap) : Prop := 391250 = r ∧ va_P D cl0 [(h0, .inl (k 1, 9, .inr (.inl (tL [1, 0, 0, 0, 1, 0, 0, 0, 0] 0))))] H ∧ va_D A [(h0, .inl (k 1, 9, .inr (.inl (tL [1, 0, 0, 0, 1, 0, 0, 0, 0] 0))))]
set_option maxHeartbeats 4000000 in
set_option maxRecDepth 100000 in
theorem cX11_told_3 (l : Launch) (D : va_G) (k : Nat → ClassId) (sz : Nat) (h0 h1 : Nat) : Met l yX11_told (Cond.code yX11_told cX11_told 6 (some .int) :: uw) ({ frames := 0, cells := 0, slots := 0, locals := 0 }) (pC D k sz [.ref h1, .ref h0, .int 5] [(h0, .inl (k 1, 9, .inr (.inl (tL [1, 0, 0, 0, 1, 0, 0, 0, 0] 0))))]) (qI (BX11_told_3 D k h0 h1 (va_A [(h0, .inl (k 1, 9, .inr (.inl (tL [1, 0, 0, 0, 1, 0, 0, 0, 0] 0))))] sz)) (va_A [(h0, .inl (k 1, 9, .inr (.inl (tL [1, 0, 0, 0, 1, 0, 0, 0, 0] 0))))] sz)) 0 0 (va_A [(h0, .inl (k 1, 9, .inr (.inl (tL [1, 0, 0, 0, 1, 0, 0, 0, 0] 0))))] sz) := by
  refine begin_ (Qc := fun A => qI (BX11_told_3 D k h0 h1 A) A) (by decide) (Nat.le_of_ble_eq_true rfl) ?_
  intro p e s m below meth c ls A hx hb hr hml hown hlocks hin hU hK hsz hP hD hS hA hl
  have hl : lv_has ls 6 [(0, .ref h1), (1, .ref h0), (2, .int 5)] := hl
  clear hsz
  refine lv_iconst (v := 0) hx hb dX11_told_0 (by decide) ?_
  refine lv_istore_n (lv' := [(3, .int 0), (0, .ref h1), (1, .ref h0), (2, .int 5)]) hx hb dX11_told_1 rfl hl (by decide) rfl (fun ls hl => ?_)
  refine lv_iconst (v := 0) hx hb dX11_told_2 (by decide) ?_
  refine lv_istore (lv' := [(4, .int 0), (3, .int 0), (0, .ref h1), (1, .ref h0), (2, .int 5)]) hx hb dX11_told_3 hl (by decide) rfl (fun ls hl => ?_)
  refine lv_iload hx hb dX11_told_5 (lv_at hl 0 rfl) ?_
  refine lv_bipush (v := 9) hx hb dX11_told_7 (by decide) ?_
  refine lv_icmp_ge (tgt := 47) hx hb dX11_told_9 (by decide) (fun cc => absurd cc (by decide +kernel)) (fun _ => ?_)
  refine lv_aload_n hx hb dX11_told_12 rfl (lv_at hl 3 rfl) ?_
  refine lv_iload hx hb dX11_told_13 (lv_at hl 0 rfl) ?_
  refine ld_l (j := 0) (v := 1) hx hb hK hP 0 rfl (by decide +kernel) rfl dX11_told_15 ?_
  refine lv_iload_n hx hb dX11_told_16 rfl (lv_at hl 4 rfl) ?_
  refine lv_i2l (v := 5) hx hb dX11_told_17 (by decide +kernel) ?_
  refine lv_lrem hx hb dX11_told_18 (by decide +kernel) (sv_l (v := 1) (by decide +kernel) ?_)
  refine lv_l2i (v := 1) hx hb dX11_told_19 (by decide +kernel) ?_
  refine lv_istore (lv' := [(5, .int 1), (4, .int 0), (3, .int 0), (0, .ref h1), (1, .ref h0), (2, .int 5)]) hx hb dX11_told_20 hl (by decide) rfl (fun ls hl => ?_)
  refine lv_iload_n hx hb dX11_told_22 rfl (lv_at hl 5 rfl) ?_
  refine lv_iload_n hx hb dX11_told_23 rfl (lv_at hl 2 rfl) ?_
  refine lv_imul hx hb dX11_told_24 (sv_i (v := 0) (by decide +kernel) ?_)
  refine lv_iload hx hb dX11_told_25 (lv_at hl 0 rfl) ?_
  refine lv_if_ge (tgt := 37) hx hb dX11_told_27 (by decide) (fun _ => ?_) (fun cc => absurd (by decide +kernel) cc)
  refine lv_iload hx hb dX11_told_37 (lv_at hl 0 rfl) ?_
  refine lv_iadd hx hb dX11_told_39 (sv_i (v := 1) (by decide +kernel) ?_)
  refine lv_istore_n (lv' := [(3, .int 1), (5, .int 1), (4, .int 0), (0, .ref h1), (1, .ref h0), (2, .int 5)]) hx hb dX11_told_40 rfl hl (by decide) rfl (fun ls hl => ?_)
  refine lv_iinc (v := 1) (lv' := [(4, .int 1), (3, .int 1), (5, .int 1), (0, .ref h1), (1, .ref h0), (2, .int 5)]) hx hb dX11_told_41 hl (k := 2) rfl (by decide) (by decide) rfl (fun ls hl => ?_)
  refine lv_goto (tgt := 5) hx hb dX11_told_44 (by decide) ?_
  refine lv_iload hx hb dX11_told_5 (lv_at hl 0 rfl) ?_
  refine lv_bipush (v := 9) hx hb dX11_told_7 (by decide) ?_
  refine lv_icmp_ge (tgt := 47) hx hb dX11_told_9 (by decide) (fun cc => absurd cc (by decide +kernel)) (fun _ => ?_)
  refine lv_aload_n hx hb dX11_told_12 rfl (lv_at hl 4 rfl) ?_
  refine lv_iload hx hb dX11_told_13 (lv_at hl 0 rfl) ?_
  refine ld_l (j := 1) (v := 0) hx hb hK hP 0 rfl (by decide +kernel) rfl dX11_told_15 ?_
  refine lv_iload_n hx hb dX11_told_16 rfl (lv_at hl 5 rfl) ?_
  refine lv_i2l (v := 5) hx hb dX11_told_17 (by decide +kernel) ?_
  refine lv_lrem hx hb dX11_told_18 (by decide +kernel) (sv_l (v := 0) (by decide +kernel) ?_)
  refine lv_l2i (v := 0) hx hb dX11_told_19 (by decide +kernel) ?_
  refine lv_istore (lv' := [(5, .int 0), (4, .int 1), (3, .int 1), (0, .ref h1), (1, .ref h0), (2, .int 5)]) hx hb dX11_told_20 hl (by decide) rfl (fun ls hl => ?_)
  refine lv_iload_n hx hb dX11_told_22 rfl (lv_at hl 5 rfl) ?_
  refine lv_iload_n hx hb dX11_told_23 rfl (lv_at hl 2 rfl) ?_
  refine lv_imul hx hb dX11_told_24 (sv_i (v := 5) (by decide +kernel) ?_)
  refine lv_iload hx hb dX11_told_25 (lv_at hl 0 rfl) ?_
  refine lv_if_ge (tgt := 37) hx hb dX11_told_27 (by decide) (fun _ => ?_) (fun cc => absurd (by decide +kernel) cc)
  refine lv_iload hx hb dX11_told_37 (lv_at hl 0 rfl) ?_
  refine lv_iadd hx hb dX11_told_39 (sv_i (v := 5) (by decide +kernel) ?_)
  refine lv_istore_n (lv' := [(3, .int 5), (5, .int 0), (4, .int 1), (0, .ref h1), (1, .ref h0), (2, .int 5)]) hx hb dX11_told_40 rfl hl (by decide) rfl (fun ls hl => ?_)
  refine lv_iinc (v := 2) (lv' := [(4, .int 2), (3, .int 5), (5, .int 0), (0, .ref h1), (1, .ref h0), (2, .int 5)]) hx hb dX11_told_41 hl (k := 2) rfl (by decide) (by decide) rfl (fun ls hl => ?_)
  refine lv_goto (tgt := 5) hx hb dX11_told_44 (by decide) ?_
  refine lv_iload hx hb dX11_told_5 (lv_at hl 0 rfl) ?_
  refine lv_bipush (v := 9) hx hb dX11_told_7 (by decide) ?_
  refine lv_icmp_ge (tgt := 47) hx hb dX11_told_9 (by decide) (fun cc => absurd cc (by decide +kernel)) (fun _ => ?_)
  refine lv_aload_n hx hb dX11_told_12 rfl (lv_at hl 4 rfl) ?_
  refine lv_iload hx hb dX11_told_13 (lv_at hl 0 rfl) ?_
  refine ld_l (j := 2) (v := 0) hx hb hK hP 0 rfl (by decide +kernel) rfl dX11_told_15 ?_
  refine lv_iload_n hx hb dX11_told_16 rfl (lv_at hl 5 rfl) ?_
  refine lv_i2l (v := 5) hx hb dX11_told_17 (by decide +kernel) ?_
  refine lv_lrem hx hb dX11_told_18 (by decide +kernel) (sv_l (v := 0) (by decide +kernel) ?_)
  refine lv_l2i (v := 0) hx hb dX11_told_19 (by decide +kernel) ?_
  refine lv_istore (lv' := [(5, .int 0), (4, .int 2), (3, .int 5), (0, .ref h1), (1, .ref h0), (2, .int 5)]) hx hb dX11_told_20 hl (by decide) rfl (fun ls hl => ?_)
  refine lv_iload_n hx hb dX11_told_22 rfl (lv_at hl 5 rfl) ?_
  refine lv_iload_n hx hb dX11_told_23 rfl (lv_at hl 2 rfl) ?_
  refine lv_imul hx hb dX11_told_24 (sv_i (v := 25) (by decide +kernel) ?_)
  refine lv_iload hx hb dX11_told_25 (lv_at hl 0 rfl) ?_
  refine lv_if_ge (tgt := 37) hx hb dX11_told_27 (by decide) (fun _ => ?_) (fun cc => absurd (by decide +kernel) cc)
  refine lv_iload hx hb dX11_told_37 (lv_at hl 0 rfl) ?_
  refine lv_iadd hx hb dX11_told_39 (sv_i (v := 25) (by decide +kernel) ?_)
  refine lv_istore_n (lv' := [(3, .int 25), (5, .int 0), (4, .int 2), (0, .ref h1), (1, .ref h0), (2, .int 5)]) hx hb dX11_told_40 rfl hl (by decide) rfl (fun ls hl => ?_)
  refine lv_iinc (v := 3) (lv' := [(4, .int 3), (3, .int 25), (5, .int 0), (0, .ref h1), (1, .ref h0), (2, .int 5)]) hx hb dX11_told_41 hl (k := 2) rfl (by decide) (by decide) rfl (fun ls hl => ?_)
  refine lv_goto (tgt := 5) hx hb dX11_told_44 (by decide) ?_
  refine lv_iload hx hb dX11_told_5 (lv_at hl 0 rfl) ?_
  refine lv_bipush (v := 9) hx hb dX11_told_7 (by decide) ?_
  refine lv_icmp_ge (tgt := 47) hx hb dX11_told_9 (by decide) (fun cc => absurd cc (by decide +kernel)) (fun _ => ?_)
  refine lv_aload_n hx hb dX11_told_12 rfl (lv_at hl 4 rfl) ?_
  refine lv_iload hx hb dX11_told_13 (lv_at hl 0 rfl) ?_
  refine ld_l (j := 3) (v := 0) hx hb hK hP 0 rfl (by decide +kernel) rfl dX11_told_15 ?_
  refine lv_iload_n hx hb dX11_told_16 rfl (lv_at hl 5 rfl) ?_
  refine lv_i2l (v := 5) hx hb dX11_told_17 (by decide +kernel) ?_
  refine lv_lrem hx hb dX11_told_18 (by decide +kernel) (sv_l (v := 0) (by decide +kernel) ?_)
  refine lv_l2i (v := 0) hx hb dX11_told_19 (by decide +kernel) ?_
  refine lv_istore (lv' := [(5, .int 0), (4, .int 3), (3, .int 25), (0, .ref h1), (1, .ref h0), (2, .int 5)]) hx hb dX11_told_20 hl (by decide) rfl (fun ls hl => ?_)
  refine lv_iload_n hx hb dX11_told_22 rfl (lv_at hl 5 rfl) ?_
  refine lv_iload_n hx hb dX11_told_23 rfl (lv_at hl 2 rfl) ?_
  refine lv_imul hx hb dX11_told_24 (sv_i (v := 125) (by decide +kernel) ?_)
  refine lv_iload hx hb dX11_told_25 (lv_at hl 0 rfl) ?_
  refine lv_if_ge (tgt := 37) hx hb dX11_told_27 (by decide) (fun _ => ?_) (fun cc => absurd (by decide +kernel) cc)
  refine lv_iload hx hb dX11_told_37 (lv_at hl 0 rfl) ?_
  refine lv_iadd hx hb dX11_told_39 (sv_i (v := 125) (by decide +kernel) ?_)
  refine lv_istore_n (lv' := [(3, .int 125), (5, .int 0), (4, .int 3), (0, .ref h1), (1, .ref h0), (2, .int 5)]) hx hb dX11_told_40 rfl hl (by decide) rfl (fun ls hl => ?_)
  refine lv_iinc (v := 4) (lv' := [(4, .int 4), (3, .int 125), (5, .int 0), (0, .ref h1), (1, .ref h0), (2, .int 5)]) hx hb dX11_told_41 hl (k := 2) rfl (by decide) (by decide) rfl (fun ls hl => ?_)
  refine lv_goto (tgt := 5) hx hb dX11_told_44 (by decide) ?_
  refine lv_iload hx hb dX11_told_5 (lv_at hl 0 rfl) ?_
  refine lv_bipush (v := 9) hx hb dX11_told_7 (by decide) ?_
  refine lv_icmp_ge (tgt := 47) hx hb dX11_told_9 (by decide) (fun cc => absurd cc (by decide +kernel)) (fun _ => ?_)
  refine lv_aload_n hx hb dX11_told_12 rfl (lv_at hl 4 rfl) ?_
  refine lv_iload hx hb dX11_told_13 (lv_at hl 0 rfl) ?_
  refine ld_l (j := 4) (v := 1) hx hb hK hP 0 rfl (by decide +kernel) rfl dX11_told_15 ?_
  refine lv_iload_n hx hb dX11_told_16 rfl (lv_at hl 5 rfl) ?_
  refine lv_i2l (v := 5) hx hb dX11_told_17 (by decide +kernel) ?_
  refine lv_lrem hx hb dX11_told_18 (by decide +kernel) (sv_l (v := 1) (by decide +kernel) ?_)
  refine lv_l2i (v := 1) hx hb dX11_told_19 (by decide +kernel) ?_
  refine lv_istore (lv' := [(5, .int 1), (4, .int 4), (3, .int 125), (0, .ref h1), (1, .ref h0), (2, .int 5)]) hx hb dX11_told_20 hl (by decide) rfl (fun ls hl => ?_)
  refine lv_iload_n hx hb dX11_told_22 rfl (lv_at hl 5 rfl) ?_
  refine lv_iload_n hx hb dX11_told_23 rfl (lv_at hl 2 rfl) ?_
  refine lv_imul hx hb dX11_told_24 (sv_i (v := 625) (by decide +kernel) ?_)
  refine lv_iload hx hb dX11_told_25 (lv_at hl 0 rfl) ?_
  refine lv_if_ge (tgt := 37) hx hb dX11_told_27 (by decide) (fun _ => ?_) (fun cc => absurd (by decide +kernel) cc)
  refine lv_iload hx hb dX11_told_37 (lv_at hl 0 rfl) ?_
  refine lv_iadd hx hb dX11_told_39 (sv_i (v := 626) (by decide +kernel) ?_)
  refine lv_istore_n (lv' := [(3, .int 626), (5, .int 1), (4, .int 4), (0, .ref h1), (1, .ref h0), (2, .int 5)]) hx hb dX11_told_40 rfl hl (by decide) rfl (fun ls hl => ?_)
  refine lv_iinc (v := 5) (lv' := [(4, .int 5), (3, .int 626), (5, .int 1), (0, .ref h1), (1, .ref h0), (2, .int 5)]) hx hb dX11_told_41 hl (k := 2) rfl (by decide) (by decide) rfl (fun ls hl => ?_)
  refine lv_goto (tgt := 5) hx hb dX11_told_44 (by decide) ?_
  refine lv_iload hx hb dX11_told_5 (lv_at hl 0 rfl) ?_
  refine lv_bipush (v := 9) hx hb dX11_told_7 (by decide) ?_
  refine lv_icmp_ge (tgt := 47) hx hb dX11_told_9 (by decide) (fun cc => absurd cc (by decide +kernel)) (fun _ => ?_)
  refine lv_aload_n hx hb dX11_told_12 rfl (lv_at hl 4 rfl) ?_
  refine lv_iload hx hb dX11_told_13 (lv_at hl 0 rfl) ?_
  refine ld_l (j := 5) (v := 0) hx hb hK hP 0 rfl (by decide +kernel) rfl dX11_told_15 ?_
  refine lv_iload_n hx hb dX11_told_16 rfl (lv_at hl 5 rfl) ?_
  refine lv_i2l (v := 5) hx hb dX11_told_17 (by decide +kernel) ?_
  refine lv_lrem hx hb dX11_told_18 (by decide +kernel) (sv_l (v := 0) (by decide +kernel) ?_)
  refine lv_l2i (v := 0) hx hb dX11_told_19 (by decide +kernel) ?_
  refine lv_istore (lv' := [(5, .int 0), (4, .int 5), (3, .int 626), (0, .ref h1), (1, .ref h0), (2, .int 5)]) hx hb dX11_told_20 hl (by decide) rfl (fun ls hl => ?_)
  refine lv_iload_n hx hb dX11_told_22 rfl (lv_at hl 5 rfl) ?_
  refine lv_iload_n hx hb dX11_told_23 rfl (lv_at hl 2 rfl) ?_
  refine lv_imul hx hb dX11_told_24 (sv_i (v := 3130) (by decide +kernel) ?_)
  refine lv_iload hx hb dX11_told_25 (lv_at hl 0 rfl) ?_
  refine lv_if_ge (tgt := 37) hx hb dX11_told_27 (by decide) (fun _ => ?_) (fun cc => absurd (by decide +kernel) cc)
  refine lv_iload hx hb dX11_told_37 (lv_at hl 0 rfl) ?_
  refine lv_iadd hx hb dX11_told_39 (sv_i (v := 3130) (by decide +kernel) ?_)
  refine lv_istore_n (lv' := [(3, .int 3130), (5, .int 0), (4, .int 5), (0, .ref h1), (1, .ref h0), (2, .int 5)]) hx hb dX11_told_40 rfl hl (by decide) rfl (fun ls hl => ?_)
  refine lv_iinc (v := 6) (lv' := [(4, .int 6), (3, .int 3130), (5, .int 0), (0, .ref h1), (1, .ref h0), (2, .int 5)]) hx hb dX11_told_41 hl (k := 2) rfl (by decide) (by decide) rfl (fun ls hl => ?_)
  refine lv_goto (tgt := 5) hx hb dX11_told_44 (by decide) ?_
  refine lv_iload hx hb dX11_told_5 (lv_at hl 0 rfl) ?_
  refine lv_bipush (v := 9) hx hb dX11_told_7 (by decide) ?_
  refine lv_icmp_ge (tgt := 47) hx hb dX11_told_9 (by decide) (fun cc => absurd cc (by decide +kernel)) (fun _ => ?_)
  refine lv_aload_n hx hb dX11_told_12 rfl (lv_at hl 4 rfl) ?_
  refine lv_iload hx hb dX11_told_13 (lv_at hl 0 rfl) ?_
  refine ld_l (j := 6) (v := 0) hx hb hK hP 0 rfl (by decide +kernel) rfl dX11_told_15 ?_
  refine lv_iload_n hx hb dX11_told_16 rfl (lv_at hl 5 rfl) ?_
  refine lv_i2l (v := 5) hx hb dX11_told_17 (by decide +kernel) ?_
  refine lv_lrem hx hb dX11_told_18 (by decide +kernel) (sv_l (v := 0) (by decide +kernel) ?_)
  refine lv_l2i (v := 0) hx hb dX11_told_19 (by decide +kernel) ?_
  refine lv_istore (lv' := [(5, .int 0), (4, .int 6), (3, .int 3130), (0, .ref h1), (1, .ref h0), (2, .int 5)]) hx hb dX11_told_20 hl (by decide) rfl (fun ls hl => ?_)
  refine lv_iload_n hx hb dX11_told_22 rfl (lv_at hl 5 rfl) ?_
  refine lv_iload_n hx hb dX11_told_23 rfl (lv_at hl 2 rfl) ?_
  refine lv_imul hx hb dX11_told_24 (sv_i (v := 15650) (by decide +kernel) ?_)
  refine lv_iload hx hb dX11_told_25 (lv_at hl 0 rfl) ?_
  refine lv_if_ge (tgt := 37) hx hb dX11_told_27 (by decide) (fun _ => ?_) (fun cc => absurd (by decide +kernel) cc)
  refine lv_iload hx hb dX11_told_37 (lv_at hl 0 rfl) ?_
  refine lv_iadd hx hb dX11_told_39 (sv_i (v := 15650) (by decide +kernel) ?_)
  refine lv_istore_n (lv' := [(3, .int 15650), (5, .int 0), (4, .int 6), (0, .ref h1), (1, .ref h0), (2, .int 5)]) hx hb dX11_told_40 rfl hl (by decide) rfl (fun ls hl => ?_)
  refine lv_iinc (v := 7) (lv' := [(4, .int 7), (3, .int 15650), (5, .int 0), (0, .ref h1), (1, .ref h0), (2, .int 5)]) hx hb dX11_told_41 hl (k := 2) rfl (by decide) (by decide) rfl (fun ls hl => ?_)
  refine lv_goto (tgt := 5) hx hb dX11_told_44 (by decide) ?_
  refine lv_iload hx hb dX11_told_5 (lv_at hl 0 rfl) ?_
  refine lv_bipush (v := 9) hx hb dX11_told_7 (by decide) ?_
  refine lv_icmp_ge (tgt := 47) hx hb dX11_told_9 (by decide) (fun cc => absurd cc (by decide +kernel)) (fun _ => ?_)
  refine lv_aload_n hx hb dX11_told_12 rfl (lv_at hl 4 rfl) ?_
  refine lv_iload hx hb dX11_told_13 (lv_at hl 0 rfl) ?_
  refine ld_l (j := 7) (v := 0) hx hb hK hP 0 rfl (by decide +kernel) rfl dX11_told_15 ?_
  refine lv_iload_n hx hb dX11_told_16 rfl (lv_at hl 5 rfl) ?_
  refine lv_i2l (v := 5) hx hb dX11_told_17 (by decide +kernel) ?_
  refine lv_lrem hx hb dX11_told_18 (by decide +kernel) (sv_l (v := 0) (by decide +kernel) ?_)
  refine lv_l2i (v := 0) hx hb dX11_told_19 (by decide +kernel) ?_
  refine lv_istore (lv' := [(5, .int 0), (4, .int 7), (3, .int 15650), (0, .ref h1), (1, .ref h0), (2, .int 5)]) hx hb dX11_told_20 hl (by decide) rfl (fun ls hl => ?_)
  refine lv_iload_n hx hb dX11_told_22 rfl (lv_at hl 5 rfl) ?_
  refine lv_iload_n hx hb dX11_told_23 rfl (lv_at hl 2 rfl) ?_
  refine lv_imul hx hb dX11_told_24 (sv_i (v := 78250) (by decide +kernel) ?_)
  refine lv_iload hx hb dX11_told_25 (lv_at hl 0 rfl) ?_
  refine lv_if_ge (tgt := 37) hx hb dX11_told_27 (by decide) (fun _ => ?_) (fun cc => absurd (by decide +kernel) cc)
  refine lv_iload hx hb dX11_told_37 (lv_at hl 0 rfl) ?_
  refine lv_iadd hx hb dX11_told_39 (sv_i (v := 78250) (by decide +kernel) ?_)
  refine lv_istore_n (lv' := [(3, .int 78250), (5, .int 0), (4, .int 7), (0, .ref h1), (1, .ref h0), (2, .int 5)]) hx hb dX11_told_40 rfl hl (by decide) rfl (fun ls hl => ?_)
  refine lv_iinc (v := 8) (lv' := [(4, .int 8), (3, .int 78250), (5, .int 0), (0, .ref h1), (1, .ref h0), (2, .int 5)]) hx hb dX11_told_41 hl (k := 2) rfl (by decide) (by decide) rfl (fun ls hl => ?_)
  refine lv_goto (tgt := 5) hx hb dX11_told_44 (by decide) ?_
  refine lv_iload hx hb dX11_told_5 (lv_at hl 0 rfl) ?_
  refine lv_bipush (v := 9) hx hb dX11_told_7 (by decide) ?_
  refine lv_icmp_ge (tgt := 47) hx hb dX11_told_9 (by decide) (fun cc => absurd cc (by decide +kernel)) (fun _ => ?_)
  refine lv_aload_n hx hb dX11_told_12 rfl (lv_at hl 4 rfl) ?_
  refine lv_iload hx hb dX11_told_13 (lv_at hl 0 rfl) ?_
  refine ld_l (j := 8) (v := 0) hx hb hK hP 0 rfl (by decide +kernel) rfl dX11_told_15 ?_
  refine lv_iload_n hx hb dX11_told_16 rfl (lv_at hl 5 rfl) ?_
  refine lv_i2l (v := 5) hx hb dX11_told_17 (by decide +kernel) ?_
  refine lv_lrem hx hb dX11_told_18 (by decide +kernel) (sv_l (v := 0) (by decide +kernel) ?_)
  refine lv_l2i (v := 0) hx hb dX11_told_19 (by decide +kernel) ?_
  refine lv_istore (lv' := [(5, .int 0), (4, .int 8), (3, .int 78250), (0, .ref h1), (1, .ref h0), (2, .int 5)]) hx hb dX11_told_20 hl (by decide) rfl (fun ls hl => ?_)
  refine lv_iload_n hx hb dX11_told_22 rfl (lv_at hl 5 rfl) ?_
  refine lv_iload_n hx hb dX11_told_23 rfl (lv_at hl 2 rfl) ?_
  refine lv_imul hx hb dX11_told_24 (sv_i (v := 391250) (by decide +kernel) ?_)
  refine lv_iload hx hb dX11_told_25 (lv_at hl 0 rfl) ?_
  refine lv_if_ge (tgt := 37) hx hb dX11_told_27 (by decide) (fun _ => ?_) (fun cc => absurd (by decide +kernel) cc)
  refine lv_iload hx hb dX11_told_37 (lv_at hl 0 rfl) ?_
  refine lv_iadd hx hb dX11_told_39 (sv_i (v := 391250) (by decide +kernel) ?_)
  refine lv_istore_n (lv' := [(3, .int 391250), (5, .int 0), (4, .int 8), (0, .ref h1), (1, .ref h0), (2, .int 5)]) hx hb dX11_told_40 rfl hl (by decide) rfl (fun ls hl => ?_)
  refine lv_iinc (v := 9) (lv' := [(4, .int 9), (3, .int 391250), (5, .int 0), (0, .ref h1), (1, .ref h0), (2, .int 5)]) hx hb dX11_told_41 hl (k := 2) rfl (by decide) (by decide) rfl (fun ls hl => ?_)
  refine lv_goto (tgt := 5) hx hb dX11_told_44 (by decide) ?_
  refine lv_iload hx hb dX11_told_5 (lv_at hl 0 rfl) ?_
  refine lv_bipush (v := 9) hx hb dX11_told_7 (by decide) ?_
  refine lv_icmp_ge (tgt := 47) hx hb dX11_told_9 (by decide) (fun _ => ?_) (fun cc => absurd (by decide +kernel) cc)
  refine lv_iload_n hx hb dX11_told_47 rfl (lv_at hl 1 rfl) ?_
  exact retI (v := 391250) hx hb hr hlocks hS (⟨rfl, hP, hD⟩) dX11_told_48
abbrev BX11_told_4 (D : va_G) (k : Nat → ClassId) (h0 h1 : Nat) (A : Nat → Prop) (r : Int32) (H : Heap) : Prop := 5767202 = r ∧ va_P D cl0 [(h0, .inl (k 1, 9, .inr (.inl (tL [1, 0, 0, 0, 1, 0, 0, 0, 0] 0))))] H ∧ va_D A [(h0, .inl (k 1, 9, .inr (.inl (tL [1, 0, 0, 0, 1, 0, 0, 0, 0] 0))))]
set_option maxHeartbeats 4000000 in
set_option maxRecDepth 100000 in
theorem cX11_told_4 (l : Launch) (D : va_G) (k : Nat → ClassId) (sz : Nat) (h0 h1 : Nat) : Met l yX11_told (Cond.code yX11_told cX11_told 6 (some .int) :: uw) ({ frames := 0, cells := 0, slots := 0, locals := 0 }) (pC D k sz [.ref h1, .ref h0, .int 7] [(h0, .inl (k 1, 9, .inr (.inl (tL [1, 0, 0, 0, 1, 0, 0, 0, 0] 0))))]) (qI (BX11_told_4 D k h0 h1 (va_A [(h0, .inl (k 1, 9, .inr (.inl (tL [1, 0, 0, 0, 1, 0, 0, 0, 0] 0))))] sz)) (va_A [(h0, .inl (k 1, 9, .inr (.inl (tL [1, 0, 0, 0, 1, 0, 0, 0, 0] 0))))] sz)) 0 0 (va_A [(h0, .inl (k 1, 9, .inr (.inl (tL [1, 0, 0, 0, 1, 0, 0, 0, 0] 0))))] sz) := by
  refine begin_ (Qc := fun A => qI (BX11_told_4 D k h0 h1 A) A) (by decide) (Nat.le_of_ble_eq_true rfl) ?_
  intro p e s m below meth c ls A hx hb hr hml hown hlocks hin hU hK hsz hP hD hS hA hl
  have hl : lv_has ls 6 [(0, .ref h1), (1, .ref h0), (2, .int 7)] := hl
  clear hsz
  refine lv_iconst (v := 0) hx hb dX11_told_0 (by decide) ?_
  refine lv_istore_n (lv' := [(3, .int 0), (0, .ref h1), (1, .ref h0), (2, .int 7)]) hx hb dX11_told_1 rfl hl (by decide) rfl (fun ls hl => ?_)
  refine lv_iconst (v := 0) hx hb dX11_told_2 (by decide) ?_
  refine lv_istore (lv' := [(4, .int 0), (3, .int 0), (0, .ref h1), (1, .ref h0), (2, .int 7)]) hx hb dX11_told_3 hl (by decide) rfl (fun ls hl => ?_)
  refine lv_iload hx hb dX11_told_5 (lv_at hl 0 rfl) ?_
  refine lv_bipush (v := 9) hx hb dX11_told_7 (by decide) ?_
  refine lv_icmp_ge (tgt := 47) hx hb dX11_told_9 (by decide) (fun cc => absurd cc (by decide +kernel)) (fun _ => ?_)
  refine lv_aload_n hx hb dX11_told_12 rfl (lv_at hl 3 rfl) ?_
  refine lv_iload hx hb dX11_told_13 (lv_at hl 0 rfl) ?_
  refine ld_l (j := 0) (v := 1) hx hb hK hP 0 rfl (by decide +kernel) rfl dX11_told_15 ?_
  refine lv_iload_n hx hb dX11_told_16 rfl (lv_at hl 4 rfl) ?_
  refine lv_i2l (v := 7) hx hb dX11_told_17 (by decide +kernel) ?_
  refine lv_lrem hx hb dX11_told_18 (by decide +kernel) (sv_l (v := 1) (by decide +kernel) ?_)
  refine lv_l2i (v := 1) hx hb dX11_told_19 (by decide +kernel) ?_
  refine lv_istore (lv' := [(5, .int 1), (4, .int 0), (3, .int 0), (0, .ref h1), (1, .ref h0), (2, .int 7)]) hx hb dX11_told_20 hl (by decide) rfl (fun ls hl => ?_)
  refine lv_iload_n hx hb dX11_told_22 rfl (lv_at hl 5 rfl) ?_
  refine lv_iload_n hx hb dX11_told_23 rfl (lv_at hl 2 rfl) ?_
  refine lv_imul hx hb dX11_told_24 (sv_i (v := 0) (by decide +kernel) ?_)
  refine lv_iload hx hb dX11_told_25 (lv_at hl 0 rfl) ?_
  refine lv_if_ge (tgt := 37) hx hb dX11_told_27 (by decide) (fun _ => ?_) (fun cc => absurd (by decide +kernel) cc)
  refine lv_iload hx hb dX11_told_37 (lv_at hl 0 rfl) ?_
  refine lv_iadd hx hb dX11_told_39 (sv_i (v := 1) (by decide +kernel) ?_)
  refine lv_istore_n (lv' := [(3, .int 1), (5, .int 1), (4, .int 0), (0, .ref h1), (1, .ref h0), (2, .int 7)]) hx hb dX11_told_40 rfl hl (by decide) rfl (fun ls hl => ?_)
  refine lv_iinc (v := 1) (lv' := [(4, .int 1), (3, .int 1), (5, .int 1), (0, .ref h1), (1, .ref h0), (2, .int 7)]) hx hb dX11_told_41 hl (k := 2) rfl (by decide) (by decide) rfl (fun ls hl => ?_)
  refine lv_goto (tgt := 5) hx hb dX11_told_44 (by decide) ?_
  refine lv_iload hx hb dX11_told_5 (lv_at hl 0 rfl) ?_
  refine lv_bipush (v := 9) hx hb dX11_told_7 (by decide) ?_
  refine lv_icmp_ge (tgt := 47) hx hb dX11_told_9 (by decide) (fun cc => absurd cc (by decide +kernel)) (fun _ => ?_)
  refine lv_aload_n hx hb dX11_told_12 rfl (lv_at hl 4 rfl) ?_
  refine lv_iload hx hb dX11_told_13 (lv_at hl 0 rfl) ?_
  refine ld_l (j := 1) (v := 0) hx hb hK hP 0 rfl (by decide +kernel) rfl dX11_told_15 ?_
  refine lv_iload_n hx hb dX11_told_16 rfl (lv_at hl 5 rfl) ?_
  refine lv_i2l (v := 7) hx hb dX11_told_17 (by decide +kernel) ?_
  refine lv_lrem hx hb dX11_told_18 (by decide +kernel) (sv_l (v := 0) (by decide +kernel) ?_)
  refine lv_l2i (v := 0) hx hb dX11_told_19 (by decide +kernel) ?_
  refine lv_istore (lv' := [(5, .int 0), (4, .int 1), (3, .int 1), (0, .ref h1), (1, .ref h0), (2, .int 7)]) hx hb dX11_told_20 hl (by decide) rfl (fun ls hl => ?_)
  refine lv_iload_n hx hb dX11_told_22 rfl (lv_at hl 5 rfl) ?_
  refine lv_iload_n hx hb dX11_told_23 rfl (lv_at hl 2 rfl) ?_
  refine lv_imul hx hb dX11_told_24 (sv_i (v := 7) (by decide +kernel) ?_)
  refine lv_iload hx hb dX11_told_25 (lv_at hl 0 rfl) ?_
  refine lv_if_ge (tgt := 37) hx hb dX11_told_27 (by decide) (fun _ => ?_) (fun cc => absurd (by decide +kernel) cc)
  refine lv_iload hx hb dX11_told_37 (lv_at hl 0 rfl) ?_
  refine lv_iadd hx hb dX11_told_39 (sv_i (v := 7) (by decide +kernel) ?_)
  refine lv_istore_n (lv' := [(3, .int 7), (5, .int 0), (4, .int 1), (0, .ref h1), (1, .ref h0), (2, .int 7)]) hx hb dX11_told_40 rfl hl (by decide) rfl (fun ls hl => ?_)
  refine lv_iinc (v := 2) (lv' := [(4, .int 2), (3, .int 7), (5, .int 0), (0, .ref h1), (1, .ref h0), (2, .int 7)]) hx hb dX11_told_41 hl (k := 2) rfl (by decide) (by decide) rfl (fun ls hl => ?_)
  refine lv_goto (tgt := 5) hx hb dX11_told_44 (by decide) ?_
  refine lv_iload hx hb dX11_told_5 (lv_at hl 0 rfl) ?_
  refine lv_bipush (v := 9) hx hb dX11_told_7 (by decide) ?_
  refine lv_icmp_ge (tgt := 47) hx hb dX11_told_9 (by decide) (fun cc => absurd cc (by decide +kernel)) (fun _ => ?_)
  refine lv_aload_n hx hb dX11_told_12 rfl (lv_at hl 4 rfl) ?_
  refine lv_iload hx hb dX11_told_13 (lv_at hl 0 rfl) ?_
  refine ld_l (j := 2) (v := 0) hx hb hK hP 0 rfl (by decide +kernel) rfl dX11_told_15 ?_
  refine lv_iload_n hx hb dX11_told_16 rfl (lv_at hl 5 rfl) ?_
  refine lv_i2l (v := 7) hx hb dX11_told_17 (by decide +kernel) ?_
  refine lv_lrem hx hb dX11_told_18 (by decide +kernel) (sv_l (v := 0) (by decide +kernel) ?_)
  refine lv_l2i (v := 0) hx hb dX11_told_19 (by decide +kernel) ?_
  refine lv_istore (lv' := [(5, .int 0), (4, .int 2), (3, .int 7), (0, .ref h1), (1, .ref h0), (2, .int 7)]) hx hb dX11_told_20 hl (by decide) rfl (fun ls hl => ?_)
  refine lv_iload_n hx hb dX11_told_22 rfl (lv_at hl 5 rfl) ?_
  refine lv_iload_n hx hb dX11_told_23 rfl (lv_at hl 2 rfl) ?_
  refine lv_imul hx hb dX11_told_24 (sv_i (v := 49) (by decide +kernel) ?_)
  refine lv_iload hx hb dX11_told_25 (lv_at hl 0 rfl) ?_
  refine lv_if_ge (tgt := 37) hx hb dX11_told_27 (by decide) (fun _ => ?_) (fun cc => absurd (by decide +kernel) cc)
  refine lv_iload hx hb dX11_told_37 (lv_at hl 0 rfl) ?_
  refine lv_iadd hx hb dX11_told_39 (sv_i (v := 49) (by decide +kernel) ?_)
  refine lv_istore_n (lv' := [(3, .int 49), (5, .int 0), (4, .int 2), (0, .ref h1), (1, .ref h0), (2, .int 7)]) hx hb dX11_told_40 rfl hl (by decide) rfl (fun ls hl => ?_)
  refine lv_iinc (v := 3) (lv' := [(4, .int 3), (3, .int 49), (5, .int 0), (0, .ref h1), (1, .ref h0), (2, .int 7)]) hx hb dX11_told_41 hl (k := 2) rfl (by decide) (by decide) rfl (fun ls hl => ?_)
  refine lv_goto (tgt := 5) hx hb dX11_told_44 (by decide) ?_
  refine lv_iload hx hb dX11_told_5 (lv_at hl 0 rfl) ?_
  refine lv_bipush (v := 9) hx hb dX11_told_7 (by decide) ?_
  refine lv_icmp_ge (tgt := 47) hx hb dX11_told_9 (by decide) (fun cc => absurd cc (by decide +kernel)) (fun _ => ?_)
  refine lv_aload_n hx hb dX11_told_12 rfl (lv_at hl 4 rfl) ?_
  refine lv_iload hx hb dX11_told_13 (lv_at hl 0 rfl) ?_
  refine ld_l (j := 3) (v := 0) hx hb hK hP 0 rfl (by decide +kernel) rfl dX11_told_15 ?_
  refine lv_iload_n hx hb dX11_told_16 rfl (lv_at hl 5 rfl) ?_
  refine lv_i2l (v := 7) hx hb dX11_told_17 (by decide +kernel) ?_
  refine lv_lrem hx hb dX11_told_18 (by decide +kernel) (sv_l (v := 0) (by decide +kernel) ?_)
  refine lv_l2i (v := 0) hx hb dX11_told_19 (by decide +kernel) ?_
  refine lv_istore (lv' := [(5, .int 0), (4, .int 3), (3, .int 49), (0, .ref h1), (1, .ref h0), (2, .int 7)]) hx hb dX11_told_20 hl (by decide) rfl (fun ls hl => ?_)
  refine lv_iload_n hx hb dX11_told_22 rfl (lv_at hl 5 rfl) ?_
  refine lv_iload_n hx hb dX11_told_23 rfl (lv_at hl 2 rfl) ?_
  refine lv_imul hx hb dX11_told_24 (sv_i (v := 343) (by decide +kernel) ?_)
  refine lv_iload hx hb dX11_told_25 (lv_at hl 0 rfl) ?_
  refine lv_if_ge (tgt := 37) hx hb dX11_told_27 (by decide) (fun _ => ?_) (fun cc => absurd (by decide +kernel) cc)
  refine lv_iload hx hb dX11_told_37 (lv_at hl 0 rfl) ?_
  refine lv_iadd hx hb dX11_told_39 (sv_i (v := 343) (by decide +kernel) ?_)
  refine lv_istore_n (lv' := [(3, .int 343), (5, .int 0), (4, .int 3), (0, .ref h1), (1, .ref h0), (2, .int 7)]) hx hb dX11_told_40 rfl hl (by decide) rfl (fun ls hl => ?_)
  refine lv_iinc (v := 4) (lv' := [(4, .int 4), (3, .int 343), (5, .int 0), (0, .ref h1), (1, .ref h0), (2, .int 7)]) hx hb dX11_told_41 hl (k := 2) rfl (by decide) (by decide) rfl (fun ls hl => ?_)
  refine lv_goto (tgt := 5) hx hb dX11_told_44 (by decide) ?_
  refine lv_iload hx hb dX11_told_5 (lv_at hl 0 rfl) ?_
  refine lv_bipush (v := 9) hx hb dX11_told_7 (by decide) ?_
  refine lv_icmp_ge (tgt := 47) hx hb dX11_told_9 (by decide) (fun cc => absurd cc (by decide +kernel)) (fun _ => ?_)
  refine lv_aload_n hx hb dX11_told_12 rfl (lv_at hl 4 rfl) ?_
  refine lv_iload hx hb dX11_told_13 (lv_at hl 0 rfl) ?_
  refine ld_l (j := 4) (v := 1) hx hb hK hP 0 rfl (by decide +kernel) rfl dX11_told_15 ?_
  refine lv_iload_n hx hb dX11_told_16 rfl (lv_at hl 5 rfl) ?_
  refine lv_i2l (v := 7) hx hb dX11_told_17 (by decide +kernel) ?_
  refine lv_lrem hx hb dX11_told_18 (by decide +kernel) (sv_l (v := 1) (by decide +kernel) ?_)
  refine lv_l2i (v := 1) hx hb dX11_told_19 (by decide +kernel) ?_
  refine lv_istore (lv' := [(5, .int 1), (4, .int 4), (3, .int 343), (0, .ref h1), (1, .ref h0), (2, .int 7)]) hx hb dX11_told_20 hl (by decide) rfl (fun ls hl => ?_)
  refine lv_iload_n hx hb dX11_told_22 rfl (lv_at hl 5 rfl) ?_
  refine lv_iload_n hx hb dX11_told_23 rfl (lv_at hl 2 rfl) ?_
  refine lv_imul hx hb dX11_told_24 (sv_i (v := 2401) (by decide +kernel) ?_)
  refine lv_iload hx hb dX11_told_25 (lv_at hl 0 rfl) ?_
  refine lv_if_ge (tgt := 37) hx hb dX11_told_27 (by decide) (fun _ => ?_) (fun cc => absurd (by decide +kernel) cc)
  refine lv_iload hx hb dX11_told_37 (lv_at hl 0 rfl) ?_
  refine lv_iadd hx hb dX11_told_39 (sv_i (v := 2402) (by decide +kernel) ?_)
  refine lv_istore_n (lv' := [(3, .int 2402), (5, .int 1), (4, .int 4), (0, .ref h1), (1, .ref h0), (2, .int 7)]) hx hb dX11_told_40 rfl hl (by decide) rfl (fun ls hl => ?_)
  refine lv_iinc (v := 5) (lv' := [(4, .int 5), (3, .int 2402), (5, .int 1), (0, .ref h1), (1, .ref h0), (2, .int 7)]) hx hb dX11_told_41 hl (k := 2) rfl (by decide) (by decide) rfl (fun ls hl => ?_)
  refine lv_goto (tgt := 5) hx hb dX11_told_44 (by decide) ?_
  refine lv_iload hx hb dX11_told_5 (lv_at hl 0 rfl) ?_
  refine lv_bipush (v := 9) hx hb dX11_told_7 (by decide) ?_
  refine lv_icmp_ge (tgt := 47) hx hb dX11_told_9 (by decide) (fun cc => absurd cc (by decide +kernel)) (fun _ => ?_)
  refine lv_aload_n hx hb dX11_told_12 rfl (lv_at hl 4 rfl) ?_
  refine lv_iload hx hb dX11_told_13 (lv_at hl 0 rfl) ?_
  refine ld_l (j := 5) (v := 0) hx hb hK hP 0 rfl (by decide +kernel) rfl dX11_told_15 ?_
  refine lv_iload_n hx hb dX11_told_16 rfl (lv_at hl 5 rfl) ?_
  refine lv_i2l (v := 7) hx hb dX11_told_17 (by decide +kernel) ?_
  refine lv_lrem hx hb dX11_told_18 (by decide +kernel) (sv_l (v := 0) (by decide +kernel) ?_)
  refine lv_l2i (v := 0) hx hb dX11_told_19 (by decide +kernel) ?_
  refine lv_istore (lv' := [(5, .int 0), (4, .int 5), (3, .int 2402), (0, .ref h1), (1, .ref h0), (2, .int 7)]) hx hb dX11_told_20 hl (by decide) rfl (fun ls hl => ?_)
  refine lv_iload_n hx hb dX11_told_22 rfl (lv_at hl 5 rfl) ?_
  refine lv_iload_n hx hb dX11_told_23 rfl (lv_at hl 2 rfl) ?_
  refine lv_imul hx hb dX11_told_24 (sv_i (v := 16814) (by decide +kernel) ?_)
  refine lv_iload hx hb dX11_told_25 (lv_at hl 0 rfl) ?_
  refine lv_if_ge (tgt := 37) hx hb dX11_told_27 (by decide) (fun _ => ?_) (fun cc => absurd (by decide +kernel) cc)
  refine lv_iload hx hb dX11_told_37 (lv_at hl 0 rfl) ?_
  refine lv_iadd hx hb dX11_told_39 (sv_i (v := 16814) (by decide +kernel) ?_)
  refine lv_istore_n (lv' := [(3, .int 16814), (5, .int 0), (4, .int 5), (0, .ref h1), (1, .ref h0), (2, .int 7)]) hx hb dX11_told_40 rfl hl (by decide) rfl (fun ls hl => ?_)
  refine lv_iinc (v := 6) (lv' := [(4, .int 6), (3, .int 16814), (5, .int 0), (0, .ref h1), (1, .ref h0), (2, .int 7)]) hx hb dX11_told_41 hl (k := 2) rfl (by decide) (by decide) rfl (fun ls hl => ?_)
  refine lv_goto (tgt := 5) hx hb dX11_told_44 (by decide) ?_
  refine lv_iload hx hb dX11_told_5 (lv_at hl 0 rfl) ?_
  refine lv_bipush (v := 9) hx hb dX11_told_7 (by decide) ?_
  refine lv_icmp_ge (tgt := 47) hx hb dX11_told_9 (by decide) (fun cc => absurd cc (by decide +kernel)) (fun _ => ?_)
  refine lv_aload_n hx hb dX11_told_12 rfl (lv_at hl 4 rfl) ?_
  refine lv_iload hx hb dX11_told_13 (lv_at hl 0 rfl) ?_
  refine ld_l (j := 6) (v := 0) hx hb hK hP 0 rfl (by decide +kernel) rfl dX11_told_15 ?_
  refine lv_iload_n hx hb dX11_told_16 rfl (lv_at hl 5 rfl) ?_
  refine lv_i2l (v := 7) hx hb dX11_told_17 (by decide +kernel) ?_
  refine lv_lrem hx hb dX11_told_18 (by decide +kernel) (sv_l (v := 0) (by decide +kernel) ?_)
  refine lv_l2i (v := 0) hx hb dX11_told_19 (by decide +kernel) ?_
  refine lv_istore (lv' := [(5, .int 0), (4, .int 6), (3, .int 16814), (0, .ref h1), (1, .ref h0), (2, .int 7)]) hx hb dX11_told_20 hl (by decide) rfl (fun ls hl => ?_)
  refine lv_iload_n hx hb dX11_told_22 rfl (lv_at hl 5 rfl) ?_
  refine lv_iload_n hx hb dX11_told_23 rfl (lv_at hl 2 rfl) ?_
  refine lv_imul hx hb dX11_told_24 (sv_i (v := 117698) (by decide +kernel) ?_)
  refine lv_iload hx hb dX11_told_25 (lv_at hl 0 rfl) ?_
  refine lv_if_ge (tgt := 37) hx hb dX11_told_27 (by decide) (fun _ => ?_) (fun cc => absurd (by decide +kernel) cc)
  refine lv_iload hx hb dX11_told_37 (lv_at hl 0 rfl) ?_
  refine lv_iadd hx hb dX11_told_39 (sv_i (v := 117698) (by decide +kernel) ?_)
  refine lv_istore_n (lv' := [(3, .int 117698), (5, .int 0), (4, .int 6), (0, .ref h1), (1, .ref h0), (2, .int 7)]) hx hb dX11_told_40 rfl hl (by decide) rfl (fun ls hl => ?_)
  refine lv_iinc (v := 7) (lv' := [(4, .int 7), (3, .int 117698), (5, .int 0), (0, .ref h1), (1, .ref h0), (2, .int 7)]) hx hb dX11_told_41 hl (k := 2) rfl (by decide) (by decide) rfl (fun ls hl => ?_)
  refine lv_goto (tgt := 5) hx hb dX11_told_44 (by decide) ?_
  refine lv_iload hx hb dX11_told_5 (lv_at hl 0 rfl) ?_
  refine lv_bipush (v := 9) hx hb dX11_told_7 (by decide) ?_
  refine lv_icmp_ge (tgt := 47) hx hb dX11_told_9 (by decide) (fun cc => absurd cc (by decide +kernel)) (fun _ => ?_)
  refine lv_aload_n hx hb dX11_told_12 rfl (lv_at hl 4 rfl) ?_
  refine lv_iload hx hb dX11_told_13 (lv_at hl 0 rfl) ?_
  refine ld_l (j := 7) (v := 0) hx hb hK hP 0 rfl (by decide +kernel) rfl dX11_told_15 ?_
  refine lv_iload_n hx hb dX11_told_16 rfl (lv_at hl 5 rfl) ?_
  refine lv_i2l (v := 7) hx hb dX11_told_17 (by decide +kernel) ?_
  refine lv_lrem hx hb dX11_told_18 (by decide +kernel) (sv_l (v := 0) (by decide +kernel) ?_)
  refine lv_l2i (v := 0) hx hb dX11_told_19 (by decide +kernel) ?_
  refine lv_istore (lv' := [(5, .int 0), (4, .int 7), (3, .int 117698), (0, .ref h1), (1, .ref h0), (2, .int 7)]) hx hb dX11_told_20 hl (by decide) rfl (fun ls hl => ?_)
  refine lv_iload_n hx hb dX11_told_22 rfl (lv_at hl 5 rfl) ?_
  refine lv_iload_n hx hb dX11_told_23 rfl (lv_at hl 2 rfl) ?_
  refine lv_imul hx hb dX11_told_24 (sv_i (v := 823886) (by decide +kernel) ?_)
  refine lv_iload hx hb dX11_told_25 (lv_at hl 0 rfl) ?_
  refine lv_if_ge (tgt := 37) hx hb dX11_told_27 (by decide) (fun _ => ?_) (fun cc => absurd (by decide +kernel) cc)
  refine lv_iload hx hb dX11_told_37 (lv_at hl 0 rfl) ?_
  refine lv_iadd hx hb dX11_told_39 (sv_i (v := 823886) (by decide +kernel) ?_)
  refine lv_istore_n (lv' := [(3, .int 823886), (5, .int 0), (4, .int 7), (0, .ref h1), (1, .ref h0), (2, .int 7)]) hx hb dX11_told_40 rfl hl (by decide) rfl (fun ls hl => ?_)
  refine lv_iinc (v := 8) (lv' := [(4, .int 8), (3, .int 823886), (5, .int 0), (0, .ref h1), (1, .ref h0), (2, .int 7)]) hx hb dX11_told_41 hl (k := 2) rfl (by decide) (by decide) rfl (fun ls hl => ?_)
  refine lv_goto (tgt := 5) hx hb dX11_told_44 (by decide) ?_
  refine lv_iload hx hb dX11_told_5 (lv_at hl 0 rfl) ?_
  refine lv_bipush (v := 9) hx hb dX11_told_7 (by decide) ?_
  refine lv_icmp_ge (tgt := 47) hx hb dX11_told_9 (by decide) (fun cc => absurd cc (by decide +kernel)) (fun _ => ?_)
  refine lv_aload_n hx hb dX11_told_12 rfl (lv_at hl 4 rfl) ?_
  refine lv_iload hx hb dX11_told_13 (lv_at hl 0 rfl) ?_
  refine ld_l (j := 8) (v := 0) hx hb hK hP 0 rfl (by decide +kernel) rfl dX11_told_15 ?_
  refine lv_iload_n hx hb dX11_told_16 rfl (lv_at hl 5 rfl) ?_
  refine lv_i2l (v := 7) hx hb dX11_told_17 (by decide +kernel) ?_
  refine lv_lrem hx hb dX11_told_18 (by decide +kernel) (sv_l (v := 0) (by decide +kernel) ?_)
  refine lv_l2i (v := 0) hx hb dX11_told_19 (by decide +kernel) ?_
  refine lv_istore (lv' := [(5, .int 0), (4, .int 8), (3, .int 823886), (0, .ref h1), (1, .ref h0), (2, .int 7)]) hx hb dX11_told_20 hl (by decide) rfl (fun ls hl => ?_)
  refine lv_iload_n hx hb dX11_told_22 rfl (lv_at hl 5 rfl) ?_
  refine lv_iload_n hx hb dX11_told_23 rfl (lv_at hl 2 rfl) ?_
  refine lv_imul hx hb dX11_told_24 (sv_i (v := 5767202) (by decide +kernel) ?_)
  refine lv_iload hx hb dX11_told_25 (lv_at hl 0 rfl) ?_
  refine lv_if_ge (tgt := 37) hx hb dX11_told_27 (by decide) (fun _ => ?_) (fun cc => absurd (by decide +kernel) cc)
  refine lv_iload hx hb dX11_told_37 (lv_at hl 0 rfl) ?_
  refine lv_iadd hx hb dX11_told_39 (sv_i (v := 5767202) (by decide +kernel) ?_)
  refine lv_istore_n (lv' := [(3, .int 5767202), (5, .int 0), (4, .int 8), (0, .ref h1), (1, .ref h0), (2, .int 7)]) hx hb dX11_told_40 rfl hl (by decide) rfl (fun ls hl => ?_)
  refine lv_iinc (v := 9) (lv' := [(4, .int 9), (3, .int 5767202), (5, .int 0), (0, .ref h1), (1, .ref h0), (2, .int 7)]) hx hb dX11_told_41 hl (k := 2) rfl (by decide) (by decide) rfl (fun ls hl => ?_)
  refine lv_goto (tgt := 5) hx hb dX11_told_44 (by decide) ?_
  refine lv_iload hx hb dX11_told_5 (lv_at hl 0 rfl) ?_
  refine lv_bipush (v := 9) hx hb dX11_told_7 (by decide) ?_
  refine lv_icmp_ge (tgt := 47) hx hb dX11_told_9 (by decide) (fun _ => ?_) (fun cc => absurd (by decide +kernel) cc)
  refine lv_iload_n hx hb dX11_told_47 rfl (lv_at hl 1 rfl) ?_
  exact retI (v := 5767202) hx hb hr hlocks hS (⟨rfl, hP, hD⟩) dX11_told_48
abbrev BX11_image_1 (D : va_G) (k : Nat → ClassId) (a0 a4 a14 a1 a2 a3 a5 a6 a7 a8 a9 a10 a11 a12 a13 a15 a16 a17 a18 a19 a20 a21 : Nat) (x0 : Int32) (A : Nat → Prop) (r : Int32) (H : Heap) : Prop := r = F_image x0
set_option maxHeartbeats 4000000 in
set_option maxRecDepth 100000 in
theorem cX11_image_1 (l : Launch) (D : va_G) (k : Nat → ClassId) (sz : Nat) (a0 a4 a14 a1 a2 a3 a5 a6 a7 a8 a9 a10 a11 a12 a13 a15 a16 a17 a18 a19 a20 a21 : Nat) (x0 : Int32) : Met l yX11_image (Cond.code yX11_image cX11_image 8 (some .int) :: uw) ({ frames := 2, cells := 0, slots := 0, locals := 44 }) (pC D k sz [.ref a0, .int x0] [(a0, .inr (8, [.int 2, .int 0, .int 1, .int 0, .int 0, .int 0, .ref a1, .ref a2, .int 0, .int 0, .ref a3, .ref a4, .ref a5, .ref a6, .ref a7, .ref a8, .ref a9, .int 0, .int 0, .int 0, .ref a10, .ref a11, .ref a12, .ref a13, .int 0, .int 0, .ref a14, .ref a15, .ref a16, .ref a17, .int 0, .int 0, .ref a18, .ref a19, .ref a20, .ref a21])), (a4, .inl (k 1, 9, .inr (.inl (tL [] 0)))), (a14, .inl (k 0, 400, .inl (tI [] 0)))]) (qI (BX11_image_1 D k a0 a4 a14 a1 a2 a3 a5 a6 a7 a8 a9 a10 a11 a12 a13 a15 a16 a17 a18 a19 a20 a21 x0 (va_A [(a0, .inr (8, [.int 2, .int 0, .int 1, .int 0, .int 0, .int 0, .ref a1, .ref a2, .int 0, .int 0, .ref a3, .ref a4, .ref a5, .ref a6, .ref a7, .ref a8, .ref a9, .int 0, .int 0, .int 0, .ref a10, .ref a11, .ref a12, .ref a13, .int 0, .int 0, .ref a14, .ref a15, .ref a16, .ref a17, .int 0, .int 0, .ref a18, .ref a19, .ref a20, .ref a21])), (a4, .inl (k 1, 9, .inr (.inl (tL [] 0)))), (a14, .inl (k 0, 400, .inl (tI [] 0)))] sz)) (va_A [(a0, .inr (8, [.int 2, .int 0, .int 1, .int 0, .int 0, .int 0, .ref a1, .ref a2, .int 0, .int 0, .ref a3, .ref a4, .ref a5, .ref a6, .ref a7, .ref a8, .ref a9, .int 0, .int 0, .int 0, .ref a10, .ref a11, .ref a12, .ref a13, .int 0, .int 0, .ref a14, .ref a15, .ref a16, .ref a17, .int 0, .int 0, .ref a18, .ref a19, .ref a20, .ref a21])), (a4, .inl (k 1, 9, .inr (.inl (tL [] 0)))), (a14, .inl (k 0, 400, .inl (tI [] 0)))] sz)) 0 0 (va_A [(a0, .inr (8, [.int 2, .int 0, .int 1, .int 0, .int 0, .int 0, .ref a1, .ref a2, .int 0, .int 0, .ref a3, .ref a4, .ref a5, .ref a6, .ref a7, .ref a8, .ref a9, .int 0, .int 0, .int 0, .ref a10, .ref a11, .ref a12, .ref a13, .int 0, .int 0, .ref a14, .ref a15, .ref a16, .ref a17, .int 0, .int 0, .ref a18, .ref a19, .ref a20, .ref a21])), (a4, .inl (k 1, 9, .inr (.inl (tL [] 0)))), (a14, .inl (k 0, 400, .inl (tI [] 0)))] sz) := by
  refine begin_ (Qc := fun A => qI (BX11_image_1 D k a0 a4 a14 a1 a2 a3 a5 a6 a7 a8 a9 a10 a11 a12 a13 a15 a16 a17 a18 a19 a20 a21 x0 A) A) (by decide) (Nat.le_of_ble_eq_true rfl) ?_
  intro p e s m below meth c ls A hx hb hr hml hown hlocks hin hU hK hsz hP hD hS hA hl
  have hl : lv_has ls 8 [(0, .ref a0), (1, .int x0)] := hl
  clear hsz
  refine lv_iload_n hx hb dX11_image_0 rfl (lv_at hl 1 rfl) ?_
  refine cI (rS (As := [.int x0]) (rest := []) (wc := []) hx hb hml hown hU hK hP hD [] rfl (by decide) (cX11_isPrime_1 l D k _ (x0)) w1118 w1116 w1117 w72 hdX11_isPrime ⟨rfl, rfl⟩ ⟨Nat.le_of_ble_eq_true rfl, Nat.le_of_ble_eq_true rfl⟩ rfl hl.1 (Nat.le_of_ble_eq_true rfl) dX11_image_1 ⟨Nat.le_of_ble_eq_true rfl, Nat.le_of_ble_eq_true rfl⟩) hP hD hS hA (wr := [(a0, .inr (8, [.int 2, .int 0, .int 1, .int 0, .int 0, .int 0, .ref a1, .ref a2, .int 0, .int 0, .ref a3, .ref a4, .ref a5, .ref a6, .ref a7, .ref a8, .ref a9, .int 0, .int 0, .int 0, .ref a10, .ref a11, .ref a12, .ref a13, .int 0, .int 0, .ref a14, .ref a15, .ref a16, .ref a17, .int 0, .int 0, .ref a18, .ref a19, .ref a20, .ref a21])), (a4, .inl (k 1, 9, .inr (.inl (tL [] 0)))), (a14, .inl (k 0, 400, .inl (tI [] 0)))]) [] [0, 1, 2] rfl rfl (by decide) (by decide) (fun r1 H locs hB J hS => ?_)
  rcases hB with ⟨c_2, rfl, hP1, hD1⟩ | ⟨c_3, rfl, hP1, hD1⟩ | ⟨c_4, rfl, hP1, hD1⟩ | ⟨c_5, c_6, c_7, c_8, rfl, hP1, hD1⟩ | ⟨c_9, rfl, hP1, hD1⟩
  · skip
    obtain ⟨hP, hD⟩ := J _ hP1 hD1
    have hP : va_P D cl0 [(a0, .inr (8, [.int 2, .int 0, .int 1, .int 0, .int 0, .int 0, .ref a1, .ref a2, .int 0, .int 0, .ref a3, .ref a4, .ref a5, .ref a6, .ref a7, .ref a8, .ref a9, .int 0, .int 0, .int 0, .ref a10, .ref a11, .ref a12, .ref a13, .int 0, .int 0, .ref a14, .ref a15, .ref a16, .ref a17, .int 0, .int 0, .ref a18, .ref a19, .ref a20, .ref a21])), (a4, .inl (k 1, 9, .inr (.inl (tL [] 0)))), (a14, .inl (k 0, 400, .inl (tI [] 0)))] H := hP
    have hD : va_D A [(a0, .inr (8, [.int 2, .int 0, .int 1, .int 0, .int 0, .int 0, .ref a1, .ref a2, .int 0, .int 0, .ref a3, .ref a4, .ref a5, .ref a6, .ref a7, .ref a8, .ref a9, .int 0, .int 0, .int 0, .ref a10, .ref a11, .ref a12, .ref a13, .int 0, .int 0, .ref a14, .ref a15, .ref a16, .ref a17, .int 0, .int 0, .ref a18, .ref a19, .ref a20, .ref a21])), (a4, .inl (k 1, 9, .inr (.inl (tL [] 0)))), (a14, .inl (k 0, 400, .inl (tI [] 0)))] := hD
    subst c_2
    refine lv_if_ne (tgt := 9) hx hb dX11_image_4 (by decide) (fun _ => ?_) (fun cc => absurd cc (by decide +kernel))
    refine lv_aload_n hx hb dX11_image_9 rfl (lv_at hl 0 rfl) ?_
    refine lv_aload_n hx hb dX11_image_10 rfl (lv_at hl 0 rfl) ?_
    refine va_get (D := D) (ci := 8) (v := .ref a4) (C := RX11) (T := TX11) (N := 36) hx hb hU iX11 hown hK.1 hP 0 rfl rfl 11 (by decide) (hU _ w796) (fun _ h9 => h9) rfl dX11_image_11 ?_
    refine cV (rV (q0 := 0) (ci := 8) (As := [.ref a4]) (rest := []) (wc := [(a4, .inl (k 1, 9, .inr (.inl (tL [] 0)))), (a0, .inr (8, [.int 2, .int 0, .int 1, .int 0, .int 0, .int 0, .ref a1, .ref a2, .int 0, .int 0, .ref a3, .ref a4, .ref a5, .ref a6, .ref a7, .ref a8, .ref a9, .int 0, .int 0, .int 0, .ref a10, .ref a11, .ref a12, .ref a13, .int 0, .int 0, .ref a14, .ref a15, .ref a16, .ref a17, .int 0, .int 0, .ref a18, .ref a19, .ref a20, .ref a21]))]) hx hb hml hown hU hK hP hD rfl rfl [1, 0] rfl (by decide) (cX11_first_6 l D k _ a4 a0 a1 a2 a3 a5 a6 a7 a8 a9 a10 a11 a12 a13 a14 a15 a16 a17 a18 a19 a20 a21) w919 w916 w918 w28 w72 hdX11_first ⟨rfl, rfl⟩ ⟨Nat.le_of_ble_eq_true rfl, Nat.le_of_ble_eq_true rfl⟩ rfl hl.1 (Nat.le_of_ble_eq_true rfl) dX11_image_14 ⟨Nat.le_of_ble_eq_true rfl, Nat.le_of_ble_eq_true rfl⟩) hP hD hS hA (wr := [(a14, .inl (k 0, 400, .inl (tI [] 0)))]) [1, 0] [2] rfl rfl (by decide) (by decide) (fun H locs hB J hS => ?_)
    obtain ⟨hP1, hD1⟩ := hB
    obtain ⟨hP, hD⟩ := J _ hP1 hD1
    have hP : va_P D cl0 [(a14, .inl (k 0, 400, .inl (tI [] 0))), (a0, .inr (8, [.int 2, .int 0, .int 1, .int 0, .int 0, .int 0, .ref a1, .ref a2, .int 0, .int 0, .ref a3, .ref a4, .ref a5, .ref a6, .ref a7, .ref a8, .ref a9, .int 0, .int 0, .int 0, .ref a10, .ref a11, .ref a12, .ref a13, .int 0, .int 0, .ref a14, .ref a15, .ref a16, .ref a17, .int 0, .int 0, .ref a18, .ref a19, .ref a20, .ref a21])), (a4, .inl (k 1, 9, .inr (.inl (tL [1, 0, 0, 0, 1, 0, 0, 0, 0] 0))))] H := hP
    have hD : va_D A [(a14, .inl (k 0, 400, .inl (tI [] 0))), (a0, .inr (8, [.int 2, .int 0, .int 1, .int 0, .int 0, .int 0, .ref a1, .ref a2, .int 0, .int 0, .ref a3, .ref a4, .ref a5, .ref a6, .ref a7, .ref a8, .ref a9, .int 0, .int 0, .int 0, .ref a10, .ref a11, .ref a12, .ref a13, .int 0, .int 0, .ref a14, .ref a15, .ref a16, .ref a17, .int 0, .int 0, .ref a18, .ref a19, .ref a20, .ref a21])), (a4, .inl (k 1, 9, .inr (.inl (tL [1, 0, 0, 0, 1, 0, 0, 0, 0] 0))))] := hD
    refine lv_aload_n hx hb dX11_image_17 rfl (lv_at hl 0 rfl) ?_
    refine va_get (D := D) (ci := 8) (v := .ref a14) (C := RX11) (T := TX11) (N := 36) hx hb hU iX11 hown hK.1 hP 1 rfl rfl 26 (by decide) (hU _ w811) (fun _ h9 => h9) rfl dX11_image_18 ?_
    refine lv_iconst (v := 0) hx hb dX11_image_21 (by decide) ?_
    refine lv_aload_n hx hb dX11_image_22 rfl (lv_at hl 0 rfl) ?_
    refine lv_aload_n hx hb dX11_image_23 rfl (lv_at hl 0 rfl) ?_
    refine va_get (D := D) (ci := 8) (v := .ref a4) (C := RX11) (T := TX11) (N := 36) hx hb hU iX11 hown hK.1 hP 1 rfl rfl 11 (by decide) (hU _ w796) (fun _ h9 => h9) rfl dX11_image_24 ?_
    refine lv_iload_n hx hb dX11_image_27 rfl (lv_at hl 1 rfl) ?_
    refine cI (rV (q0 := 1) (ci := 8) (As := [.ref a4, .int 2]) (rest := [.int 0, .ref a14]) (wc := [(a4, .inl (k 1, 9, .inr (.inl (tL [1, 0, 0, 0, 1, 0, 0, 0, 0] 0))))]) hx hb hml hown hU hK hP hD rfl rfl [2] rfl (by decide) (cX11_told_1 l D k _ a4 a0) w1122 w1119 w1121 w55 w72 hdX11_told ⟨rfl, rfl⟩ ⟨Nat.le_of_ble_eq_true rfl, Nat.le_of_ble_eq_true rfl⟩ rfl hl.1 (Nat.le_of_ble_eq_true rfl) dX11_image_28 ⟨Nat.le_of_ble_eq_true rfl, Nat.le_of_ble_eq_true rfl⟩) hP hD hS hA (wr := [(a14, .inl (k 0, 400, .inl (tI [] 0))), (a0, .inr (8, [.int 2, .int 0, .int 1, .int 0, .int 0, .int 0, .ref a1, .ref a2, .int 0, .int 0, .ref a3, .ref a4, .ref a5, .ref a6, .ref a7, .ref a8, .ref a9, .int 0, .int 0, .int 0, .ref a10, .ref a11, .ref a12, .ref a13, .int 0, .int 0, .ref a14, .ref a15, .ref a16, .ref a17, .int 0, .int 0, .ref a18, .ref a19, .ref a20, .ref a21]))]) [2] [0, 1] rfl rfl (by decide) (by decide) (fun r11 H locs hB J hS => ?_)
    obtain ⟨rfl, hP1, hD1⟩ := hB
    obtain ⟨hP, hD⟩ := J _ hP1 hD1
    have hP : va_P D cl0 [(a14, .inl (k 0, 400, .inl (tI [] 0))), (a0, .inr (8, [.int 2, .int 0, .int 1, .int 0, .int 0, .int 0, .ref a1, .ref a2, .int 0, .int 0, .ref a3, .ref a4, .ref a5, .ref a6, .ref a7, .ref a8, .ref a9, .int 0, .int 0, .int 0, .ref a10, .ref a11, .ref a12, .ref a13, .int 0, .int 0, .ref a14, .ref a15, .ref a16, .ref a17, .int 0, .int 0, .ref a18, .ref a19, .ref a20, .ref a21])), (a4, .inl (k 1, 9, .inr (.inl (tL [1, 0, 0, 0, 1, 0, 0, 0, 0] 0))))] H := hP
    have hD : va_D A [(a14, .inl (k 0, 400, .inl (tI [] 0))), (a0, .inr (8, [.int 2, .int 0, .int 1, .int 0, .int 0, .int 0, .ref a1, .ref a2, .int 0, .int 0, .ref a3, .ref a4, .ref a5, .ref a6, .ref a7, .ref a8, .ref a9, .int 0, .int 0, .int 0, .ref a10, .ref a11, .ref a12, .ref a13, .int 0, .int 0, .ref a14, .ref a15, .ref a16, .ref a17, .int 0, .int 0, .ref a18, .ref a19, .ref a20, .ref a21])), (a4, .inl (k 1, 9, .inr (.inl (tL [1, 0, 0, 0, 1, 0, 0, 0, 0] 0))))] := hD
    refine st_i (j := 0) (g := tI [272] 0) hx hb hK hP hD hS 0 rfl (by decide +kernel) upd_tI dX11_image_31 (fun H locs hP hD hS => ?_)
    have hP : va_P D cl0 [(a14, .inl (k 0, 400, .inl (tI [272] 0))), (a0, .inr (8, [.int 2, .int 0, .int 1, .int 0, .int 0, .int 0, .ref a1, .ref a2, .int 0, .int 0, .ref a3, .ref a4, .ref a5, .ref a6, .ref a7, .ref a8, .ref a9, .int 0, .int 0, .int 0, .ref a10, .ref a11, .ref a12, .ref a13, .int 0, .int 0, .ref a14, .ref a15, .ref a16, .ref a17, .int 0, .int 0, .ref a18, .ref a19, .ref a20, .ref a21])), (a4, .inl (k 1, 9, .inr (.inl (tL [1, 0, 0, 0, 1, 0, 0, 0, 0] 0))))] H := hP
    have hD : va_D A [(a14, .inl (k 0, 400, .inl (tI [272] 0))), (a0, .inr (8, [.int 2, .int 0, .int 1, .int 0, .int 0, .int 0, .ref a1, .ref a2, .int 0, .int 0, .ref a3, .ref a4, .ref a5, .ref a6, .ref a7, .ref a8, .ref a9, .int 0, .int 0, .int 0, .ref a10, .ref a11, .ref a12, .ref a13, .int 0, .int 0, .ref a14, .ref a15, .ref a16, .ref a17, .int 0, .int 0, .ref a18, .ref a19, .ref a20, .ref a21])), (a4, .inl (k 1, 9, .inr (.inl (tL [1, 0, 0, 0, 1, 0, 0, 0, 0] 0))))] := hD
    refine lv_iconst (v := 1) hx hb dX11_image_32 (by decide) ?_
    refine lv_istore_n (lv' := [(2, .int 1), (0, .ref a0), (1, .int 2)]) hx hb dX11_image_33 rfl hl (by decide) rfl (fun ls hl => ?_)
    refine lv_iconst (v := 0) hx hb dX11_image_34 (by decide) ?_
    refine lv_istore_n (lv' := [(3, .int 0), (2, .int 1), (0, .ref a0), (1, .int 2)]) hx hb dX11_image_35 rfl hl (by decide) rfl (fun ls hl => ?_)
    refine lv_iload_n hx hb dX11_image_36 rfl (lv_at hl 0 rfl) ?_
    refine lv_iload_n hx hb dX11_image_37 rfl (lv_at hl 1 rfl) ?_
    refine lv_icmp_ge (tgt := 182) hx hb dX11_image_38 (by decide) (fun cc => absurd cc (by decide +kernel)) (fun _ => ?_)
    refine lv_iconst (v := 0) hx hb dX11_image_41 (by decide) ?_
    refine lv_istore (lv' := [(4, .int 0), (3, .int 0), (2, .int 1), (0, .ref a0), (1, .int 2)]) hx hb dX11_image_42 hl (by decide) rfl (fun ls hl => ?_)
    refine lv_iload hx hb dX11_image_44 (lv_at hl 0 rfl) ?_
    refine lv_aload_n hx hb dX11_image_46 rfl (lv_at hl 3 rfl) ?_
    refine va_get (D := D) (ci := 8) (v := .int 0) (C := RX11) (T := TX11) (N := 36) hx hb hU iX11 hown hK.1 hP 1 rfl rfl 1 (by decide) (hU _ w786) (fun _ h9 => h9) rfl dX11_image_47 ?_
    refine lv_icmp_ge (tgt := 176) hx hb dX11_image_50 (by decide) (fun _ => ?_) (fun cc => absurd (by decide +kernel) cc)
    refine lv_iinc (v := 1) (lv' := [(3, .int 1), (4, .int 0), (2, .int 1), (0, .ref a0), (1, .int 2)]) hx hb dX11_image_176 hl (k := 1) rfl (by decide) (by decide) rfl (fun ls hl => ?_)
    refine lv_goto (tgt := 36) hx hb dX11_image_179 (by decide) ?_
    refine lv_iload_n hx hb dX11_image_36 rfl (lv_at hl 0 rfl) ?_
    refine lv_iload_n hx hb dX11_image_37 rfl (lv_at hl 2 rfl) ?_
    refine lv_icmp_ge (tgt := 182) hx hb dX11_image_38 (by decide) (fun _ => ?_) (fun cc => absurd (by decide +kernel) cc)
    refine lv_iload_n hx hb dX11_image_182 rfl (lv_at hl 2 rfl) ?_
    exact retI (v := 1) hx hb hr hlocks hS (show (1 : Int32) = F_image 2 by first | decide +kernel | (have g_2 : (2 : Int32).toInt = 2 := (by decide +kernel); unfold F_image; (repeat (first | rw [if_pos (by omega)] | rw [if_neg (by omega)])))) dX11_image_183
  · skip
    obtain ⟨hP, hD⟩ := J _ hP1 hD1
    have hP : va_P D cl0 [(a0, .inr (8, [.int 2, .int 0, .int 1, .int 0, .int 0, .int 0, .ref a1, .ref a2, .int 0, .int 0, .ref a3, .ref a4, .ref a5, .ref a6, .ref a7, .ref a8, .ref a9, .int 0, .int 0, .int 0, .ref a10, .ref a11, .ref a12, .ref a13, .int 0, .int 0, .ref a14, .ref a15, .ref a16, .ref a17, .int 0, .int 0, .ref a18, .ref a19, .ref a20, .ref a21])), (a4, .inl (k 1, 9, .inr (.inl (tL [] 0)))), (a14, .inl (k 0, 400, .inl (tI [] 0)))] H := hP
    have hD : va_D A [(a0, .inr (8, [.int 2, .int 0, .int 1, .int 0, .int 0, .int 0, .ref a1, .ref a2, .int 0, .int 0, .ref a3, .ref a4, .ref a5, .ref a6, .ref a7, .ref a8, .ref a9, .int 0, .int 0, .int 0, .ref a10, .ref a11, .ref a12, .ref a13, .int 0, .int 0, .ref a14, .ref a15, .ref a16, .ref a17, .int 0, .int 0, .ref a18, .ref a19, .ref a20, .ref a21])), (a4, .inl (k 1, 9, .inr (.inl (tL [] 0)))), (a14, .inl (k 0, 400, .inl (tI [] 0)))] := hD
    subst c_3
    refine lv_if_ne (tgt := 9) hx hb dX11_image_4 (by decide) (fun _ => ?_) (fun cc => absurd cc (by decide +kernel))
    refine lv_aload_n hx hb dX11_image_9 rfl (lv_at hl 0 rfl) ?_
    refine lv_aload_n hx hb dX11_image_10 rfl (lv_at hl 0 rfl) ?_
    refine va_get (D := D) (ci := 8) (v := .ref a4) (C := RX11) (T := TX11) (N := 36) hx hb hU iX11 hown hK.1 hP 0 rfl rfl 11 (by decide) (hU _ w796) (fun _ h9 => h9) rfl dX11_image_11 ?_
    refine cV (rV (q0 := 0) (ci := 8) (As := [.ref a4]) (rest := []) (wc := [(a4, .inl (k 1, 9, .inr (.inl (tL [] 0)))), (a0, .inr (8, [.int 2, .int 0, .int 1, .int 0, .int 0, .int 0, .ref a1, .ref a2, .int 0, .int 0, .ref a3, .ref a4, .ref a5, .ref a6, .ref a7, .ref a8, .ref a9, .int 0, .int 0, .int 0, .ref a10, .ref a11, .ref a12, .ref a13, .int 0, .int 0, .ref a14, .ref a15, .ref a16, .ref a17, .int 0, .int 0, .ref a18, .ref a19, .ref a20, .ref a21]))]) hx hb hml hown hU hK hP hD rfl rfl [1, 0] rfl (by decide) (cX11_first_6 l D k _ a4 a0 a1 a2 a3 a5 a6 a7 a8 a9 a10 a11 a12 a13 a14 a15 a16 a17 a18 a19 a20 a21) w919 w916 w918 w28 w72 hdX11_first ⟨rfl, rfl⟩ ⟨Nat.le_of_ble_eq_true rfl, Nat.le_of_ble_eq_true rfl⟩ rfl hl.1 (Nat.le_of_ble_eq_true rfl) dX11_image_14 ⟨Nat.le_of_ble_eq_true rfl, Nat.le_of_ble_eq_true rfl⟩) hP hD hS hA (wr := [(a14, .inl (k 0, 400, .inl (tI [] 0)))]) [1, 0] [2] rfl rfl (by decide) (by decide) (fun H locs hB J hS => ?_)
    obtain ⟨hP1, hD1⟩ := hB
    obtain ⟨hP, hD⟩ := J _ hP1 hD1
    have hP : va_P D cl0 [(a14, .inl (k 0, 400, .inl (tI [] 0))), (a0, .inr (8, [.int 2, .int 0, .int 1, .int 0, .int 0, .int 0, .ref a1, .ref a2, .int 0, .int 0, .ref a3, .ref a4, .ref a5, .ref a6, .ref a7, .ref a8, .ref a9, .int 0, .int 0, .int 0, .ref a10, .ref a11, .ref a12, .ref a13, .int 0, .int 0, .ref a14, .ref a15, .ref a16, .ref a17, .int 0, .int 0, .ref a18, .ref a19, .ref a20, .ref a21])), (a4, .inl (k 1, 9, .inr (.inl (tL [1, 0, 0, 0, 1, 0, 0, 0, 0] 0))))] H := hP
    have hD : va_D A [(a14, .inl (k 0, 400, .inl (tI [] 0))), (a0, .inr (8, [.int 2, .int 0, .int 1, .int 0, .int 0, .int 0, .ref a1, .ref a2, .int 0, .int 0, .ref a3, .ref a4, .ref a5, .ref a6, .ref a7, .ref a8, .ref a9, .int 0, .int 0, .int 0, .ref a10, .ref a11, .ref a12, .ref a13, .int 0, .int 0, .ref a14, .ref a15, .ref a16, .ref a17, .int 0, .int 0, .ref a18, .ref a19, .ref a20, .ref a21])), (a4, .inl (k 1, 9, .inr (.inl (tL [1, 0, 0, 0, 1, 0, 0, 0, 0] 0))))] := hD
    refine lv_aload_n hx hb dX11_image_17 rfl (lv_at hl 0 rfl) ?_
    refine va_get (D := D) (ci := 8) (v := .ref a14) (C := RX11) (T := TX11) (N := 36) hx hb hU iX11 hown hK.1 hP 1 rfl rfl 26 (by decide) (hU _ w811) (fun _ h9 => h9) rfl dX11_image_18 ?_
    refine lv_iconst (v := 0) hx hb dX11_image_21 (by decide) ?_
    refine lv_aload_n hx hb dX11_image_22 rfl (lv_at hl 0 rfl) ?_
    refine lv_aload_n hx hb dX11_image_23 rfl (lv_at hl 0 rfl) ?_
    refine va_get (D := D) (ci := 8) (v := .ref a4) (C := RX11) (T := TX11) (N := 36) hx hb hU iX11 hown hK.1 hP 1 rfl rfl 11 (by decide) (hU _ w796) (fun _ h9 => h9) rfl dX11_image_24 ?_
    refine lv_iload_n hx hb dX11_image_27 rfl (lv_at hl 1 rfl) ?_
    refine cI (rV (q0 := 1) (ci := 8) (As := [.ref a4, .int 3]) (rest := [.int 0, .ref a14]) (wc := [(a4, .inl (k 1, 9, .inr (.inl (tL [1, 0, 0, 0, 1, 0, 0, 0, 0] 0))))]) hx hb hml hown hU hK hP hD rfl rfl [2] rfl (by decide) (cX11_told_2 l D k _ a4 a0) w1122 w1119 w1121 w55 w72 hdX11_told ⟨rfl, rfl⟩ ⟨Nat.le_of_ble_eq_true rfl, Nat.le_of_ble_eq_true rfl⟩ rfl hl.1 (Nat.le_of_ble_eq_true rfl) dX11_image_28 ⟨Nat.le_of_ble_eq_true rfl, Nat.le_of_ble_eq_true rfl⟩) hP hD hS hA (wr := [(a14, .inl (k 0, 400, .inl (tI [] 0))), (a0, .inr (8, [.int 2, .int 0, .int 1, .int 0, .int 0, .int 0, .ref a1, .ref a2, .int 0, .int 0, .ref a3, .ref a4, .ref a5, .ref a6, .ref a7, .ref a8, .ref a9, .int 0, .int 0, .int 0, .ref a10, .ref a11, .ref a12, .ref a13, .int 0, .int 0, .ref a14, .ref a15, .ref a16, .ref a17, .int 0, .int 0, .ref a18, .ref a19, .ref a20, .ref a21]))]) [2] [0, 1] rfl rfl (by decide) (by decide) (fun r13 H locs hB J hS => ?_)
    obtain ⟨rfl, hP1, hD1⟩ := hB
    obtain ⟨hP, hD⟩ := J _ hP1 hD1
    have hP : va_P D cl0 [(a14, .inl (k 0, 400, .inl (tI [] 0))), (a0, .inr (8, [.int 2, .int 0, .int 1, .int 0, .int 0, .int 0, .ref a1, .ref a2, .int 0, .int 0, .ref a3, .ref a4, .ref a5, .ref a6, .ref a7, .ref a8, .ref a9, .int 0, .int 0, .int 0, .ref a10, .ref a11, .ref a12, .ref a13, .int 0, .int 0, .ref a14, .ref a15, .ref a16, .ref a17, .int 0, .int 0, .ref a18, .ref a19, .ref a20, .ref a21])), (a4, .inl (k 1, 9, .inr (.inl (tL [1, 0, 0, 0, 1, 0, 0, 0, 0] 0))))] H := hP
    have hD : va_D A [(a14, .inl (k 0, 400, .inl (tI [] 0))), (a0, .inr (8, [.int 2, .int 0, .int 1, .int 0, .int 0, .int 0, .ref a1, .ref a2, .int 0, .int 0, .ref a3, .ref a4, .ref a5, .ref a6, .ref a7, .ref a8, .ref a9, .int 0, .int 0, .int 0, .ref a10, .ref a11, .ref a12, .ref a13, .int 0, .int 0, .ref a14, .ref a15, .ref a16, .ref a17, .int 0, .int 0, .ref a18, .ref a19, .ref a20, .ref a21])), (a4, .inl (k 1, 9, .inr (.inl (tL [1, 0, 0, 0, 1, 0, 0, 0, 0] 0))))] := hD
    refine st_i (j := 0) (g := tI [6642] 0) hx hb hK hP hD hS 0 rfl (by decide +kernel) upd_tI dX11_image_31 (fun H locs hP hD hS => ?_)
    have hP : va_P D cl0 [(a14, .inl (k 0, 400, .inl (tI [6642] 0))), (a0, .inr (8, [.int 2, .int 0, .int 1, .int 0, .int 0, .int 0, .ref a1, .ref a2, .int 0, .int 0, .ref a3, .ref a4, .ref a5, .ref a6, .ref a7, .ref a8, .ref a9, .int 0, .int 0, .int 0, .ref a10, .ref a11, .ref a12, .ref a13, .int 0, .int 0, .ref a14, .ref a15, .ref a16, .ref a17, .int 0, .int 0, .ref a18, .ref a19, .ref a20, .ref a21])), (a4, .inl (k 1, 9, .inr (.inl (tL [1, 0, 0, 0, 1, 0, 0, 0, 0] 0))))] H := hP
    have hD : va_D A [(a14, .inl (k 0, 400, .inl (tI [6642] 0))), (a0, .inr (8, [.int 2, .int 0, .int 1, .int 0, .int 0, .int 0, .ref a1, .ref a2, .int 0, .int 0, .ref a3, .ref a4, .ref a5, .ref a6, .ref a7, .ref a8, .ref a9, .int 0, .int 0, .int 0, .ref a10, .ref a11, .ref a12, .ref a13, .int 0, .int 0, .ref a14, .ref a15, .ref a16, .ref a17, .int 0, .int 0, .ref a18, .ref a19, .ref a20, .ref a21])), (a4, .inl (k 1, 9, .inr (.inl (tL [1, 0, 0, 0, 1, 0, 0, 0, 0] 0))))] := hD
    refine lv_iconst (v := 1) hx hb dX11_image_32 (by decide) ?_
    refine lv_istore_n (lv' := [(2, .int 1), (0, .ref a0), (1, .int 3)]) hx hb dX11_image_33 rfl hl (by decide) rfl (fun ls hl => ?_)
    refine lv_iconst (v := 0) hx hb dX11_image_34 (by decide) ?_
    refine lv_istore_n (lv' := [(3, .int 0), (2, .int 1), (0, .ref a0), (1, .int 3)]) hx hb dX11_image_35 rfl hl (by decide) rfl (fun ls hl => ?_)
    refine lv_iload_n hx hb dX11_image_36 rfl (lv_at hl 0 rfl) ?_
    refine lv_iload_n hx hb dX11_image_37 rfl (lv_at hl 1 rfl) ?_
    refine lv_icmp_ge (tgt := 182) hx hb dX11_image_38 (by decide) (fun cc => absurd cc (by decide +kernel)) (fun _ => ?_)
    refine lv_iconst (v := 0) hx hb dX11_image_41 (by decide) ?_
    refine lv_istore (lv' := [(4, .int 0), (3, .int 0), (2, .int 1), (0, .ref a0), (1, .int 3)]) hx hb dX11_image_42 hl (by decide) rfl (fun ls hl => ?_)
    refine lv_iload hx hb dX11_image_44 (lv_at hl 0 rfl) ?_
    refine lv_aload_n hx hb dX11_image_46 rfl (lv_at hl 3 rfl) ?_
    refine va_get (D := D) (ci := 8) (v := .int 0) (C := RX11) (T := TX11) (N := 36) hx hb hU iX11 hown hK.1 hP 1 rfl rfl 1 (by decide) (hU _ w786) (fun _ h9 => h9) rfl dX11_image_47 ?_
    refine lv_icmp_ge (tgt := 176) hx hb dX11_image_50 (by decide) (fun _ => ?_) (fun cc => absurd (by decide +kernel) cc)
    refine lv_iinc (v := 1) (lv' := [(3, .int 1), (4, .int 0), (2, .int 1), (0, .ref a0), (1, .int 3)]) hx hb dX11_image_176 hl (k := 1) rfl (by decide) (by decide) rfl (fun ls hl => ?_)
    refine lv_goto (tgt := 36) hx hb dX11_image_179 (by decide) ?_
    refine lv_iload_n hx hb dX11_image_36 rfl (lv_at hl 0 rfl) ?_
    refine lv_iload_n hx hb dX11_image_37 rfl (lv_at hl 2 rfl) ?_
    refine lv_icmp_ge (tgt := 182) hx hb dX11_image_38 (by decide) (fun _ => ?_) (fun cc => absurd (by decide +kernel) cc)
    refine lv_iload_n hx hb dX11_image_182 rfl (lv_at hl 2 rfl) ?_
    exact retI (v := 1) hx hb hr hlocks hS (show (1 : Int32) = F_image 3 by first | decide +kernel | (have g_3 : (3 : Int32).toInt = 3 := (by decide +kernel); unfold F_image; (repeat (first | rw [if_pos (by omega)] | rw [if_neg (by omega)])))) dX11_image_183
  · skip
    obtain ⟨hP, hD⟩ := J _ hP1 hD1
    have hP : va_P D cl0 [(a0, .inr (8, [.int 2, .int 0, .int 1, .int 0, .int 0, .int 0, .ref a1, .ref a2, .int 0, .int 0, .ref a3, .ref a4, .ref a5, .ref a6, .ref a7, .ref a8, .ref a9, .int 0, .int 0, .int 0, .ref a10, .ref a11, .ref a12, .ref a13, .int 0, .int 0, .ref a14, .ref a15, .ref a16, .ref a17, .int 0, .int 0, .ref a18, .ref a19, .ref a20, .ref a21])), (a4, .inl (k 1, 9, .inr (.inl (tL [] 0)))), (a14, .inl (k 0, 400, .inl (tI [] 0)))] H := hP
    have hD : va_D A [(a0, .inr (8, [.int 2, .int 0, .int 1, .int 0, .int 0, .int 0, .ref a1, .ref a2, .int 0, .int 0, .ref a3, .ref a4, .ref a5, .ref a6, .ref a7, .ref a8, .ref a9, .int 0, .int 0, .int 0, .ref a10, .ref a11, .ref a12, .ref a13, .int 0, .int 0, .ref a14, .ref a15, .ref a16, .ref a17, .int 0, .int 0, .ref a18, .ref a19, .ref a20, .ref a21])), (a4, .inl (k 1, 9, .inr (.inl (tL [] 0)))), (a14, .inl (k 0, 400, .inl (tI [] 0)))] := hD
    subst c_4
    refine lv_if_ne (tgt := 9) hx hb dX11_image_4 (by decide) (fun _ => ?_) (fun cc => absurd cc (by decide +kernel))
    refine lv_aload_n hx hb dX11_image_9 rfl (lv_at hl 0 rfl) ?_
    refine lv_aload_n hx hb dX11_image_10 rfl (lv_at hl 0 rfl) ?_
    refine va_get (D := D) (ci := 8) (v := .ref a4) (C := RX11) (T := TX11) (N := 36) hx hb hU iX11 hown hK.1 hP 0 rfl rfl 11 (by decide) (hU _ w796) (fun _ h9 => h9) rfl dX11_image_11 ?_
    refine cV (rV (q0 := 0) (ci := 8) (As := [.ref a4]) (rest := []) (wc := [(a4, .inl (k 1, 9, .inr (.inl (tL [] 0)))), (a0, .inr (8, [.int 2, .int 0, .int 1, .int 0, .int 0, .int 0, .ref a1, .ref a2, .int 0, .int 0, .ref a3, .ref a4, .ref a5, .ref a6, .ref a7, .ref a8, .ref a9, .int 0, .int 0, .int 0, .ref a10, .ref a11, .ref a12, .ref a13, .int 0, .int 0, .ref a14, .ref a15, .ref a16, .ref a17, .int 0, .int 0, .ref a18, .ref a19, .ref a20, .ref a21]))]) hx hb hml hown hU hK hP hD rfl rfl [1, 0] rfl (by decide) (cX11_first_6 l D k _ a4 a0 a1 a2 a3 a5 a6 a7 a8 a9 a10 a11 a12 a13 a14 a15 a16 a17 a18 a19 a20 a21) w919 w916 w918 w28 w72 hdX11_first ⟨rfl, rfl⟩ ⟨Nat.le_of_ble_eq_true rfl, Nat.le_of_ble_eq_true rfl⟩ rfl hl.1 (Nat.le_of_ble_eq_true rfl) dX11_image_14 ⟨Nat.le_of_ble_eq_true rfl, Nat.le_of_ble_eq_true rfl⟩) hP hD hS hA (wr := [(a14, .inl (k 0, 400, .inl (tI [] 0)))]) [1, 0] [2] rfl rfl (by decide) (by decide) (fun H locs hB J hS => ?_)
    obtain ⟨hP1, hD1⟩ := hB
    obtain ⟨hP, hD⟩ := J _ hP1 hD1
    have hP : va_P D cl0 [(a14, .inl (k 0, 400, .inl (tI [] 0))), (a0, .inr (8, [.int 2, .int 0, .int 1, .int 0, .int 0, .int 0, .ref a1, .ref a2, .int 0, .int 0, .ref a3, .ref a4, .ref a5, .ref a6, .ref a7, .ref a8, .ref a9, .int 0, .int 0, .int 0, .ref a10, .ref a11, .ref a12, .ref a13, .int 0, .int 0, .ref a14, .ref a15, .ref a16, .ref a17, .int 0, .int 0, .ref a18, .ref a19, .ref a20, .ref a21])), (a4, .inl (k 1, 9, .inr (.inl (tL [1, 0, 0, 0, 1, 0, 0, 0, 0] 0))))] H := hP
    have hD : va_D A [(a14, .inl (k 0, 400, .inl (tI [] 0))), (a0, .inr (8, [.int 2, .int 0, .int 1, .int 0, .int 0, .int 0, .ref a1, .ref a2, .int 0, .int 0, .ref a3, .ref a4, .ref a5, .ref a6, .ref a7, .ref a8, .ref a9, .int 0, .int 0, .int 0, .ref a10, .ref a11, .ref a12, .ref a13, .int 0, .int 0, .ref a14, .ref a15, .ref a16, .ref a17, .int 0, .int 0, .ref a18, .ref a19, .ref a20, .ref a21])), (a4, .inl (k 1, 9, .inr (.inl (tL [1, 0, 0, 0, 1, 0, 0, 0, 0] 0))))] := hD
    refine lv_aload_n hx hb dX11_image_17 rfl (lv_at hl 0 rfl) ?_
    refine va_get (D := D) (ci := 8) (v := .ref a14) (C := RX11) (T := TX11) (N := 36) hx hb hU iX11 hown hK.1 hP 1 rfl rfl 26 (by decide) (hU _ w811) (fun _ h9 => h9) rfl dX11_image_18 ?_
    refine lv_iconst (v := 0) hx hb dX11_image_21 (by decide) ?_
    refine lv_aload_n hx hb dX11_image_22 rfl (lv_at hl 0 rfl) ?_
    refine lv_aload_n hx hb dX11_image_23 rfl (lv_at hl 0 rfl) ?_
    refine va_get (D := D) (ci := 8) (v := .ref a4) (C := RX11) (T := TX11) (N := 36) hx hb hU iX11 hown hK.1 hP 1 rfl rfl 11 (by decide) (hU _ w796) (fun _ h9 => h9) rfl dX11_image_24 ?_
    refine lv_iload_n hx hb dX11_image_27 rfl (lv_at hl 1 rfl) ?_
    refine cI (rV (q0 := 1) (ci := 8) (As := [.ref a4, .int 5]) (rest := [.int 0, .ref a14]) (wc := [(a4, .inl (k 1, 9, .inr (.inl (tL [1, 0, 0, 0, 1, 0, 0, 0, 0] 0))))]) hx hb hml hown hU hK hP hD rfl rfl [2] rfl (by decide) (cX11_told_3 l D k _ a4 a0) w1122 w1119 w1121 w55 w72 hdX11_told ⟨rfl, rfl⟩ ⟨Nat.le_of_ble_eq_true rfl, Nat.le_of_ble_eq_true rfl⟩ rfl hl.1 (Nat.le_of_ble_eq_true rfl) dX11_image_28 ⟨Nat.le_of_ble_eq_true rfl, Nat.le_of_ble_eq_true rfl⟩) hP hD hS hA (wr := [(a14, .inl (k 0, 400, .inl (tI [] 0))), (a0, .inr (8, [.int 2, .int 0, .int 1, .int 0, .int 0, .int 0, .ref a1, .ref a2, .int 0, .int 0, .ref a3, .ref a4, .ref a5, .ref a6, .ref a7, .ref a8, .ref a9, .int 0, .int 0, .int 0, .ref a10, .ref a11, .ref a12, .ref a13, .int 0, .int 0, .ref a14, .ref a15, .ref a16, .ref a17, .int 0, .int 0, .ref a18, .ref a19, .ref a20, .ref a21]))]) [2] [0, 1] rfl rfl (by decide) (by decide) (fun r15 H locs hB J hS => ?_)
    obtain ⟨rfl, hP1, hD1⟩ := hB
    obtain ⟨hP, hD⟩ := J _ hP1 hD1
    have hP : va_P D cl0 [(a14, .inl (k 0, 400, .inl (tI [] 0))), (a0, .inr (8, [.int 2, .int 0, .int 1, .int 0, .int 0, .int 0, .ref a1, .ref a2, .int 0, .int 0, .ref a3, .ref a4, .ref a5, .ref a6, .ref a7, .ref a8, .ref a9, .int 0, .int 0, .int 0, .ref a10, .ref a11, .ref a12, .ref a13, .int 0, .int 0, .ref a14, .ref a15, .ref a16, .ref a17, .int 0, .int 0, .ref a18, .ref a19, .ref a20, .ref a21])), (a4, .inl (k 1, 9, .inr (.inl (tL [1, 0, 0, 0, 1, 0, 0, 0, 0] 0))))] H := hP
    have hD : va_D A [(a14, .inl (k 0, 400, .inl (tI [] 0))), (a0, .inr (8, [.int 2, .int 0, .int 1, .int 0, .int 0, .int 0, .ref a1, .ref a2, .int 0, .int 0, .ref a3, .ref a4, .ref a5, .ref a6, .ref a7, .ref a8, .ref a9, .int 0, .int 0, .int 0, .ref a10, .ref a11, .ref a12, .ref a13, .int 0, .int 0, .ref a14, .ref a15, .ref a16, .ref a17, .int 0, .int 0, .ref a18, .ref a19, .ref a20, .ref a21])), (a4, .inl (k 1, 9, .inr (.inl (tL [1, 0, 0, 0, 1, 0, 0, 0, 0] 0))))] := hD
    refine st_i (j := 0) (g := tI [391250] 0) hx hb hK hP hD hS 0 rfl (by decide +kernel) upd_tI dX11_image_31 (fun H locs hP hD hS => ?_)
    have hP : va_P D cl0 [(a14, .inl (k 0, 400, .inl (tI [391250] 0))), (a0, .inr (8, [.int 2, .int 0, .int 1, .int 0, .int 0, .int 0, .ref a1, .ref a2, .int 0, .int 0, .ref a3, .ref a4, .ref a5, .ref a6, .ref a7, .ref a8, .ref a9, .int 0, .int 0, .int 0, .ref a10, .ref a11, .ref a12, .ref a13, .int 0, .int 0, .ref a14, .ref a15, .ref a16, .ref a17, .int 0, .int 0, .ref a18, .ref a19, .ref a20, .ref a21])), (a4, .inl (k 1, 9, .inr (.inl (tL [1, 0, 0, 0, 1, 0, 0, 0, 0] 0))))] H := hP
    have hD : va_D A [(a14, .inl (k 0, 400, .inl (tI [391250] 0))), (a0, .inr (8, [.int 2, .int 0, .int 1, .int 0, .int 0, .int 0, .ref a1, .ref a2, .int 0, .int 0, .ref a3, .ref a4, .ref a5, .ref a6, .ref a7, .ref a8, .ref a9, .int 0, .int 0, .int 0, .ref a10, .ref a11, .ref a12, .ref a13, .int 0, .int 0, .ref a14, .ref a15, .ref a16, .ref a17, .int 0, .int 0, .ref a18, .ref a19, .ref a20, .ref a21])), (a4, .inl (k 1, 9, .inr (.inl (tL [1, 0, 0, 0, 1, 0, 0, 0, 0] 0))))] := hD
    refine lv_iconst (v := 1) hx hb dX11_image_32 (by decide) ?_
    refine lv_istore_n (lv' := [(2, .int 1), (0, .ref a0), (1, .int 5)]) hx hb dX11_image_33 rfl hl (by decide) rfl (fun ls hl => ?_)
    refine lv_iconst (v := 0) hx hb dX11_image_34 (by decide) ?_
    refine lv_istore_n (lv' := [(3, .int 0), (2, .int 1), (0, .ref a0), (1, .int 5)]) hx hb dX11_image_35 rfl hl (by decide) rfl (fun ls hl => ?_)
    refine lv_iload_n hx hb dX11_image_36 rfl (lv_at hl 0 rfl) ?_
    refine lv_iload_n hx hb dX11_image_37 rfl (lv_at hl 1 rfl) ?_
    refine lv_icmp_ge (tgt := 182) hx hb dX11_image_38 (by decide) (fun cc => absurd cc (by decide +kernel)) (fun _ => ?_)
    refine lv_iconst (v := 0) hx hb dX11_image_41 (by decide) ?_
    refine lv_istore (lv' := [(4, .int 0), (3, .int 0), (2, .int 1), (0, .ref a0), (1, .int 5)]) hx hb dX11_image_42 hl (by decide) rfl (fun ls hl => ?_)
    refine lv_iload hx hb dX11_image_44 (lv_at hl 0 rfl) ?_
    refine lv_aload_n hx hb dX11_image_46 rfl (lv_at hl 3 rfl) ?_
    refine va_get (D := D) (ci := 8) (v := .int 0) (C := RX11) (T := TX11) (N := 36) hx hb hU iX11 hown hK.1 hP 1 rfl rfl 1 (by decide) (hU _ w786) (fun _ h9 => h9) rfl dX11_image_47 ?_
    refine lv_icmp_ge (tgt := 176) hx hb dX11_image_50 (by decide) (fun _ => ?_) (fun cc => absurd (by decide +kernel) cc)
    refine lv_iinc (v := 1) (lv' := [(3, .int 1), (4, .int 0), (2, .int 1), (0, .ref a0), (1, .int 5)]) hx hb dX11_image_176 hl (k := 1) rfl (by decide) (by decide) rfl (fun ls hl => ?_)
    refine lv_goto (tgt := 36) hx hb dX11_image_179 (by decide) ?_
    refine lv_iload_n hx hb dX11_image_36 rfl (lv_at hl 0 rfl) ?_
    refine lv_iload_n hx hb dX11_image_37 rfl (lv_at hl 2 rfl) ?_
    refine lv_icmp_ge (tgt := 182) hx hb dX11_image_38 (by decide) (fun _ => ?_) (fun cc => absurd (by decide +kernel) cc)
    refine lv_iload_n hx hb dX11_image_182 rfl (lv_at hl 2 rfl) ?_
    exact retI (v := 1) hx hb hr hlocks hS (show (1 : Int32) = F_image 5 by first | decide +kernel | (have g_5 : (5 : Int32).toInt = 5 := (by decide +kernel); unfold F_image; (repeat (first | rw [if_pos (by omega)] | rw [if_neg (by omega)])))) dX11_image_183
  · skip
    obtain ⟨hP, hD⟩ := J _ hP1 hD1
    have hP : va_P D cl0 [(a0, .inr (8, [.int 2, .int 0, .int 1, .int 0, .int 0, .int 0, .ref a1, .ref a2, .int 0, .int 0, .ref a3, .ref a4, .ref a5, .ref a6, .ref a7, .ref a8, .ref a9, .int 0, .int 0, .int 0, .ref a10, .ref a11, .ref a12, .ref a13, .int 0, .int 0, .ref a14, .ref a15, .ref a16, .ref a17, .int 0, .int 0, .ref a18, .ref a19, .ref a20, .ref a21])), (a4, .inl (k 1, 9, .inr (.inl (tL [] 0)))), (a14, .inl (k 0, 400, .inl (tI [] 0)))] H := hP
    have hD : va_D A [(a0, .inr (8, [.int 2, .int 0, .int 1, .int 0, .int 0, .int 0, .ref a1, .ref a2, .int 0, .int 0, .ref a3, .ref a4, .ref a5, .ref a6, .ref a7, .ref a8, .ref a9, .int 0, .int 0, .int 0, .ref a10, .ref a11, .ref a12, .ref a13, .int 0, .int 0, .ref a14, .ref a15, .ref a16, .ref a17, .int 0, .int 0, .ref a18, .ref a19, .ref a20, .ref a21])), (a4, .inl (k 1, 9, .inr (.inl (tL [] 0)))), (a14, .inl (k 0, 400, .inl (tI [] 0)))] := hD
    refine lv_if_ne (tgt := 9) hx hb dX11_image_4 (by decide) (fun cc => absurd (by decide +kernel) cc) (fun _ => ?_)
    refine lv_iconst (v := (-1)) hx hb dX11_image_7 (by decide) ?_
    exact retI (v := (-1)) hx hb hr hlocks hS (show ((-1) : Int32) = F_image x0 by first | decide +kernel | (have f0 := cv_ne (x := x0.toInt) (y := 2) c_5 rfl (by decide +kernel); have f1 := cv_ne (x := x0.toInt) (y := 3) c_6 rfl (by decide +kernel); have f2 := cv_ne (x := x0.toInt) (y := 5) c_7 rfl (by decide +kernel); have f3 := cv_ne (x := x0.toInt) (y := 7) c_8 rfl (by decide +kernel); unfold F_image; (repeat (first | rw [if_pos (by omega)] | rw [if_neg (by omega)])))) dX11_image_8
  · skip
    obtain ⟨hP, hD⟩ := J _ hP1 hD1
    have hP : va_P D cl0 [(a0, .inr (8, [.int 2, .int 0, .int 1, .int 0, .int 0, .int 0, .ref a1, .ref a2, .int 0, .int 0, .ref a3, .ref a4, .ref a5, .ref a6, .ref a7, .ref a8, .ref a9, .int 0, .int 0, .int 0, .ref a10, .ref a11, .ref a12, .ref a13, .int 0, .int 0, .ref a14, .ref a15, .ref a16, .ref a17, .int 0, .int 0, .ref a18, .ref a19, .ref a20, .ref a21])), (a4, .inl (k 1, 9, .inr (.inl (tL [] 0)))), (a14, .inl (k 0, 400, .inl (tI [] 0)))] H := hP
    have hD : va_D A [(a0, .inr (8, [.int 2, .int 0, .int 1, .int 0, .int 0, .int 0, .ref a1, .ref a2, .int 0, .int 0, .ref a3, .ref a4, .ref a5, .ref a6, .ref a7, .ref a8, .ref a9, .int 0, .int 0, .int 0, .ref a10, .ref a11, .ref a12, .ref a13, .int 0, .int 0, .ref a14, .ref a15, .ref a16, .ref a17, .int 0, .int 0, .ref a18, .ref a19, .ref a20, .ref a21])), (a4, .inl (k 1, 9, .inr (.inl (tL [] 0)))), (a14, .inl (k 0, 400, .inl (tI [] 0)))] := hD
    subst c_9
    refine lv_if_ne (tgt := 9) hx hb dX11_image_4 (by decide) (fun _ => ?_) (fun cc => absurd cc (by decide +kernel))
    refine lv_aload_n hx hb dX11_image_9 rfl (lv_at hl 0 rfl) ?_
    refine lv_aload_n hx hb dX11_image_10 rfl (lv_at hl 0 rfl) ?_
    refine va_get (D := D) (ci := 8) (v := .ref a4) (C := RX11) (T := TX11) (N := 36) hx hb hU iX11 hown hK.1 hP 0 rfl rfl 11 (by decide) (hU _ w796) (fun _ h9 => h9) rfl dX11_image_11 ?_
    refine cV (rV (q0 := 0) (ci := 8) (As := [.ref a4]) (rest := []) (wc := [(a4, .inl (k 1, 9, .inr (.inl (tL [] 0)))), (a0, .inr (8, [.int 2, .int 0, .int 1, .int 0, .int 0, .int 0, .ref a1, .ref a2, .int 0, .int 0, .ref a3, .ref a4, .ref a5, .ref a6, .ref a7, .ref a8, .ref a9, .int 0, .int 0, .int 0, .ref a10, .ref a11, .ref a12, .ref a13, .int 0, .int 0, .ref a14, .ref a15, .ref a16, .ref a17, .int 0, .int 0, .ref a18, .ref a19, .ref a20, .ref a21]))]) hx hb hml hown hU hK hP hD rfl rfl [1, 0] rfl (by decide) (cX11_first_6 l D k _ a4 a0 a1 a2 a3 a5 a6 a7 a8 a9 a10 a11 a12 a13 a14 a15 a16 a17 a18 a19 a20 a21) w919 w916 w918 w28 w72 hdX11_first ⟨rfl, rfl⟩ ⟨Nat.le_of_ble_eq_true rfl, Nat.le_of_ble_eq_true rfl⟩ rfl hl.1 (Nat.le_of_ble_eq_true rfl) dX11_image_14 ⟨Nat.le_of_ble_eq_true rfl, Nat.le_of_ble_eq_true rfl⟩) hP hD hS hA (wr := [(a14, .inl (k 0, 400, .inl (tI [] 0)))]) [1, 0] [2] rfl rfl (by decide) (by decide) (fun H locs hB J hS => ?_)
    obtain ⟨hP1, hD1⟩ := hB
    obtain ⟨hP, hD⟩ := J _ hP1 hD1
    have hP : va_P D cl0 [(a14, .inl (k 0, 400, .inl (tI [] 0))), (a0, .inr (8, [.int 2, .int 0, .int 1, .int 0, .int 0, .int 0, .ref a1, .ref a2, .int 0, .int 0, .ref a3, .ref a4, .ref a5, .ref a6, .ref a7, .ref a8, .ref a9, .int 0, .int 0, .int 0, .ref a10, .ref a11, .ref a12, .ref a13, .int 0, .int 0, .ref a14, .ref a15, .ref a16, .ref a17, .int 0, .int 0, .ref a18, .ref a19, .ref a20, .ref a21])), (a4, .inl (k 1, 9, .inr (.inl (tL [1, 0, 0, 0, 1, 0, 0, 0, 0] 0))))] H := hP
    have hD : va_D A [(a14, .inl (k 0, 400, .inl (tI [] 0))), (a0, .inr (8, [.int 2, .int 0, .int 1, .int 0, .int 0, .int 0, .ref a1, .ref a2, .int 0, .int 0, .ref a3, .ref a4, .ref a5, .ref a6, .ref a7, .ref a8, .ref a9, .int 0, .int 0, .int 0, .ref a10, .ref a11, .ref a12, .ref a13, .int 0, .int 0, .ref a14, .ref a15, .ref a16, .ref a17, .int 0, .int 0, .ref a18, .ref a19, .ref a20, .ref a21])), (a4, .inl (k 1, 9, .inr (.inl (tL [1, 0, 0, 0, 1, 0, 0, 0, 0] 0))))] := hD
    refine lv_aload_n hx hb dX11_image_17 rfl (lv_at hl 0 rfl) ?_
    refine va_get (D := D) (ci := 8) (v := .ref a14) (C := RX11) (T := TX11) (N := 36) hx hb hU iX11 hown hK.1 hP 1 rfl rfl 26 (by decide) (hU _ w811) (fun _ h9 => h9) rfl dX11_image_18 ?_
    refine lv_iconst (v := 0) hx hb dX11_image_21 (by decide) ?_
    refine lv_aload_n hx hb dX11_image_22 rfl (lv_at hl 0 rfl) ?_
    refine lv_aload_n hx hb dX11_image_23 rfl (lv_at hl 0 rfl) ?_
    refine va_get (D := D) (ci := 8) (v := .ref a4) (C := RX11) (T := TX11) (N := 36) hx hb hU iX11 hown hK.1 hP 1 rfl rfl 11 (by decide) (hU _ w796) (fun _ h9 => h9) rfl dX11_image_24 ?_
    refine lv_iload_n hx hb dX11_image_27 rfl (lv_at hl 1 rfl) ?_
    refine cI (rV (q0 := 1) (ci := 8) (As := [.ref a4, .int 7]) (rest := [.int 0, .ref a14]) (wc := [(a4, .inl (k 1, 9, .inr (.inl (tL [1, 0, 0, 0, 1, 0, 0, 0, 0] 0))))]) hx hb hml hown hU hK hP hD rfl rfl [2] rfl (by decide) (cX11_told_4 l D k _ a4 a0) w1122 w1119 w1121 w55 w72 hdX11_told ⟨rfl, rfl⟩ ⟨Nat.le_of_ble_eq_true rfl, Nat.le_of_ble_eq_true rfl⟩ rfl hl.1 (Nat.le_of_ble_eq_true rfl) dX11_image_28 ⟨Nat.le_of_ble_eq_true rfl, Nat.le_of_ble_eq_true rfl⟩) hP hD hS hA (wr := [(a14, .inl (k 0, 400, .inl (tI [] 0))), (a0, .inr (8, [.int 2, .int 0, .int 1, .int 0, .int 0, .int 0, .ref a1, .ref a2, .int 0, .int 0, .ref a3, .ref a4, .ref a5, .ref a6, .ref a7, .ref a8, .ref a9, .int 0, .int 0, .int 0, .ref a10, .ref a11, .ref a12, .ref a13, .int 0, .int 0, .ref a14, .ref a15, .ref a16, .ref a17, .int 0, .int 0, .ref a18, .ref a19, .ref a20, .ref a21]))]) [2] [0, 1] rfl rfl (by decide) (by decide) (fun r17 H locs hB J hS => ?_)
    obtain ⟨rfl, hP1, hD1⟩ := hB
    obtain ⟨hP, hD⟩ := J _ hP1 hD1
    have hP : va_P D cl0 [(a14, .inl (k 0, 400, .inl (tI [] 0))), (a0, .inr (8, [.int 2, .int 0, .int 1, .int 0, .int 0, .int 0, .ref a1, .ref a2, .int 0, .int 0, .ref a3, .ref a4, .ref a5, .ref a6, .ref a7, .ref a8, .ref a9, .int 0, .int 0, .int 0, .ref a10, .ref a11, .ref a12, .ref a13, .int 0, .int 0, .ref a14, .ref a15, .ref a16, .ref a17, .int 0, .int 0, .ref a18, .ref a19, .ref a20, .ref a21])), (a4, .inl (k 1, 9, .inr (.inl (tL [1, 0, 0, 0, 1, 0, 0, 0, 0] 0))))] H := hP
    have hD : va_D A [(a14, .inl (k 0, 400, .inl (tI [] 0))), (a0, .inr (8, [.int 2, .int 0, .int 1, .int 0, .int 0, .int 0, .ref a1, .ref a2, .int 0, .int 0, .ref a3, .ref a4, .ref a5, .ref a6, .ref a7, .ref a8, .ref a9, .int 0, .int 0, .int 0, .ref a10, .ref a11, .ref a12, .ref a13, .int 0, .int 0, .ref a14, .ref a15, .ref a16, .ref a17, .int 0, .int 0, .ref a18, .ref a19, .ref a20, .ref a21])), (a4, .inl (k 1, 9, .inr (.inl (tL [1, 0, 0, 0, 1, 0, 0, 0, 0] 0))))] := hD
    refine st_i (j := 0) (g := tI [5767202] 0) hx hb hK hP hD hS 0 rfl (by decide +kernel) upd_tI dX11_image_31 (fun H locs hP hD hS => ?_)
    have hP : va_P D cl0 [(a14, .inl (k 0, 400, .inl (tI [5767202] 0))), (a0, .inr (8, [.int 2, .int 0, .int 1, .int 0, .int 0, .int 0, .ref a1, .ref a2, .int 0, .int 0, .ref a3, .ref a4, .ref a5, .ref a6, .ref a7, .ref a8, .ref a9, .int 0, .int 0, .int 0, .ref a10, .ref a11, .ref a12, .ref a13, .int 0, .int 0, .ref a14, .ref a15, .ref a16, .ref a17, .int 0, .int 0, .ref a18, .ref a19, .ref a20, .ref a21])), (a4, .inl (k 1, 9, .inr (.inl (tL [1, 0, 0, 0, 1, 0, 0, 0, 0] 0))))] H := hP
    have hD : va_D A [(a14, .inl (k 0, 400, .inl (tI [5767202] 0))), (a0, .inr (8, [.int 2, .int 0, .int 1, .int 0, .int 0, .int 0, .ref a1, .ref a2, .int 0, .int 0, .ref a3, .ref a4, .ref a5, .ref a6, .ref a7, .ref a8, .ref a9, .int 0, .int 0, .int 0, .ref a10, .ref a11, .ref a12, .ref a13, .int 0, .int 0, .ref a14, .ref a15, .ref a16, .ref a17, .int 0, .int 0, .ref a18, .ref a19, .ref a20, .ref a21])), (a4, .inl (k 1, 9, .inr (.inl (tL [1, 0, 0, 0, 1, 0, 0, 0, 0] 0))))] := hD
    refine lv_iconst (v := 1) hx hb dX11_image_32 (by decide) ?_
    refine lv_istore_n (lv' := [(2, .int 1), (0, .ref a0), (1, .int 7)]) hx hb dX11_image_33 rfl hl (by decide) rfl (fun ls hl => ?_)
    refine lv_iconst (v := 0) hx hb dX11_image_34 (by decide) ?_
    refine lv_istore_n (lv' := [(3, .int 0), (2, .int 1), (0, .ref a0), (1, .int 7)]) hx hb dX11_image_35 rfl hl (by decide) rfl (fun ls hl => ?_)
    refine lv_iload_n hx hb dX11_image_36 rfl (lv_at hl 0 rfl) ?_
    refine lv_iload_n hx hb dX11_image_37 rfl (lv_at hl 1 rfl) ?_
    refine lv_icmp_ge (tgt := 182) hx hb dX11_image_38 (by decide) (fun cc => absurd cc (by decide +kernel)) (fun _ => ?_)
    refine lv_iconst (v := 0) hx hb dX11_image_41 (by decide) ?_
    refine lv_istore (lv' := [(4, .int 0), (3, .int 0), (2, .int 1), (0, .ref a0), (1, .int 7)]) hx hb dX11_image_42 hl (by decide) rfl (fun ls hl => ?_)
    refine lv_iload hx hb dX11_image_44 (lv_at hl 0 rfl) ?_
    refine lv_aload_n hx hb dX11_image_46 rfl (lv_at hl 3 rfl) ?_
    refine va_get (D := D) (ci := 8) (v := .int 0) (C := RX11) (T := TX11) (N := 36) hx hb hU iX11 hown hK.1 hP 1 rfl rfl 1 (by decide) (hU _ w786) (fun _ h9 => h9) rfl dX11_image_47 ?_
    refine lv_icmp_ge (tgt := 176) hx hb dX11_image_50 (by decide) (fun _ => ?_) (fun cc => absurd (by decide +kernel) cc)
    refine lv_iinc (v := 1) (lv' := [(3, .int 1), (4, .int 0), (2, .int 1), (0, .ref a0), (1, .int 7)]) hx hb dX11_image_176 hl (k := 1) rfl (by decide) (by decide) rfl (fun ls hl => ?_)
    refine lv_goto (tgt := 36) hx hb dX11_image_179 (by decide) ?_
    refine lv_iload_n hx hb dX11_image_36 rfl (lv_at hl 0 rfl) ?_
    refine lv_iload_n hx hb dX11_image_37 rfl (lv_at hl 2 rfl) ?_
    refine lv_icmp_ge (tgt := 182) hx hb dX11_image_38 (by decide) (fun _ => ?_) (fun cc => absurd (by decide +kernel) cc)
    refine lv_iload_n hx hb dX11_image_182 rfl (lv_at hl 2 rfl) ?_
    exact retI (v := 1) hx hb hr hlocks hS (show (1 : Int32) = F_image 7 by first | decide +kernel | (have g_7 : (7 : Int32).toInt = 7 := (by decide +kernel); unfold F_image; (repeat (first | rw [if_pos (by omega)] | rw [if_neg (by omega)])))) dX11_image_183
abbrev BX11_faithful_1 (D : va_G) (k : Nat → ClassId) (a0 a4 a10 a11 a12 a13 a14 a1 a2 a3 a5 a6 a7 a8 a9 a15 a16 a17 a18 a19 a20 a21 : Nat) (x0 : Int32) (A : Nat → Prop) (r : Int32) (H : Heap) : Prop := r = F_faithful x0
set_option maxHeartbeats 4000000 in
set_option maxRecDepth 100000 in
theorem cX11_faithful_1 (l : Launch) (D : va_G) (k : Nat → ClassId) (sz : Nat) (a0 a4 a10 a11 a12 a13 a14 a1 a2 a3 a5 a6 a7 a8 a9 a15 a16 a17 a18 a19 a20 a21 : Nat) (x0 : Int32) : Met l yX11_faithful (Cond.code yX11_faithful cX11_faithful 5 (some .int) :: uw) ({ frames := 3, cells := 0, slots := 0, locals := 66 }) (pC D k sz [.ref a0, .int x0] [(a0, .inr (8, [.int 2, .int 0, .int 1, .int 0, .int 0, .int 0, .ref a1, .ref a2, .int 0, .int 0, .ref a3, .ref a4, .ref a5, .ref a6, .ref a7, .ref a8, .ref a9, .int 0, .int 0, .int 0, .ref a10, .ref a11, .ref a12, .ref a13, .int 0, .int 0, .ref a14, .ref a15, .ref a16, .ref a17, .int 0, .int 0, .ref a18, .ref a19, .ref a20, .ref a21])), (a4, .inl (k 1, 9, .inr (.inl (tL [] 0)))), (a10, .inl (k 1, 900, .inr (.inl (tL [] 0)))), (a11, .inl (k 0, 100, .inl (tI [] 0))), (a12, .inl (k 0, 100, .inl (tI [] 0))), (a13, .inl (k 0, 100, .inl (tI [] 0))), (a14, .inl (k 0, 400, .inl (tI [] 0)))]) (qI (BX11_faithful_1 D k a0 a4 a10 a11 a12 a13 a14 a1 a2 a3 a5 a6 a7 a8 a9 a15 a16 a17 a18 a19 a20 a21 x0 (va_A [(a0, .inr (8, [.int 2, .int 0, .int 1, .int 0, .int 0, .int 0, .ref a1, .ref a2, .int 0, .int 0, .ref a3, .ref a4, .ref a5, .ref a6, .ref a7, .ref a8, .ref a9, .int 0, .int 0, .int 0, .ref a10, .ref a11, .ref a12, .ref a13, .int 0, .int 0, .ref a14, .ref a15, .ref a16, .ref a17, .int 0, .int 0, .ref a18, .ref a19, .ref a20, .ref a21])), (a4, .inl (k 1, 9, .inr (.inl (tL [] 0)))), (a10, .inl (k 1, 900, .inr (.inl (tL [] 0)))), (a11, .inl (k 0, 100, .inl (tI [] 0))), (a12, .inl (k 0, 100, .inl (tI [] 0))), (a13, .inl (k 0, 100, .inl (tI [] 0))), (a14, .inl (k 0, 400, .inl (tI [] 0)))] sz)) (va_A [(a0, .inr (8, [.int 2, .int 0, .int 1, .int 0, .int 0, .int 0, .ref a1, .ref a2, .int 0, .int 0, .ref a3, .ref a4, .ref a5, .ref a6, .ref a7, .ref a8, .ref a9, .int 0, .int 0, .int 0, .ref a10, .ref a11, .ref a12, .ref a13, .int 0, .int 0, .ref a14, .ref a15, .ref a16, .ref a17, .int 0, .int 0, .ref a18, .ref a19, .ref a20, .ref a21])), (a4, .inl (k 1, 9, .inr (.inl (tL [] 0)))), (a10, .inl (k 1, 900, .inr (.inl (tL [] 0)))), (a11, .inl (k 0, 100, .inl (tI [] 0))), (a12, .inl (k 0, 100, .inl (tI [] 0))), (a13, .inl (k 0, 100, .inl (tI [] 0))), (a14, .inl (k 0, 400, .inl (tI [] 0)))] sz)) 0 0 (va_A [(a0, .inr (8, [.int 2, .int 0, .int 1, .int 0, .int 0, .int 0, .ref a1, .ref a2, .int 0, .int 0, .ref a3, .ref a4, .ref a5, .ref a6, .ref a7, .ref a8, .ref a9, .int 0, .int 0, .int 0, .ref a10, .ref a11, .ref a12, .ref a13, .int 0, .int 0, .ref a14, .ref a15, .ref a16, .ref a17, .int 0, .int 0, .ref a18, .ref a19, .ref a20, .ref a21])), (a4, .inl (k 1, 9, .inr (.inl (tL [] 0)))), (a10, .inl (k 1, 900, .inr (.inl (tL [] 0)))), (a11, .inl (k 0, 100, .inl (tI [] 0))), (a12, .inl (k 0, 100, .inl (tI [] 0))), (a13, .inl (k 0, 100, .inl (tI [] 0))), (a14, .inl (k 0, 400, .inl (tI [] 0)))] sz) := by
  refine begin_ (Qc := fun A => qI (BX11_faithful_1 D k a0 a4 a10 a11 a12 a13 a14 a1 a2 a3 a5 a6 a7 a8 a9 a15 a16 a17 a18 a19 a20 a21 x0 A) A) (by decide) (Nat.le_of_ble_eq_true rfl) ?_
  intro p e s m below meth c ls A hx hb hr hml hown hlocks hin hU hK hsz hP hD hS hA hl
  have hl : lv_has ls 5 [(0, .ref a0), (1, .int x0)] := hl
  clear hsz
  refine lv_iload_n hx hb dX11_faithful_0 rfl (lv_at hl 1 rfl) ?_
  refine cI (rS (As := [.int x0]) (rest := []) (wc := []) hx hb hml hown hU hK hP hD [] rfl (by decide) (cX11_isPrime_1 l D k _ (x0)) w1118 w1116 w1117 w72 hdX11_isPrime ⟨rfl, rfl⟩ ⟨Nat.le_of_ble_eq_true rfl, Nat.le_of_ble_eq_true rfl⟩ rfl hl.1 (Nat.le_of_ble_eq_true rfl) dX11_faithful_1 ⟨Nat.le_of_ble_eq_true rfl, Nat.le_of_ble_eq_true rfl⟩) hP hD hS hA (wr := [(a0, .inr (8, [.int 2, .int 0, .int 1, .int 0, .int 0, .int 0, .ref a1, .ref a2, .int 0, .int 0, .ref a3, .ref a4, .ref a5, .ref a6, .ref a7, .ref a8, .ref a9, .int 0, .int 0, .int 0, .ref a10, .ref a11, .ref a12, .ref a13, .int 0, .int 0, .ref a14, .ref a15, .ref a16, .ref a17, .int 0, .int 0, .ref a18, .ref a19, .ref a20, .ref a21])), (a4, .inl (k 1, 9, .inr (.inl (tL [] 0)))), (a10, .inl (k 1, 900, .inr (.inl (tL [] 0)))), (a11, .inl (k 0, 100, .inl (tI [] 0))), (a12, .inl (k 0, 100, .inl (tI [] 0))), (a13, .inl (k 0, 100, .inl (tI [] 0))), (a14, .inl (k 0, 400, .inl (tI [] 0)))]) [] [0, 1, 2, 3, 4, 5, 6] rfl rfl (by decide) (by decide) (fun r1 H locs hB J hS => ?_)
  rcases hB with ⟨c_2, rfl, hP1, hD1⟩ | ⟨c_3, rfl, hP1, hD1⟩ | ⟨c_4, rfl, hP1, hD1⟩ | ⟨c_5, c_6, c_7, c_8, rfl, hP1, hD1⟩ | ⟨c_9, rfl, hP1, hD1⟩
  · skip
    obtain ⟨hP, hD⟩ := J _ hP1 hD1
    have hP : va_P D cl0 [(a0, .inr (8, [.int 2, .int 0, .int 1, .int 0, .int 0, .int 0, .ref a1, .ref a2, .int 0, .int 0, .ref a3, .ref a4, .ref a5, .ref a6, .ref a7, .ref a8, .ref a9, .int 0, .int 0, .int 0, .ref a10, .ref a11, .ref a12, .ref a13, .int 0, .int 0, .ref a14, .ref a15, .ref a16, .ref a17, .int 0, .int 0, .ref a18, .ref a19, .ref a20, .ref a21])), (a4, .inl (k 1, 9, .inr (.inl (tL [] 0)))), (a10, .inl (k 1, 900, .inr (.inl (tL [] 0)))), (a11, .inl (k 0, 100, .inl (tI [] 0))), (a12, .inl (k 0, 100, .inl (tI [] 0))), (a13, .inl (k 0, 100, .inl (tI [] 0))), (a14, .inl (k 0, 400, .inl (tI [] 0)))] H := hP
    have hD : va_D A [(a0, .inr (8, [.int 2, .int 0, .int 1, .int 0, .int 0, .int 0, .ref a1, .ref a2, .int 0, .int 0, .ref a3, .ref a4, .ref a5, .ref a6, .ref a7, .ref a8, .ref a9, .int 0, .int 0, .int 0, .ref a10, .ref a11, .ref a12, .ref a13, .int 0, .int 0, .ref a14, .ref a15, .ref a16, .ref a17, .int 0, .int 0, .ref a18, .ref a19, .ref a20, .ref a21])), (a4, .inl (k 1, 9, .inr (.inl (tL [] 0)))), (a10, .inl (k 1, 900, .inr (.inl (tL [] 0)))), (a11, .inl (k 0, 100, .inl (tI [] 0))), (a12, .inl (k 0, 100, .inl (tI [] 0))), (a13, .inl (k 0, 100, .inl (tI [] 0))), (a14, .inl (k 0, 400, .inl (tI [] 0)))] := hD
    subst c_2
    refine lv_if_ne (tgt := 9) hx hb dX11_faithful_4 (by decide) (fun _ => ?_) (fun cc => absurd cc (by decide +kernel))
    refine lv_aload_n hx hb dX11_faithful_9 rfl (lv_at hl 0 rfl) ?_
    refine cV (rV (q0 := 0) (ci := 8) (As := []) (rest := []) (wc := [(a0, .inr (8, [.int 2, .int 0, .int 1, .int 0, .int 0, .int 0, .ref a1, .ref a2, .int 0, .int 0, .ref a3, .ref a4, .ref a5, .ref a6, .ref a7, .ref a8, .ref a9, .int 0, .int 0, .int 0, .ref a10, .ref a11, .ref a12, .ref a13, .int 0, .int 0, .ref a14, .ref a15, .ref a16, .ref a17, .int 0, .int 0, .ref a18, .ref a19, .ref a20, .ref a21])), (a4, .inl (k 1, 9, .inr (.inl (tL [] 0)))), (a10, .inl (k 1, 900, .inr (.inl (tL [] 0)))), (a11, .inl (k 0, 100, .inl (tI [] 0))), (a12, .inl (k 0, 100, .inl (tI [] 0))), (a13, .inl (k 0, 100, .inl (tI [] 0)))]) hx hb hml hown hU hK hP hD rfl rfl [0, 1, 2, 3, 4, 5] rfl (by decide) (cX11_findList_1 l D k _ a0 a4 a10 a11 a12 a13 a1 a2 a3 a5 a6 a7 a8 a9 a14 a15 a16 a17 a18 a19 a20 a21) w1039 w1036 w1038 w47 w72 hdX11_findList ⟨rfl, rfl⟩ ⟨Nat.le_of_ble_eq_true rfl, Nat.le_of_ble_eq_true rfl⟩ rfl hl.1 (Nat.le_of_ble_eq_true rfl) dX11_faithful_10 ⟨Nat.le_of_ble_eq_true rfl, Nat.le_of_ble_eq_true rfl⟩) hP hD hS hA (wr := [(a14, .inl (k 0, 400, .inl (tI [] 0)))]) [0, 1, 2, 3, 4, 5] [6] rfl rfl (by decide) (by decide) (fun H locs hB J hS => ?_)
    obtain ⟨hP1, hD1⟩ := hB
    obtain ⟨hP, hD⟩ := J _ hP1 hD1
    have hP : va_P D cl0 [(a14, .inl (k 0, 400, .inl (tI [] 0))), (a0, .inr (8, [.int 2, .int 0, .int 1, .int 0, .int 0, .int 0, .ref a1, .ref a2, .int 0, .int 1, .ref a3, .ref a4, .ref a5, .ref a6, .ref a7, .ref a8, .ref a9, .int 0, .int 0, .int 0, .ref a10, .ref a11, .ref a12, .ref a13, .int 1, .int 1, .ref a14, .ref a15, .ref a16, .ref a17, .int 0, .int 0, .ref a18, .ref a19, .ref a20, .ref a21])), (a4, .inl (k 1, 9, .inr (.inl (tL [1, 0, 0, 0, 1, 0, 0, 0, 0] 0)))), (a10, .inl (k 1, 900, .inr (.inl (tL [1, 0, 0, 0, 1, 0, 0, 0, 0] 0)))), (a11, .inl (k 0, 100, .inl (tI [(-3)] 0))), (a12, .inl (k 0, 100, .inl (tI [(-3)] 0))), (a13, .inl (k 0, 100, .inl (tI [0] 0)))] H := hP
    have hD : va_D A [(a14, .inl (k 0, 400, .inl (tI [] 0))), (a0, .inr (8, [.int 2, .int 0, .int 1, .int 0, .int 0, .int 0, .ref a1, .ref a2, .int 0, .int 1, .ref a3, .ref a4, .ref a5, .ref a6, .ref a7, .ref a8, .ref a9, .int 0, .int 0, .int 0, .ref a10, .ref a11, .ref a12, .ref a13, .int 1, .int 1, .ref a14, .ref a15, .ref a16, .ref a17, .int 0, .int 0, .ref a18, .ref a19, .ref a20, .ref a21])), (a4, .inl (k 1, 9, .inr (.inl (tL [1, 0, 0, 0, 1, 0, 0, 0, 0] 0)))), (a10, .inl (k 1, 900, .inr (.inl (tL [1, 0, 0, 0, 1, 0, 0, 0, 0] 0)))), (a11, .inl (k 0, 100, .inl (tI [(-3)] 0))), (a12, .inl (k 0, 100, .inl (tI [(-3)] 0))), (a13, .inl (k 0, 100, .inl (tI [0] 0)))] := hD
    refine lv_iconst (v := 1) hx hb dX11_faithful_13 (by decide) ?_
    refine lv_istore_n (lv' := [(2, .int 1), (0, .ref a0), (1, .int 2)]) hx hb dX11_faithful_14 rfl hl (by decide) rfl (fun ls hl => ?_)
    refine lv_iconst (v := 0) hx hb dX11_faithful_15 (by decide) ?_
    refine lv_istore_n (lv' := [(3, .int 0), (2, .int 1), (0, .ref a0), (1, .int 2)]) hx hb dX11_faithful_16 rfl hl (by decide) rfl (fun ls hl => ?_)
    refine lv_iload_n hx hb dX11_faithful_17 rfl (lv_at hl 0 rfl) ?_
    refine lv_aload_n hx hb dX11_faithful_18 rfl (lv_at hl 2 rfl) ?_
    refine va_get (D := D) (ci := 8) (v := .int 1) (C := RX11) (T := TX11) (N := 36) hx hb hU iX11 hown hK.1 hP 1 rfl rfl 24 (by decide) (hU _ w809) (fun _ h9 => h9) rfl dX11_faithful_19 ?_
    refine lv_icmp_ge (tgt := 96) hx hb dX11_faithful_22 (by decide) (fun cc => absurd cc (by decide +kernel)) (fun _ => ?_)
    refine lv_aload_n hx hb dX11_faithful_25 rfl (lv_at hl 2 rfl) ?_
    refine lv_iload_n hx hb dX11_faithful_26 rfl (lv_at hl 0 rfl) ?_
    refine lv_aload_n hx hb dX11_faithful_27 rfl (lv_at hl 2 rfl) ?_
    refine va_get (D := D) (ci := 8) (v := .ref a4) (C := RX11) (T := TX11) (N := 36) hx hb hU iX11 hown hK.1 hP 1 rfl rfl 11 (by decide) (hU _ w796) (fun _ h9 => h9) rfl dX11_faithful_28 ?_
    refine cV (rV (q0 := 1) (ci := 8) (As := [.int 0, .ref a4]) (rest := []) (wc := [(a0, .inr (8, [.int 2, .int 0, .int 1, .int 0, .int 0, .int 0, .ref a1, .ref a2, .int 0, .int 1, .ref a3, .ref a4, .ref a5, .ref a6, .ref a7, .ref a8, .ref a9, .int 0, .int 0, .int 0, .ref a10, .ref a11, .ref a12, .ref a13, .int 1, .int 1, .ref a14, .ref a15, .ref a16, .ref a17, .int 0, .int 0, .ref a18, .ref a19, .ref a20, .ref a21])), (a10, .inl (k 1, 900, .inr (.inl (tL [1, 0, 0, 0, 1, 0, 0, 0, 0] 0)))), (a4, .inl (k 1, 9, .inr (.inl (tL [1, 0, 0, 0, 1, 0, 0, 0, 0] 0))))]) hx hb hml hown hU hK hP hD rfl rfl [1, 3, 2] rfl (by decide) (cX11_takesElement_1 l D k _ a0 a10 a4 a1 a2 a3 a5 a6 a7 a8 a9 a11 a12 a13 a14 a15 a16 a17 a18 a19 a20 a21) w1047 w1044 w1046 w49 w72 hdX11_takesElement ⟨rfl, rfl⟩ ⟨Nat.le_of_ble_eq_true rfl, Nat.le_of_ble_eq_true rfl⟩ rfl hl.1 (Nat.le_of_ble_eq_true rfl) dX11_faithful_31 ⟨Nat.le_of_ble_eq_true rfl, Nat.le_of_ble_eq_true rfl⟩) hP hD hS hA (wr := [(a14, .inl (k 0, 400, .inl (tI [] 0))), (a11, .inl (k 0, 100, .inl (tI [(-3)] 0))), (a12, .inl (k 0, 100, .inl (tI [(-3)] 0))), (a13, .inl (k 0, 100, .inl (tI [0] 0)))]) [1, 3, 2] [0, 4, 5, 6] rfl rfl (by decide) (by decide) (fun H locs hB J hS => ?_)
    obtain ⟨hP1, hD1⟩ := hB
    obtain ⟨hP, hD⟩ := J _ hP1 hD1
    have hP : va_P D cl0 [(a14, .inl (k 0, 400, .inl (tI [] 0))), (a11, .inl (k 0, 100, .inl (tI [(-3)] 0))), (a12, .inl (k 0, 100, .inl (tI [(-3)] 0))), (a13, .inl (k 0, 100, .inl (tI [0] 0))), (a0, .inr (8, [.int 2, .int 0, .int 1, .int 0, .int 0, .int 0, .ref a1, .ref a2, .int 0, .int 1, .ref a3, .ref a4, .ref a5, .ref a6, .ref a7, .ref a8, .ref a9, .int 0, .int 0, .int 0, .ref a10, .ref a11, .ref a12, .ref a13, .int 1, .int 1, .ref a14, .ref a15, .ref a16, .ref a17, .int 0, .int 0, .ref a18, .ref a19, .ref a20, .ref a21])), (a10, .inl (k 1, 900, .inr (.inl (tL [1, 0, 0, 0, 1, 0, 0, 0, 0] 0)))), (a4, .inl (k 1, 9, .inr (.inl (tL [1, 0, 0, 0, 1, 0, 0, 0, 0] 0))))] H := hP
    have hD : va_D A [(a14, .inl (k 0, 400, .inl (tI [] 0))), (a11, .inl (k 0, 100, .inl (tI [(-3)] 0))), (a12, .inl (k 0, 100, .inl (tI [(-3)] 0))), (a13, .inl (k 0, 100, .inl (tI [0] 0))), (a0, .inr (8, [.int 2, .int 0, .int 1, .int 0, .int 0, .int 0, .ref a1, .ref a2, .int 0, .int 1, .ref a3, .ref a4, .ref a5, .ref a6, .ref a7, .ref a8, .ref a9, .int 0, .int 0, .int 0, .ref a10, .ref a11, .ref a12, .ref a13, .int 1, .int 1, .ref a14, .ref a15, .ref a16, .ref a17, .int 0, .int 0, .ref a18, .ref a19, .ref a20, .ref a21])), (a10, .inl (k 1, 900, .inr (.inl (tL [1, 0, 0, 0, 1, 0, 0, 0, 0] 0)))), (a4, .inl (k 1, 9, .inr (.inl (tL [1, 0, 0, 0, 1, 0, 0, 0, 0] 0))))] := hD
    refine lv_aload_n hx hb dX11_faithful_34 rfl (lv_at hl 2 rfl) ?_
    refine va_get (D := D) (ci := 8) (v := .ref a14) (C := RX11) (T := TX11) (N := 36) hx hb hU iX11 hown hK.1 hP 4 rfl rfl 26 (by decide) (hU _ w811) (fun _ h9 => h9) rfl dX11_faithful_35 ?_
    refine lv_iload_n hx hb dX11_faithful_38 rfl (lv_at hl 0 rfl) ?_
    refine lv_aload_n hx hb dX11_faithful_39 rfl (lv_at hl 2 rfl) ?_
    refine lv_aload_n hx hb dX11_faithful_40 rfl (lv_at hl 2 rfl) ?_
    refine va_get (D := D) (ci := 8) (v := .ref a4) (C := RX11) (T := TX11) (N := 36) hx hb hU iX11 hown hK.1 hP 4 rfl rfl 11 (by decide) (hU _ w796) (fun _ h9 => h9) rfl dX11_faithful_41 ?_
    refine lv_iload_n hx hb dX11_faithful_44 rfl (lv_at hl 3 rfl) ?_
    refine cI (rV (q0 := 4) (ci := 8) (As := [.ref a4, .int 2]) (rest := [.int 0, .ref a14]) (wc := [(a4, .inl (k 1, 9, .inr (.inl (tL [1, 0, 0, 0, 1, 0, 0, 0, 0] 0))))]) hx hb hml hown hU hK hP hD rfl rfl [6] rfl (by decide) (cX11_told_1 l D k _ a4 a0) w1122 w1119 w1121 w55 w72 hdX11_told ⟨rfl, rfl⟩ ⟨Nat.le_of_ble_eq_true rfl, Nat.le_of_ble_eq_true rfl⟩ rfl hl.1 (Nat.le_of_ble_eq_true rfl) dX11_faithful_45 ⟨Nat.le_of_ble_eq_true rfl, Nat.le_of_ble_eq_true rfl⟩) hP hD hS hA (wr := [(a14, .inl (k 0, 400, .inl (tI [] 0))), (a11, .inl (k 0, 100, .inl (tI [(-3)] 0))), (a12, .inl (k 0, 100, .inl (tI [(-3)] 0))), (a13, .inl (k 0, 100, .inl (tI [0] 0))), (a0, .inr (8, [.int 2, .int 0, .int 1, .int 0, .int 0, .int 0, .ref a1, .ref a2, .int 0, .int 1, .ref a3, .ref a4, .ref a5, .ref a6, .ref a7, .ref a8, .ref a9, .int 0, .int 0, .int 0, .ref a10, .ref a11, .ref a12, .ref a13, .int 1, .int 1, .ref a14, .ref a15, .ref a16, .ref a17, .int 0, .int 0, .ref a18, .ref a19, .ref a20, .ref a21])), (a10, .inl (k 1, 900, .inr (.inl (tL [1, 0, 0, 0, 1, 0, 0, 0, 0] 0))))]) [6] [0, 1, 2, 3, 4, 5] rfl rfl (by decide) (by decide) (fun r12 H locs hB J hS => ?_)
    obtain ⟨rfl, hP1, hD1⟩ := hB
    obtain ⟨hP, hD⟩ := J _ hP1 hD1
    have hP : va_P D cl0 [(a14, .inl (k 0, 400, .inl (tI [] 0))), (a11, .inl (k 0, 100, .inl (tI [(-3)] 0))), (a12, .inl (k 0, 100, .inl (tI [(-3)] 0))), (a13, .inl (k 0, 100, .inl (tI [0] 0))), (a0, .inr (8, [.int 2, .int 0, .int 1, .int 0, .int 0, .int 0, .ref a1, .ref a2, .int 0, .int 1, .ref a3, .ref a4, .ref a5, .ref a6, .ref a7, .ref a8, .ref a9, .int 0, .int 0, .int 0, .ref a10, .ref a11, .ref a12, .ref a13, .int 1, .int 1, .ref a14, .ref a15, .ref a16, .ref a17, .int 0, .int 0, .ref a18, .ref a19, .ref a20, .ref a21])), (a10, .inl (k 1, 900, .inr (.inl (tL [1, 0, 0, 0, 1, 0, 0, 0, 0] 0)))), (a4, .inl (k 1, 9, .inr (.inl (tL [1, 0, 0, 0, 1, 0, 0, 0, 0] 0))))] H := hP
    have hD : va_D A [(a14, .inl (k 0, 400, .inl (tI [] 0))), (a11, .inl (k 0, 100, .inl (tI [(-3)] 0))), (a12, .inl (k 0, 100, .inl (tI [(-3)] 0))), (a13, .inl (k 0, 100, .inl (tI [0] 0))), (a0, .inr (8, [.int 2, .int 0, .int 1, .int 0, .int 0, .int 0, .ref a1, .ref a2, .int 0, .int 1, .ref a3, .ref a4, .ref a5, .ref a6, .ref a7, .ref a8, .ref a9, .int 0, .int 0, .int 0, .ref a10, .ref a11, .ref a12, .ref a13, .int 1, .int 1, .ref a14, .ref a15, .ref a16, .ref a17, .int 0, .int 0, .ref a18, .ref a19, .ref a20, .ref a21])), (a10, .inl (k 1, 900, .inr (.inl (tL [1, 0, 0, 0, 1, 0, 0, 0, 0] 0)))), (a4, .inl (k 1, 9, .inr (.inl (tL [1, 0, 0, 0, 1, 0, 0, 0, 0] 0))))] := hD
    refine st_i (j := 0) (g := tI [272] 0) hx hb hK hP hD hS 0 rfl (by decide +kernel) upd_tI dX11_faithful_48 (fun H locs hP hD hS => ?_)
    have hP : va_P D cl0 [(a14, .inl (k 0, 400, .inl (tI [272] 0))), (a11, .inl (k 0, 100, .inl (tI [(-3)] 0))), (a12, .inl (k 0, 100, .inl (tI [(-3)] 0))), (a13, .inl (k 0, 100, .inl (tI [0] 0))), (a0, .inr (8, [.int 2, .int 0, .int 1, .int 0, .int 0, .int 0, .ref a1, .ref a2, .int 0, .int 1, .ref a3, .ref a4, .ref a5, .ref a6, .ref a7, .ref a8, .ref a9, .int 0, .int 0, .int 0, .ref a10, .ref a11, .ref a12, .ref a13, .int 1, .int 1, .ref a14, .ref a15, .ref a16, .ref a17, .int 0, .int 0, .ref a18, .ref a19, .ref a20, .ref a21])), (a10, .inl (k 1, 900, .inr (.inl (tL [1, 0, 0, 0, 1, 0, 0, 0, 0] 0)))), (a4, .inl (k 1, 9, .inr (.inl (tL [1, 0, 0, 0, 1, 0, 0, 0, 0] 0))))] H := hP
    have hD : va_D A [(a14, .inl (k 0, 400, .inl (tI [272] 0))), (a11, .inl (k 0, 100, .inl (tI [(-3)] 0))), (a12, .inl (k 0, 100, .inl (tI [(-3)] 0))), (a13, .inl (k 0, 100, .inl (tI [0] 0))), (a0, .inr (8, [.int 2, .int 0, .int 1, .int 0, .int 0, .int 0, .ref a1, .ref a2, .int 0, .int 1, .ref a3, .ref a4, .ref a5, .ref a6, .ref a7, .ref a8, .ref a9, .int 0, .int 0, .int 0, .ref a10, .ref a11, .ref a12, .ref a13, .int 1, .int 1, .ref a14, .ref a15, .ref a16, .ref a17, .int 0, .int 0, .ref a18, .ref a19, .ref a20, .ref a21])), (a10, .inl (k 1, 900, .inr (.inl (tL [1, 0, 0, 0, 1, 0, 0, 0, 0] 0)))), (a4, .inl (k 1, 9, .inr (.inl (tL [1, 0, 0, 0, 1, 0, 0, 0, 0] 0))))] := hD
    refine lv_iconst (v := 0) hx hb dX11_faithful_49 (by decide) ?_
    refine lv_istore (lv' := [(4, .int 0), (3, .int 0), (2, .int 1), (0, .ref a0), (1, .int 2)]) hx hb dX11_faithful_50 hl (by decide) rfl (fun ls hl => ?_)
    refine lv_iload hx hb dX11_faithful_52 (lv_at hl 0 rfl) ?_
    refine lv_iload_n hx hb dX11_faithful_54 rfl (lv_at hl 1 rfl) ?_
    refine lv_icmp_ge (tgt := 90) hx hb dX11_faithful_55 (by decide) (fun _ => ?_) (fun cc => absurd (by decide +kernel) cc)
    refine lv_iinc (v := 1) (lv' := [(3, .int 1), (4, .int 0), (2, .int 1), (0, .ref a0), (1, .int 2)]) hx hb dX11_faithful_90 hl (k := 1) rfl (by decide) (by decide) rfl (fun ls hl => ?_)
    refine lv_goto (tgt := 17) hx hb dX11_faithful_93 (by decide) ?_
    refine lv_iload_n hx hb dX11_faithful_17 rfl (lv_at hl 0 rfl) ?_
    refine lv_aload_n hx hb dX11_faithful_18 rfl (lv_at hl 3 rfl) ?_
    refine va_get (D := D) (ci := 8) (v := .int 1) (C := RX11) (T := TX11) (N := 36) hx hb hU iX11 hown hK.1 hP 4 rfl rfl 24 (by decide) (hU _ w809) (fun _ h9 => h9) rfl dX11_faithful_19 ?_
    refine lv_icmp_ge (tgt := 96) hx hb dX11_faithful_22 (by decide) (fun _ => ?_) (fun cc => absurd (by decide +kernel) cc)
    refine lv_iload_n hx hb dX11_faithful_96 rfl (lv_at hl 2 rfl) ?_
    refine lv_if_eq (tgt := 104) hx hb dX11_faithful_97 (by decide) (fun cc => absurd cc (by decide +kernel)) (fun _ => ?_)
    refine lv_iconst (v := 1) hx hb dX11_faithful_100 (by decide) ?_
    refine lv_goto (tgt := 105) hx hb dX11_faithful_101 (by decide) ?_
    exact retI (v := 1) hx hb hr hlocks hS (show (1 : Int32) = F_faithful 2 by first | decide +kernel | (have g_2 : (2 : Int32).toInt = 2 := (by decide +kernel); unfold F_faithful; (repeat (first | rw [if_pos (by omega)] | rw [if_neg (by omega)])))) dX11_faithful_105
  · skip
    obtain ⟨hP, hD⟩ := J _ hP1 hD1
    have hP : va_P D cl0 [(a0, .inr (8, [.int 2, .int 0, .int 1, .int 0, .int 0, .int 0, .ref a1, .ref a2, .int 0, .int 0, .ref a3, .ref a4, .ref a5, .ref a6, .ref a7, .ref a8, .ref a9, .int 0, .int 0, .int 0, .ref a10, .ref a11, .ref a12, .ref a13, .int 0, .int 0, .ref a14, .ref a15, .ref a16, .ref a17, .int 0, .int 0, .ref a18, .ref a19, .ref a20, .ref a21])), (a4, .inl (k 1, 9, .inr (.inl (tL [] 0)))), (a10, .inl (k 1, 900, .inr (.inl (tL [] 0)))), (a11, .inl (k 0, 100, .inl (tI [] 0))), (a12, .inl (k 0, 100, .inl (tI [] 0))), (a13, .inl (k 0, 100, .inl (tI [] 0))), (a14, .inl (k 0, 400, .inl (tI [] 0)))] H := hP
    have hD : va_D A [(a0, .inr (8, [.int 2, .int 0, .int 1, .int 0, .int 0, .int 0, .ref a1, .ref a2, .int 0, .int 0, .ref a3, .ref a4, .ref a5, .ref a6, .ref a7, .ref a8, .ref a9, .int 0, .int 0, .int 0, .ref a10, .ref a11, .ref a12, .ref a13, .int 0, .int 0, .ref a14, .ref a15, .ref a16, .ref a17, .int 0, .int 0, .ref a18, .ref a19, .ref a20, .ref a21])), (a4, .inl (k 1, 9, .inr (.inl (tL [] 0)))), (a10, .inl (k 1, 900, .inr (.inl (tL [] 0)))), (a11, .inl (k 0, 100, .inl (tI [] 0))), (a12, .inl (k 0, 100, .inl (tI [] 0))), (a13, .inl (k 0, 100, .inl (tI [] 0))), (a14, .inl (k 0, 400, .inl (tI [] 0)))] := hD
    subst c_3
    refine lv_if_ne (tgt := 9) hx hb dX11_faithful_4 (by decide) (fun _ => ?_) (fun cc => absurd cc (by decide +kernel))
    refine lv_aload_n hx hb dX11_faithful_9 rfl (lv_at hl 0 rfl) ?_
    refine cV (rV (q0 := 0) (ci := 8) (As := []) (rest := []) (wc := [(a0, .inr (8, [.int 2, .int 0, .int 1, .int 0, .int 0, .int 0, .ref a1, .ref a2, .int 0, .int 0, .ref a3, .ref a4, .ref a5, .ref a6, .ref a7, .ref a8, .ref a9, .int 0, .int 0, .int 0, .ref a10, .ref a11, .ref a12, .ref a13, .int 0, .int 0, .ref a14, .ref a15, .ref a16, .ref a17, .int 0, .int 0, .ref a18, .ref a19, .ref a20, .ref a21])), (a4, .inl (k 1, 9, .inr (.inl (tL [] 0)))), (a10, .inl (k 1, 900, .inr (.inl (tL [] 0)))), (a11, .inl (k 0, 100, .inl (tI [] 0))), (a12, .inl (k 0, 100, .inl (tI [] 0))), (a13, .inl (k 0, 100, .inl (tI [] 0)))]) hx hb hml hown hU hK hP hD rfl rfl [0, 1, 2, 3, 4, 5] rfl (by decide) (cX11_findList_1 l D k _ a0 a4 a10 a11 a12 a13 a1 a2 a3 a5 a6 a7 a8 a9 a14 a15 a16 a17 a18 a19 a20 a21) w1039 w1036 w1038 w47 w72 hdX11_findList ⟨rfl, rfl⟩ ⟨Nat.le_of_ble_eq_true rfl, Nat.le_of_ble_eq_true rfl⟩ rfl hl.1 (Nat.le_of_ble_eq_true rfl) dX11_faithful_10 ⟨Nat.le_of_ble_eq_true rfl, Nat.le_of_ble_eq_true rfl⟩) hP hD hS hA (wr := [(a14, .inl (k 0, 400, .inl (tI [] 0)))]) [0, 1, 2, 3, 4, 5] [6] rfl rfl (by decide) (by decide) (fun H locs hB J hS => ?_)
    obtain ⟨hP1, hD1⟩ := hB
    obtain ⟨hP, hD⟩ := J _ hP1 hD1
    have hP : va_P D cl0 [(a14, .inl (k 0, 400, .inl (tI [] 0))), (a0, .inr (8, [.int 2, .int 0, .int 1, .int 0, .int 0, .int 0, .ref a1, .ref a2, .int 0, .int 1, .ref a3, .ref a4, .ref a5, .ref a6, .ref a7, .ref a8, .ref a9, .int 0, .int 0, .int 0, .ref a10, .ref a11, .ref a12, .ref a13, .int 1, .int 1, .ref a14, .ref a15, .ref a16, .ref a17, .int 0, .int 0, .ref a18, .ref a19, .ref a20, .ref a21])), (a4, .inl (k 1, 9, .inr (.inl (tL [1, 0, 0, 0, 1, 0, 0, 0, 0] 0)))), (a10, .inl (k 1, 900, .inr (.inl (tL [1, 0, 0, 0, 1, 0, 0, 0, 0] 0)))), (a11, .inl (k 0, 100, .inl (tI [(-3)] 0))), (a12, .inl (k 0, 100, .inl (tI [(-3)] 0))), (a13, .inl (k 0, 100, .inl (tI [0] 0)))] H := hP
    have hD : va_D A [(a14, .inl (k 0, 400, .inl (tI [] 0))), (a0, .inr (8, [.int 2, .int 0, .int 1, .int 0, .int 0, .int 0, .ref a1, .ref a2, .int 0, .int 1, .ref a3, .ref a4, .ref a5, .ref a6, .ref a7, .ref a8, .ref a9, .int 0, .int 0, .int 0, .ref a10, .ref a11, .ref a12, .ref a13, .int 1, .int 1, .ref a14, .ref a15, .ref a16, .ref a17, .int 0, .int 0, .ref a18, .ref a19, .ref a20, .ref a21])), (a4, .inl (k 1, 9, .inr (.inl (tL [1, 0, 0, 0, 1, 0, 0, 0, 0] 0)))), (a10, .inl (k 1, 900, .inr (.inl (tL [1, 0, 0, 0, 1, 0, 0, 0, 0] 0)))), (a11, .inl (k 0, 100, .inl (tI [(-3)] 0))), (a12, .inl (k 0, 100, .inl (tI [(-3)] 0))), (a13, .inl (k 0, 100, .inl (tI [0] 0)))] := hD
    refine lv_iconst (v := 1) hx hb dX11_faithful_13 (by decide) ?_
    refine lv_istore_n (lv' := [(2, .int 1), (0, .ref a0), (1, .int 3)]) hx hb dX11_faithful_14 rfl hl (by decide) rfl (fun ls hl => ?_)
    refine lv_iconst (v := 0) hx hb dX11_faithful_15 (by decide) ?_
    refine lv_istore_n (lv' := [(3, .int 0), (2, .int 1), (0, .ref a0), (1, .int 3)]) hx hb dX11_faithful_16 rfl hl (by decide) rfl (fun ls hl => ?_)
    refine lv_iload_n hx hb dX11_faithful_17 rfl (lv_at hl 0 rfl) ?_
    refine lv_aload_n hx hb dX11_faithful_18 rfl (lv_at hl 2 rfl) ?_
    refine va_get (D := D) (ci := 8) (v := .int 1) (C := RX11) (T := TX11) (N := 36) hx hb hU iX11 hown hK.1 hP 1 rfl rfl 24 (by decide) (hU _ w809) (fun _ h9 => h9) rfl dX11_faithful_19 ?_
    refine lv_icmp_ge (tgt := 96) hx hb dX11_faithful_22 (by decide) (fun cc => absurd cc (by decide +kernel)) (fun _ => ?_)
    refine lv_aload_n hx hb dX11_faithful_25 rfl (lv_at hl 2 rfl) ?_
    refine lv_iload_n hx hb dX11_faithful_26 rfl (lv_at hl 0 rfl) ?_
    refine lv_aload_n hx hb dX11_faithful_27 rfl (lv_at hl 2 rfl) ?_
    refine va_get (D := D) (ci := 8) (v := .ref a4) (C := RX11) (T := TX11) (N := 36) hx hb hU iX11 hown hK.1 hP 1 rfl rfl 11 (by decide) (hU _ w796) (fun _ h9 => h9) rfl dX11_faithful_28 ?_
    refine cV (rV (q0 := 1) (ci := 8) (As := [.int 0, .ref a4]) (rest := []) (wc := [(a0, .inr (8, [.int 2, .int 0, .int 1, .int 0, .int 0, .int 0, .ref a1, .ref a2, .int 0, .int 1, .ref a3, .ref a4, .ref a5, .ref a6, .ref a7, .ref a8, .ref a9, .int 0, .int 0, .int 0, .ref a10, .ref a11, .ref a12, .ref a13, .int 1, .int 1, .ref a14, .ref a15, .ref a16, .ref a17, .int 0, .int 0, .ref a18, .ref a19, .ref a20, .ref a21])), (a10, .inl (k 1, 900, .inr (.inl (tL [1, 0, 0, 0, 1, 0, 0, 0, 0] 0)))), (a4, .inl (k 1, 9, .inr (.inl (tL [1, 0, 0, 0, 1, 0, 0, 0, 0] 0))))]) hx hb hml hown hU hK hP hD rfl rfl [1, 3, 2] rfl (by decide) (cX11_takesElement_1 l D k _ a0 a10 a4 a1 a2 a3 a5 a6 a7 a8 a9 a11 a12 a13 a14 a15 a16 a17 a18 a19 a20 a21) w1047 w1044 w1046 w49 w72 hdX11_takesElement ⟨rfl, rfl⟩ ⟨Nat.le_of_ble_eq_true rfl, Nat.le_of_ble_eq_true rfl⟩ rfl hl.1 (Nat.le_of_ble_eq_true rfl) dX11_faithful_31 ⟨Nat.le_of_ble_eq_true rfl, Nat.le_of_ble_eq_true rfl⟩) hP hD hS hA (wr := [(a14, .inl (k 0, 400, .inl (tI [] 0))), (a11, .inl (k 0, 100, .inl (tI [(-3)] 0))), (a12, .inl (k 0, 100, .inl (tI [(-3)] 0))), (a13, .inl (k 0, 100, .inl (tI [0] 0)))]) [1, 3, 2] [0, 4, 5, 6] rfl rfl (by decide) (by decide) (fun H locs hB J hS => ?_)
    obtain ⟨hP1, hD1⟩ := hB
    obtain ⟨hP, hD⟩ := J _ hP1 hD1
    have hP : va_P D cl0 [(a14, .inl (k 0, 400, .inl (tI [] 0))), (a11, .inl (k 0, 100, .inl (tI [(-3)] 0))), (a12, .inl (k 0, 100, .inl (tI [(-3)] 0))), (a13, .inl (k 0, 100, .inl (tI [0] 0))), (a0, .inr (8, [.int 2, .int 0, .int 1, .int 0, .int 0, .int 0, .ref a1, .ref a2, .int 0, .int 1, .ref a3, .ref a4, .ref a5, .ref a6, .ref a7, .ref a8, .ref a9, .int 0, .int 0, .int 0, .ref a10, .ref a11, .ref a12, .ref a13, .int 1, .int 1, .ref a14, .ref a15, .ref a16, .ref a17, .int 0, .int 0, .ref a18, .ref a19, .ref a20, .ref a21])), (a10, .inl (k 1, 900, .inr (.inl (tL [1, 0, 0, 0, 1, 0, 0, 0, 0] 0)))), (a4, .inl (k 1, 9, .inr (.inl (tL [1, 0, 0, 0, 1, 0, 0, 0, 0] 0))))] H := hP
    have hD : va_D A [(a14, .inl (k 0, 400, .inl (tI [] 0))), (a11, .inl (k 0, 100, .inl (tI [(-3)] 0))), (a12, .inl (k 0, 100, .inl (tI [(-3)] 0))), (a13, .inl (k 0, 100, .inl (tI [0] 0))), (a0, .inr (8, [.int 2, .int 0, .int 1, .int 0, .int 0, .int 0, .ref a1, .ref a2, .int 0, .int 1, .ref a3, .ref a4, .ref a5, .ref a6, .ref a7, .ref a8, .ref a9, .int 0, .int 0, .int 0, .ref a10, .ref a11, .ref a12, .ref a13, .int 1, .int 1, .ref a14, .ref a15, .ref a16, .ref a17, .int 0, .int 0, .ref a18, .ref a19, .ref a20, .ref a21])), (a10, .inl (k 1, 900, .inr (.inl (tL [1, 0, 0, 0, 1, 0, 0, 0, 0] 0)))), (a4, .inl (k 1, 9, .inr (.inl (tL [1, 0, 0, 0, 1, 0, 0, 0, 0] 0))))] := hD
    refine lv_aload_n hx hb dX11_faithful_34 rfl (lv_at hl 2 rfl) ?_
    refine va_get (D := D) (ci := 8) (v := .ref a14) (C := RX11) (T := TX11) (N := 36) hx hb hU iX11 hown hK.1 hP 4 rfl rfl 26 (by decide) (hU _ w811) (fun _ h9 => h9) rfl dX11_faithful_35 ?_
    refine lv_iload_n hx hb dX11_faithful_38 rfl (lv_at hl 0 rfl) ?_
    refine lv_aload_n hx hb dX11_faithful_39 rfl (lv_at hl 2 rfl) ?_
    refine lv_aload_n hx hb dX11_faithful_40 rfl (lv_at hl 2 rfl) ?_
    refine va_get (D := D) (ci := 8) (v := .ref a4) (C := RX11) (T := TX11) (N := 36) hx hb hU iX11 hown hK.1 hP 4 rfl rfl 11 (by decide) (hU _ w796) (fun _ h9 => h9) rfl dX11_faithful_41 ?_
    refine lv_iload_n hx hb dX11_faithful_44 rfl (lv_at hl 3 rfl) ?_
    refine cI (rV (q0 := 4) (ci := 8) (As := [.ref a4, .int 3]) (rest := [.int 0, .ref a14]) (wc := [(a4, .inl (k 1, 9, .inr (.inl (tL [1, 0, 0, 0, 1, 0, 0, 0, 0] 0))))]) hx hb hml hown hU hK hP hD rfl rfl [6] rfl (by decide) (cX11_told_2 l D k _ a4 a0) w1122 w1119 w1121 w55 w72 hdX11_told ⟨rfl, rfl⟩ ⟨Nat.le_of_ble_eq_true rfl, Nat.le_of_ble_eq_true rfl⟩ rfl hl.1 (Nat.le_of_ble_eq_true rfl) dX11_faithful_45 ⟨Nat.le_of_ble_eq_true rfl, Nat.le_of_ble_eq_true rfl⟩) hP hD hS hA (wr := [(a14, .inl (k 0, 400, .inl (tI [] 0))), (a11, .inl (k 0, 100, .inl (tI [(-3)] 0))), (a12, .inl (k 0, 100, .inl (tI [(-3)] 0))), (a13, .inl (k 0, 100, .inl (tI [0] 0))), (a0, .inr (8, [.int 2, .int 0, .int 1, .int 0, .int 0, .int 0, .ref a1, .ref a2, .int 0, .int 1, .ref a3, .ref a4, .ref a5, .ref a6, .ref a7, .ref a8, .ref a9, .int 0, .int 0, .int 0, .ref a10, .ref a11, .ref a12, .ref a13, .int 1, .int 1, .ref a14, .ref a15, .ref a16, .ref a17, .int 0, .int 0, .ref a18, .ref a19, .ref a20, .ref a21])), (a10, .inl (k 1, 900, .inr (.inl (tL [1, 0, 0, 0, 1, 0, 0, 0, 0] 0))))]) [6] [0, 1, 2, 3, 4, 5] rfl rfl (by decide) (by decide) (fun r15 H locs hB J hS => ?_)
    obtain ⟨rfl, hP1, hD1⟩ := hB
    obtain ⟨hP, hD⟩ := J _ hP1 hD1
    have hP : va_P D cl0 [(a14, .inl (k 0, 400, .inl (tI [] 0))), (a11, .inl (k 0, 100, .inl (tI [(-3)] 0))), (a12, .inl (k 0, 100, .inl (tI [(-3)] 0))), (a13, .inl (k 0, 100, .inl (tI [0] 0))), (a0, .inr (8, [.int 2, .int 0, .int 1, .int 0, .int 0, .int 0, .ref a1, .ref a2, .int 0, .int 1, .ref a3, .ref a4, .ref a5, .ref a6, .ref a7, .ref a8, .ref a9, .int 0, .int 0, .int 0, .ref a10, .ref a11, .ref a12, .ref a13, .int 1, .int 1, .ref a14, .ref a15, .ref a16, .ref a17, .int 0, .int 0, .ref a18, .ref a19, .ref a20, .ref a21])), (a10, .inl (k 1, 900, .inr (.inl (tL [1, 0, 0, 0, 1, 0, 0, 0, 0] 0)))), (a4, .inl (k 1, 9, .inr (.inl (tL [1, 0, 0, 0, 1, 0, 0, 0, 0] 0))))] H := hP
    have hD : va_D A [(a14, .inl (k 0, 400, .inl (tI [] 0))), (a11, .inl (k 0, 100, .inl (tI [(-3)] 0))), (a12, .inl (k 0, 100, .inl (tI [(-3)] 0))), (a13, .inl (k 0, 100, .inl (tI [0] 0))), (a0, .inr (8, [.int 2, .int 0, .int 1, .int 0, .int 0, .int 0, .ref a1, .ref a2, .int 0, .int 1, .ref a3, .ref a4, .ref a5, .ref a6, .ref a7, .ref a8, .ref a9, .int 0, .int 0, .int 0, .ref a10, .ref a11, .ref a12, .ref a13, .int 1, .int 1, .ref a14, .ref a15, .ref a16, .ref a17, .int 0, .int 0, .ref a18, .ref a19, .ref a20, .ref a21])), (a10, .inl (k 1, 900, .inr (.inl (tL [1, 0, 0, 0, 1, 0, 0, 0, 0] 0)))), (a4, .inl (k 1, 9, .inr (.inl (tL [1, 0, 0, 0, 1, 0, 0, 0, 0] 0))))] := hD
    refine st_i (j := 0) (g := tI [6642] 0) hx hb hK hP hD hS 0 rfl (by decide +kernel) upd_tI dX11_faithful_48 (fun H locs hP hD hS => ?_)
    have hP : va_P D cl0 [(a14, .inl (k 0, 400, .inl (tI [6642] 0))), (a11, .inl (k 0, 100, .inl (tI [(-3)] 0))), (a12, .inl (k 0, 100, .inl (tI [(-3)] 0))), (a13, .inl (k 0, 100, .inl (tI [0] 0))), (a0, .inr (8, [.int 2, .int 0, .int 1, .int 0, .int 0, .int 0, .ref a1, .ref a2, .int 0, .int 1, .ref a3, .ref a4, .ref a5, .ref a6, .ref a7, .ref a8, .ref a9, .int 0, .int 0, .int 0, .ref a10, .ref a11, .ref a12, .ref a13, .int 1, .int 1, .ref a14, .ref a15, .ref a16, .ref a17, .int 0, .int 0, .ref a18, .ref a19, .ref a20, .ref a21])), (a10, .inl (k 1, 900, .inr (.inl (tL [1, 0, 0, 0, 1, 0, 0, 0, 0] 0)))), (a4, .inl (k 1, 9, .inr (.inl (tL [1, 0, 0, 0, 1, 0, 0, 0, 0] 0))))] H := hP
    have hD : va_D A [(a14, .inl (k 0, 400, .inl (tI [6642] 0))), (a11, .inl (k 0, 100, .inl (tI [(-3)] 0))), (a12, .inl (k 0, 100, .inl (tI [(-3)] 0))), (a13, .inl (k 0, 100, .inl (tI [0] 0))), (a0, .inr (8, [.int 2, .int 0, .int 1, .int 0, .int 0, .int 0, .ref a1, .ref a2, .int 0, .int 1, .ref a3, .ref a4, .ref a5, .ref a6, .ref a7, .ref a8, .ref a9, .int 0, .int 0, .int 0, .ref a10, .ref a11, .ref a12, .ref a13, .int 1, .int 1, .ref a14, .ref a15, .ref a16, .ref a17, .int 0, .int 0, .ref a18, .ref a19, .ref a20, .ref a21])), (a10, .inl (k 1, 900, .inr (.inl (tL [1, 0, 0, 0, 1, 0, 0, 0, 0] 0)))), (a4, .inl (k 1, 9, .inr (.inl (tL [1, 0, 0, 0, 1, 0, 0, 0, 0] 0))))] := hD
    refine lv_iconst (v := 0) hx hb dX11_faithful_49 (by decide) ?_
    refine lv_istore (lv' := [(4, .int 0), (3, .int 0), (2, .int 1), (0, .ref a0), (1, .int 3)]) hx hb dX11_faithful_50 hl (by decide) rfl (fun ls hl => ?_)
    refine lv_iload hx hb dX11_faithful_52 (lv_at hl 0 rfl) ?_
    refine lv_iload_n hx hb dX11_faithful_54 rfl (lv_at hl 1 rfl) ?_
    refine lv_icmp_ge (tgt := 90) hx hb dX11_faithful_55 (by decide) (fun _ => ?_) (fun cc => absurd (by decide +kernel) cc)
    refine lv_iinc (v := 1) (lv' := [(3, .int 1), (4, .int 0), (2, .int 1), (0, .ref a0), (1, .int 3)]) hx hb dX11_faithful_90 hl (k := 1) rfl (by decide) (by decide) rfl (fun ls hl => ?_)
    refine lv_goto (tgt := 17) hx hb dX11_faithful_93 (by decide) ?_
    refine lv_iload_n hx hb dX11_faithful_17 rfl (lv_at hl 0 rfl) ?_
    refine lv_aload_n hx hb dX11_faithful_18 rfl (lv_at hl 3 rfl) ?_
    refine va_get (D := D) (ci := 8) (v := .int 1) (C := RX11) (T := TX11) (N := 36) hx hb hU iX11 hown hK.1 hP 4 rfl rfl 24 (by decide) (hU _ w809) (fun _ h9 => h9) rfl dX11_faithful_19 ?_
    refine lv_icmp_ge (tgt := 96) hx hb dX11_faithful_22 (by decide) (fun _ => ?_) (fun cc => absurd (by decide +kernel) cc)
    refine lv_iload_n hx hb dX11_faithful_96 rfl (lv_at hl 2 rfl) ?_
    refine lv_if_eq (tgt := 104) hx hb dX11_faithful_97 (by decide) (fun cc => absurd cc (by decide +kernel)) (fun _ => ?_)
    refine lv_iconst (v := 1) hx hb dX11_faithful_100 (by decide) ?_
    refine lv_goto (tgt := 105) hx hb dX11_faithful_101 (by decide) ?_
    exact retI (v := 1) hx hb hr hlocks hS (show (1 : Int32) = F_faithful 3 by first | decide +kernel | (have g_3 : (3 : Int32).toInt = 3 := (by decide +kernel); unfold F_faithful; (repeat (first | rw [if_pos (by omega)] | rw [if_neg (by omega)])))) dX11_faithful_105
  · skip
    obtain ⟨hP, hD⟩ := J _ hP1 hD1
    have hP : va_P D cl0 [(a0, .inr (8, [.int 2, .int 0, .int 1, .int 0, .int 0, .int 0, .ref a1, .ref a2, .int 0, .int 0, .ref a3, .ref a4, .ref a5, .ref a6, .ref a7, .ref a8, .ref a9, .int 0, .int 0, .int 0, .ref a10, .ref a11, .ref a12, .ref a13, .int 0, .int 0, .ref a14, .ref a15, .ref a16, .ref a17, .int 0, .int 0, .ref a18, .ref a19, .ref a20, .ref a21])), (a4, .inl (k 1, 9, .inr (.inl (tL [] 0)))), (a10, .inl (k 1, 900, .inr (.inl (tL [] 0)))), (a11, .inl (k 0, 100, .inl (tI [] 0))), (a12, .inl (k 0, 100, .inl (tI [] 0))), (a13, .inl (k 0, 100, .inl (tI [] 0))), (a14, .inl (k 0, 400, .inl (tI [] 0)))] H := hP
    have hD : va_D A [(a0, .inr (8, [.int 2, .int 0, .int 1, .int 0, .int 0, .int 0, .ref a1, .ref a2, .int 0, .int 0, .ref a3, .ref a4, .ref a5, .ref a6, .ref a7, .ref a8, .ref a9, .int 0, .int 0, .int 0, .ref a10, .ref a11, .ref a12, .ref a13, .int 0, .int 0, .ref a14, .ref a15, .ref a16, .ref a17, .int 0, .int 0, .ref a18, .ref a19, .ref a20, .ref a21])), (a4, .inl (k 1, 9, .inr (.inl (tL [] 0)))), (a10, .inl (k 1, 900, .inr (.inl (tL [] 0)))), (a11, .inl (k 0, 100, .inl (tI [] 0))), (a12, .inl (k 0, 100, .inl (tI [] 0))), (a13, .inl (k 0, 100, .inl (tI [] 0))), (a14, .inl (k 0, 400, .inl (tI [] 0)))] := hD
    subst c_4
    refine lv_if_ne (tgt := 9) hx hb dX11_faithful_4 (by decide) (fun _ => ?_) (fun cc => absurd cc (by decide +kernel))
    refine lv_aload_n hx hb dX11_faithful_9 rfl (lv_at hl 0 rfl) ?_
    refine cV (rV (q0 := 0) (ci := 8) (As := []) (rest := []) (wc := [(a0, .inr (8, [.int 2, .int 0, .int 1, .int 0, .int 0, .int 0, .ref a1, .ref a2, .int 0, .int 0, .ref a3, .ref a4, .ref a5, .ref a6, .ref a7, .ref a8, .ref a9, .int 0, .int 0, .int 0, .ref a10, .ref a11, .ref a12, .ref a13, .int 0, .int 0, .ref a14, .ref a15, .ref a16, .ref a17, .int 0, .int 0, .ref a18, .ref a19, .ref a20, .ref a21])), (a4, .inl (k 1, 9, .inr (.inl (tL [] 0)))), (a10, .inl (k 1, 900, .inr (.inl (tL [] 0)))), (a11, .inl (k 0, 100, .inl (tI [] 0))), (a12, .inl (k 0, 100, .inl (tI [] 0))), (a13, .inl (k 0, 100, .inl (tI [] 0)))]) hx hb hml hown hU hK hP hD rfl rfl [0, 1, 2, 3, 4, 5] rfl (by decide) (cX11_findList_1 l D k _ a0 a4 a10 a11 a12 a13 a1 a2 a3 a5 a6 a7 a8 a9 a14 a15 a16 a17 a18 a19 a20 a21) w1039 w1036 w1038 w47 w72 hdX11_findList ⟨rfl, rfl⟩ ⟨Nat.le_of_ble_eq_true rfl, Nat.le_of_ble_eq_true rfl⟩ rfl hl.1 (Nat.le_of_ble_eq_true rfl) dX11_faithful_10 ⟨Nat.le_of_ble_eq_true rfl, Nat.le_of_ble_eq_true rfl⟩) hP hD hS hA (wr := [(a14, .inl (k 0, 400, .inl (tI [] 0)))]) [0, 1, 2, 3, 4, 5] [6] rfl rfl (by decide) (by decide) (fun H locs hB J hS => ?_)
    obtain ⟨hP1, hD1⟩ := hB
    obtain ⟨hP, hD⟩ := J _ hP1 hD1
    have hP : va_P D cl0 [(a14, .inl (k 0, 400, .inl (tI [] 0))), (a0, .inr (8, [.int 2, .int 0, .int 1, .int 0, .int 0, .int 0, .ref a1, .ref a2, .int 0, .int 1, .ref a3, .ref a4, .ref a5, .ref a6, .ref a7, .ref a8, .ref a9, .int 0, .int 0, .int 0, .ref a10, .ref a11, .ref a12, .ref a13, .int 1, .int 1, .ref a14, .ref a15, .ref a16, .ref a17, .int 0, .int 0, .ref a18, .ref a19, .ref a20, .ref a21])), (a4, .inl (k 1, 9, .inr (.inl (tL [1, 0, 0, 0, 1, 0, 0, 0, 0] 0)))), (a10, .inl (k 1, 900, .inr (.inl (tL [1, 0, 0, 0, 1, 0, 0, 0, 0] 0)))), (a11, .inl (k 0, 100, .inl (tI [(-3)] 0))), (a12, .inl (k 0, 100, .inl (tI [(-3)] 0))), (a13, .inl (k 0, 100, .inl (tI [0] 0)))] H := hP
    have hD : va_D A [(a14, .inl (k 0, 400, .inl (tI [] 0))), (a0, .inr (8, [.int 2, .int 0, .int 1, .int 0, .int 0, .int 0, .ref a1, .ref a2, .int 0, .int 1, .ref a3, .ref a4, .ref a5, .ref a6, .ref a7, .ref a8, .ref a9, .int 0, .int 0, .int 0, .ref a10, .ref a11, .ref a12, .ref a13, .int 1, .int 1, .ref a14, .ref a15, .ref a16, .ref a17, .int 0, .int 0, .ref a18, .ref a19, .ref a20, .ref a21])), (a4, .inl (k 1, 9, .inr (.inl (tL [1, 0, 0, 0, 1, 0, 0, 0, 0] 0)))), (a10, .inl (k 1, 900, .inr (.inl (tL [1, 0, 0, 0, 1, 0, 0, 0, 0] 0)))), (a11, .inl (k 0, 100, .inl (tI [(-3)] 0))), (a12, .inl (k 0, 100, .inl (tI [(-3)] 0))), (a13, .inl (k 0, 100, .inl (tI [0] 0)))] := hD
    refine lv_iconst (v := 1) hx hb dX11_faithful_13 (by decide) ?_
    refine lv_istore_n (lv' := [(2, .int 1), (0, .ref a0), (1, .int 5)]) hx hb dX11_faithful_14 rfl hl (by decide) rfl (fun ls hl => ?_)
    refine lv_iconst (v := 0) hx hb dX11_faithful_15 (by decide) ?_
    refine lv_istore_n (lv' := [(3, .int 0), (2, .int 1), (0, .ref a0), (1, .int 5)]) hx hb dX11_faithful_16 rfl hl (by decide) rfl (fun ls hl => ?_)
    refine lv_iload_n hx hb dX11_faithful_17 rfl (lv_at hl 0 rfl) ?_
    refine lv_aload_n hx hb dX11_faithful_18 rfl (lv_at hl 2 rfl) ?_
    refine va_get (D := D) (ci := 8) (v := .int 1) (C := RX11) (T := TX11) (N := 36) hx hb hU iX11 hown hK.1 hP 1 rfl rfl 24 (by decide) (hU _ w809) (fun _ h9 => h9) rfl dX11_faithful_19 ?_
    refine lv_icmp_ge (tgt := 96) hx hb dX11_faithful_22 (by decide) (fun cc => absurd cc (by decide +kernel)) (fun _ => ?_)
    refine lv_aload_n hx hb dX11_faithful_25 rfl (lv_at hl 2 rfl) ?_
    refine lv_iload_n hx hb dX11_faithful_26 rfl (lv_at hl 0 rfl) ?_
    refine lv_aload_n hx hb dX11_faithful_27 rfl (lv_at hl 2 rfl) ?_
    refine va_get (D := D) (ci := 8) (v := .ref a4) (C := RX11) (T := TX11) (N := 36) hx hb hU iX11 hown hK.1 hP 1 rfl rfl 11 (by decide) (hU _ w796) (fun _ h9 => h9) rfl dX11_faithful_28 ?_
    refine cV (rV (q0 := 1) (ci := 8) (As := [.int 0, .ref a4]) (rest := []) (wc := [(a0, .inr (8, [.int 2, .int 0, .int 1, .int 0, .int 0, .int 0, .ref a1, .ref a2, .int 0, .int 1, .ref a3, .ref a4, .ref a5, .ref a6, .ref a7, .ref a8, .ref a9, .int 0, .int 0, .int 0, .ref a10, .ref a11, .ref a12, .ref a13, .int 1, .int 1, .ref a14, .ref a15, .ref a16, .ref a17, .int 0, .int 0, .ref a18, .ref a19, .ref a20, .ref a21])), (a10, .inl (k 1, 900, .inr (.inl (tL [1, 0, 0, 0, 1, 0, 0, 0, 0] 0)))), (a4, .inl (k 1, 9, .inr (.inl (tL [1, 0, 0, 0, 1, 0, 0, 0, 0] 0))))]) hx hb hml hown hU hK hP hD rfl rfl [1, 3, 2] rfl (by decide) (cX11_takesElement_1 l D k _ a0 a10 a4 a1 a2 a3 a5 a6 a7 a8 a9 a11 a12 a13 a14 a15 a16 a17 a18 a19 a20 a21) w1047 w1044 w1046 w49 w72 hdX11_takesElement ⟨rfl, rfl⟩ ⟨Nat.le_of_ble_eq_true rfl, Nat.le_of_ble_eq_true rfl⟩ rfl hl.1 (Nat.le_of_ble_eq_true rfl) dX11_faithful_31 ⟨Nat.le_of_ble_eq_true rfl, Nat.le_of_ble_eq_true rfl⟩) hP hD hS hA (wr := [(a14, .inl (k 0, 400, .inl (tI [] 0))), (a11, .inl (k 0, 100, .inl (tI [(-3)] 0))), (a12, .inl (k 0, 100, .inl (tI [(-3)] 0))), (a13, .inl (k 0, 100, .inl (tI [0] 0)))]) [1, 3, 2] [0, 4, 5, 6] rfl rfl (by decide) (by decide) (fun H locs hB J hS => ?_)
    obtain ⟨hP1, hD1⟩ := hB
    obtain ⟨hP, hD⟩ := J _ hP1 hD1
    have hP : va_P D cl0 [(a14, .inl (k 0, 400, .inl (tI [] 0))), (a11, .inl (k 0, 100, .inl (tI [(-3)] 0))), (a12, .inl (k 0, 100, .inl (tI [(-3)] 0))), (a13, .inl (k 0, 100, .inl (tI [0] 0))), (a0, .inr (8, [.int 2, .int 0, .int 1, .int 0, .int 0, .int 0, .ref a1, .ref a2, .int 0, .int 1, .ref a3, .ref a4, .ref a5, .ref a6, .ref a7, .ref a8, .ref a9, .int 0, .int 0, .int 0, .ref a10, .ref a11, .ref a12, .ref a13, .int 1, .int 1, .ref a14, .ref a15, .ref a16, .ref a17, .int 0, .int 0, .ref a18, .ref a19, .ref a20, .ref a21])), (a10, .inl (k 1, 900, .inr (.inl (tL [1, 0, 0, 0, 1, 0, 0, 0, 0] 0)))), (a4, .inl (k 1, 9, .inr (.inl (tL [1, 0, 0, 0, 1, 0, 0, 0, 0] 0))))] H := hP
    have hD : va_D A [(a14, .inl (k 0, 400, .inl (tI [] 0))), (a11, .inl (k 0, 100, .inl (tI [(-3)] 0))), (a12, .inl (k 0, 100, .inl (tI [(-3)] 0))), (a13, .inl (k 0, 100, .inl (tI [0] 0))), (a0, .inr (8, [.int 2, .int 0, .int 1, .int 0, .int 0, .int 0, .ref a1, .ref a2, .int 0, .int 1, .ref a3, .ref a4, .ref a5, .ref a6, .ref a7, .ref a8, .ref a9, .int 0, .int 0, .int 0, .ref a10, .ref a11, .ref a12, .ref a13, .int 1, .int 1, .ref a14, .ref a15, .ref a16, .ref a17, .int 0, .int 0, .ref a18, .ref a19, .ref a20, .ref a21])), (a10, .inl (k 1, 900, .inr (.inl (tL [1, 0, 0, 0, 1, 0, 0, 0, 0] 0)))), (a4, .inl (k 1, 9, .inr (.inl (tL [1, 0, 0, 0, 1, 0, 0, 0, 0] 0))))] := hD
    refine lv_aload_n hx hb dX11_faithful_34 rfl (lv_at hl 2 rfl) ?_
    refine va_get (D := D) (ci := 8) (v := .ref a14) (C := RX11) (T := TX11) (N := 36) hx hb hU iX11 hown hK.1 hP 4 rfl rfl 26 (by decide) (hU _ w811) (fun _ h9 => h9) rfl dX11_faithful_35 ?_
    refine lv_iload_n hx hb dX11_faithful_38 rfl (lv_at hl 0 rfl) ?_
    refine lv_aload_n hx hb dX11_faithful_39 rfl (lv_at hl 2 rfl) ?_
    refine lv_aload_n hx hb dX11_faithful_40 rfl (lv_at hl 2 rfl) ?_
    refine va_get (D := D) (ci := 8) (v := .ref a4) (C := RX11) (T := TX11) (N := 36) hx hb hU iX11 hown hK.1 hP 4 rfl rfl 11 (by decide) (hU _ w796) (fun _ h9 => h9) rfl dX11_faithful_41 ?_
    refine lv_iload_n hx hb dX11_faithful_44 rfl (lv_at hl 3 rfl) ?_
    refine cI (rV (q0 := 4) (ci := 8) (As := [.ref a4, .int 5]) (rest := [.int 0, .ref a14]) (wc := [(a4, .inl (k 1, 9, .inr (.inl (tL [1, 0, 0, 0, 1, 0, 0, 0, 0] 0))))]) hx hb hml hown hU hK hP hD rfl rfl [6] rfl (by decide) (cX11_told_3 l D k _ a4 a0) w1122 w1119 w1121 w55 w72 hdX11_told ⟨rfl, rfl⟩ ⟨Nat.le_of_ble_eq_true rfl, Nat.le_of_ble_eq_true rfl⟩ rfl hl.1 (Nat.le_of_ble_eq_true rfl) dX11_faithful_45 ⟨Nat.le_of_ble_eq_true rfl, Nat.le_of_ble_eq_true rfl⟩) hP hD hS hA (wr := [(a14, .inl (k 0, 400, .inl (tI [] 0))), (a11, .inl (k 0, 100, .inl (tI [(-3)] 0))), (a12, .inl (k 0, 100, .inl (tI [(-3)] 0))), (a13, .inl (k 0, 100, .inl (tI [0] 0))), (a0, .inr (8, [.int 2, .int 0, .int 1, .int 0, .int 0, .int 0, .ref a1, .ref a2, .int 0, .int 1, .ref a3, .ref a4, .ref a5, .ref a6, .ref a7, .ref a8, .ref a9, .int 0, .int 0, .int 0, .ref a10, .ref a11, .ref a12, .ref a13, .int 1, .int 1, .ref a14, .ref a15, .ref a16, .ref a17, .int 0, .int 0, .ref a18, .ref a19, .ref a20, .ref a21])), (a10, .inl (k 1, 900, .inr (.inl (tL [1, 0, 0, 0, 1, 0, 0, 0, 0] 0))))]) [6] [0, 1, 2, 3, 4, 5] rfl rfl (by decide) (by decide) (fun r18 H locs hB J hS => ?_)
    obtain ⟨rfl, hP1, hD1⟩ := hB
    obtain ⟨hP, hD⟩ := J _ hP1 hD1
    have hP : va_P D cl0 [(a14, .inl (k 0, 400, .inl (tI [] 0))), (a11, .inl (k 0, 100, .inl (tI [(-3)] 0))), (a12, .inl (k 0, 100, .inl (tI [(-3)] 0))), (a13, .inl (k 0, 100, .inl (tI [0] 0))), (a0, .inr (8, [.int 2, .int 0, .int 1, .int 0, .int 0, .int 0, .ref a1, .ref a2, .int 0, .int 1, .ref a3, .ref a4, .ref a5, .ref a6, .ref a7, .ref a8, .ref a9, .int 0, .int 0, .int 0, .ref a10, .ref a11, .ref a12, .ref a13, .int 1, .int 1, .ref a14, .ref a15, .ref a16, .ref a17, .int 0, .int 0, .ref a18, .ref a19, .ref a20, .ref a21])), (a10, .inl (k 1, 900, .inr (.inl (tL [1, 0, 0, 0, 1, 0, 0, 0, 0] 0)))), (a4, .inl (k 1, 9, .inr (.inl (tL [1, 0, 0, 0, 1, 0, 0, 0, 0] 0))))] H := hP
    have hD : va_D A [(a14, .inl (k 0, 400, .inl (tI [] 0))), (a11, .inl (k 0, 100, .inl (tI [(-3)] 0))), (a12, .inl (k 0, 100, .inl (tI [(-3)] 0))), (a13, .inl (k 0, 100, .inl (tI [0] 0))), (a0, .inr (8, [.int 2, .int 0, .int 1, .int 0, .int 0, .int 0, .ref a1, .ref a2, .int 0, .int 1, .ref a3, .ref a4, .ref a5, .ref a6, .ref a7, .ref a8, .ref a9, .int 0, .int 0, .int 0, .ref a10, .ref a11, .ref a12, .ref a13, .int 1, .int 1, .ref a14, .ref a15, .ref a16, .ref a17, .int 0, .int 0, .ref a18, .ref a19, .ref a20, .ref a21])), (a10, .inl (k 1, 900, .inr (.inl (tL [1, 0, 0, 0, 1, 0, 0, 0, 0] 0)))), (a4, .inl (k 1, 9, .inr (.inl (tL [1, 0, 0, 0, 1, 0, 0, 0, 0] 0))))] := hD
    refine st_i (j := 0) (g := tI [391250] 0) hx hb hK hP hD hS 0 rfl (by decide +kernel) upd_tI dX11_faithful_48 (fun H locs hP hD hS => ?_)
    have hP : va_P D cl0 [(a14, .inl (k 0, 400, .inl (tI [391250] 0))), (a11, .inl (k 0, 100, .inl (tI [(-3)] 0))), (a12, .inl (k 0, 100, .inl (tI [(-3)] 0))), (a13, .inl (k 0, 100, .inl (tI [0] 0))), (a0, .inr (8, [.int 2, .int 0, .int 1, .int 0, .int 0, .int 0, .ref a1, .ref a2, .int 0, .int 1, .ref a3, .ref a4, .ref a5, .ref a6, .ref a7, .ref a8, .ref a9, .int 0, .int 0, .int 0, .ref a10, .ref a11, .ref a12, .ref a13, .int 1, .int 1, .ref a14, .ref a15, .ref a16, .ref a17, .int 0, .int 0, .ref a18, .ref a19, .ref a20, .ref a21])), (a10, .inl (k 1, 900, .inr (.inl (tL [1, 0, 0, 0, 1, 0, 0, 0, 0] 0)))), (a4, .inl (k 1, 9, .inr (.inl (tL [1, 0, 0, 0, 1, 0, 0, 0, 0] 0))))] H := hP
    have hD : va_D A [(a14, .inl (k 0, 400, .inl (tI [391250] 0))), (a11, .inl (k 0, 100, .inl (tI [(-3)] 0))), (a12, .inl (k 0, 100, .inl (tI [(-3)] 0))), (a13, .inl (k 0, 100, .inl (tI [0] 0))), (a0, .inr (8, [.int 2, .int 0, .int 1, .int 0, .int 0, .int 0, .ref a1, .ref a2, .int 0, .int 1, .ref a3, .ref a4, .ref a5, .ref a6, .ref a7, .ref a8, .ref a9, .int 0, .int 0, .int 0, .ref a10, .ref a11, .ref a12, .ref a13, .int 1, .int 1, .ref a14, .ref a15, .ref a16, .ref a17, .int 0, .int 0, .ref a18, .ref a19, .ref a20, .ref a21])), (a10, .inl (k 1, 900, .inr (.inl (tL [1, 0, 0, 0, 1, 0, 0, 0, 0] 0)))), (a4, .inl (k 1, 9, .inr (.inl (tL [1, 0, 0, 0, 1, 0, 0, 0, 0] 0))))] := hD
    refine lv_iconst (v := 0) hx hb dX11_faithful_49 (by decide) ?_
    refine lv_istore (lv' := [(4, .int 0), (3, .int 0), (2, .int 1), (0, .ref a0), (1, .int 5)]) hx hb dX11_faithful_50 hl (by decide) rfl (fun ls hl => ?_)
    refine lv_iload hx hb dX11_faithful_52 (lv_at hl 0 rfl) ?_
    refine lv_iload_n hx hb dX11_faithful_54 rfl (lv_at hl 1 rfl) ?_
    refine lv_icmp_ge (tgt := 90) hx hb dX11_faithful_55 (by decide) (fun _ => ?_) (fun cc => absurd (by decide +kernel) cc)
    refine lv_iinc (v := 1) (lv' := [(3, .int 1), (4, .int 0), (2, .int 1), (0, .ref a0), (1, .int 5)]) hx hb dX11_faithful_90 hl (k := 1) rfl (by decide) (by decide) rfl (fun ls hl => ?_)
    refine lv_goto (tgt := 17) hx hb dX11_faithful_93 (by decide) ?_
    refine lv_iload_n hx hb dX11_faithful_17 rfl (lv_at hl 0 rfl) ?_
    refine lv_aload_n hx hb dX11_faithful_18 rfl (lv_at hl 3 rfl) ?_
    refine va_get (D := D) (ci := 8) (v := .int 1) (C := RX11) (T := TX11) (N := 36) hx hb hU iX11 hown hK.1 hP 4 rfl rfl 24 (by decide) (hU _ w809) (fun _ h9 => h9) rfl dX11_faithful_19 ?_
    refine lv_icmp_ge (tgt := 96) hx hb dX11_faithful_22 (by decide) (fun _ => ?_) (fun cc => absurd (by decide +kernel) cc)
    refine lv_iload_n hx hb dX11_faithful_96 rfl (lv_at hl 2 rfl) ?_
    refine lv_if_eq (tgt := 104) hx hb dX11_faithful_97 (by decide) (fun cc => absurd cc (by decide +kernel)) (fun _ => ?_)
    refine lv_iconst (v := 1) hx hb dX11_faithful_100 (by decide) ?_
    refine lv_goto (tgt := 105) hx hb dX11_faithful_101 (by decide) ?_
    exact retI (v := 1) hx hb hr hlocks hS (show (1 : Int32) = F_faithful 5 by first | decide +kernel | (have g_5 : (5 : Int32).toInt = 5 := (by decide +kernel); unfold F_faithful; (repeat (first | rw [if_pos (by omega)] | rw [if_neg (by omega)])))) dX11_faithful_105
  · skip
    obtain ⟨hP, hD⟩ := J _ hP1 hD1
    have hP : va_P D cl0 [(a0, .inr (8, [.int 2, .int 0, .int 1, .int 0, .int 0, .int 0, .ref a1, .ref a2, .int 0, .int 0, .ref a3, .ref a4, .ref a5, .ref a6, .ref a7, .ref a8, .ref a9, .int 0, .int 0, .int 0, .ref a10, .ref a11, .ref a12, .ref a13, .int 0, .int 0, .ref a14, .ref a15, .ref a16, .ref a17, .int 0, .int 0, .ref a18, .ref a19, .ref a20, .ref a21])), (a4, .inl (k 1, 9, .inr (.inl (tL [] 0)))), (a10, .inl (k 1, 900, .inr (.inl (tL [] 0)))), (a11, .inl (k 0, 100, .inl (tI [] 0))), (a12, .inl (k 0, 100, .inl (tI [] 0))), (a13, .inl (k 0, 100, .inl (tI [] 0))), (a14, .inl (k 0, 400, .inl (tI [] 0)))] H := hP
    have hD : va_D A [(a0, .inr (8, [.int 2, .int 0, .int 1, .int 0, .int 0, .int 0, .ref a1, .ref a2, .int 0, .int 0, .ref a3, .ref a4, .ref a5, .ref a6, .ref a7, .ref a8, .ref a9, .int 0, .int 0, .int 0, .ref a10, .ref a11, .ref a12, .ref a13, .int 0, .int 0, .ref a14, .ref a15, .ref a16, .ref a17, .int 0, .int 0, .ref a18, .ref a19, .ref a20, .ref a21])), (a4, .inl (k 1, 9, .inr (.inl (tL [] 0)))), (a10, .inl (k 1, 900, .inr (.inl (tL [] 0)))), (a11, .inl (k 0, 100, .inl (tI [] 0))), (a12, .inl (k 0, 100, .inl (tI [] 0))), (a13, .inl (k 0, 100, .inl (tI [] 0))), (a14, .inl (k 0, 400, .inl (tI [] 0)))] := hD
    refine lv_if_ne (tgt := 9) hx hb dX11_faithful_4 (by decide) (fun cc => absurd (by decide +kernel) cc) (fun _ => ?_)
    refine lv_iconst (v := (-1)) hx hb dX11_faithful_7 (by decide) ?_
    exact retI (v := (-1)) hx hb hr hlocks hS (show ((-1) : Int32) = F_faithful x0 by first | decide +kernel | (have f0 := cv_ne (x := x0.toInt) (y := 2) c_5 rfl (by decide +kernel); have f1 := cv_ne (x := x0.toInt) (y := 3) c_6 rfl (by decide +kernel); have f2 := cv_ne (x := x0.toInt) (y := 5) c_7 rfl (by decide +kernel); have f3 := cv_ne (x := x0.toInt) (y := 7) c_8 rfl (by decide +kernel); unfold F_faithful; (repeat (first | rw [if_pos (by omega)] | rw [if_neg (by omega)])))) dX11_faithful_8
  · skip
    obtain ⟨hP, hD⟩ := J _ hP1 hD1
    have hP : va_P D cl0 [(a0, .inr (8, [.int 2, .int 0, .int 1, .int 0, .int 0, .int 0, .ref a1, .ref a2, .int 0, .int 0, .ref a3, .ref a4, .ref a5, .ref a6, .ref a7, .ref a8, .ref a9, .int 0, .int 0, .int 0, .ref a10, .ref a11, .ref a12, .ref a13, .int 0, .int 0, .ref a14, .ref a15, .ref a16, .ref a17, .int 0, .int 0, .ref a18, .ref a19, .ref a20, .ref a21])), (a4, .inl (k 1, 9, .inr (.inl (tL [] 0)))), (a10, .inl (k 1, 900, .inr (.inl (tL [] 0)))), (a11, .inl (k 0, 100, .inl (tI [] 0))), (a12, .inl (k 0, 100, .inl (tI [] 0))), (a13, .inl (k 0, 100, .inl (tI [] 0))), (a14, .inl (k 0, 400, .inl (tI [] 0)))] H := hP
    have hD : va_D A [(a0, .inr (8, [.int 2, .int 0, .int 1, .int 0, .int 0, .int 0, .ref a1, .ref a2, .int 0, .int 0, .ref a3, .ref a4, .ref a5, .ref a6, .ref a7, .ref a8, .ref a9, .int 0, .int 0, .int 0, .ref a10, .ref a11, .ref a12, .ref a13, .int 0, .int 0, .ref a14, .ref a15, .ref a16, .ref a17, .int 0, .int 0, .ref a18, .ref a19, .ref a20, .ref a21])), (a4, .inl (k 1, 9, .inr (.inl (tL [] 0)))), (a10, .inl (k 1, 900, .inr (.inl (tL [] 0)))), (a11, .inl (k 0, 100, .inl (tI [] 0))), (a12, .inl (k 0, 100, .inl (tI [] 0))), (a13, .inl (k 0, 100, .inl (tI [] 0))), (a14, .inl (k 0, 400, .inl (tI [] 0)))] := hD
    subst c_9
    refine lv_if_ne (tgt := 9) hx hb dX11_faithful_4 (by decide) (fun _ => ?_) (fun cc => absurd cc (by decide +kernel))
    refine lv_aload_n hx hb dX11_faithful_9 rfl (lv_at hl 0 rfl) ?_
    refine cV (rV (q0 := 0) (ci := 8) (As := []) (rest := []) (wc := [(a0, .inr (8, [.int 2, .int 0, .int 1, .int 0, .int 0, .int 0, .ref a1, .ref a2, .int 0, .int 0, .ref a3, .ref a4, .ref a5, .ref a6, .ref a7, .ref a8, .ref a9, .int 0, .int 0, .int 0, .ref a10, .ref a11, .ref a12, .ref a13, .int 0, .int 0, .ref a14, .ref a15, .ref a16, .ref a17, .int 0, .int 0, .ref a18, .ref a19, .ref a20, .ref a21])), (a4, .inl (k 1, 9, .inr (.inl (tL [] 0)))), (a10, .inl (k 1, 900, .inr (.inl (tL [] 0)))), (a11, .inl (k 0, 100, .inl (tI [] 0))), (a12, .inl (k 0, 100, .inl (tI [] 0))), (a13, .inl (k 0, 100, .inl (tI [] 0)))]) hx hb hml hown hU hK hP hD rfl rfl [0, 1, 2, 3, 4, 5] rfl (by decide) (cX11_findList_1 l D k _ a0 a4 a10 a11 a12 a13 a1 a2 a3 a5 a6 a7 a8 a9 a14 a15 a16 a17 a18 a19 a20 a21) w1039 w1036 w1038 w47 w72 hdX11_findList ⟨rfl, rfl⟩ ⟨Nat.le_of_ble_eq_true rfl, Nat.le_of_ble_eq_true rfl⟩ rfl hl.1 (Nat.le_of_ble_eq_true rfl) dX11_faithful_10 ⟨Nat.le_of_ble_eq_true rfl, Nat.le_of_ble_eq_true rfl⟩) hP hD hS hA (wr := [(a14, .inl (k 0, 400, .inl (tI [] 0)))]) [0, 1, 2, 3, 4, 5] [6] rfl rfl (by decide) (by decide) (fun H locs hB J hS => ?_)
    obtain ⟨hP1, hD1⟩ := hB
    obtain ⟨hP, hD⟩ := J _ hP1 hD1
    have hP : va_P D cl0 [(a14, .inl (k 0, 400, .inl (tI [] 0))), (a0, .inr (8, [.int 2, .int 0, .int 1, .int 0, .int 0, .int 0, .ref a1, .ref a2, .int 0, .int 1, .ref a3, .ref a4, .ref a5, .ref a6, .ref a7, .ref a8, .ref a9, .int 0, .int 0, .int 0, .ref a10, .ref a11, .ref a12, .ref a13, .int 1, .int 1, .ref a14, .ref a15, .ref a16, .ref a17, .int 0, .int 0, .ref a18, .ref a19, .ref a20, .ref a21])), (a4, .inl (k 1, 9, .inr (.inl (tL [1, 0, 0, 0, 1, 0, 0, 0, 0] 0)))), (a10, .inl (k 1, 900, .inr (.inl (tL [1, 0, 0, 0, 1, 0, 0, 0, 0] 0)))), (a11, .inl (k 0, 100, .inl (tI [(-3)] 0))), (a12, .inl (k 0, 100, .inl (tI [(-3)] 0))), (a13, .inl (k 0, 100, .inl (tI [0] 0)))] H := hP
    have hD : va_D A [(a14, .inl (k 0, 400, .inl (tI [] 0))), (a0, .inr (8, [.int 2, .int 0, .int 1, .int 0, .int 0, .int 0, .ref a1, .ref a2, .int 0, .int 1, .ref a3, .ref a4, .ref a5, .ref a6, .ref a7, .ref a8, .ref a9, .int 0, .int 0, .int 0, .ref a10, .ref a11, .ref a12, .ref a13, .int 1, .int 1, .ref a14, .ref a15, .ref a16, .ref a17, .int 0, .int 0, .ref a18, .ref a19, .ref a20, .ref a21])), (a4, .inl (k 1, 9, .inr (.inl (tL [1, 0, 0, 0, 1, 0, 0, 0, 0] 0)))), (a10, .inl (k 1, 900, .inr (.inl (tL [1, 0, 0, 0, 1, 0, 0, 0, 0] 0)))), (a11, .inl (k 0, 100, .inl (tI [(-3)] 0))), (a12, .inl (k 0, 100, .inl (tI [(-3)] 0))), (a13, .inl (k 0, 100, .inl (tI [0] 0)))] := hD
    refine lv_iconst (v := 1) hx hb dX11_faithful_13 (by decide) ?_
    refine lv_istore_n (lv' := [(2, .int 1), (0, .ref a0), (1, .int 7)]) hx hb dX11_faithful_14 rfl hl (by decide) rfl (fun ls hl => ?_)
    refine lv_iconst (v := 0) hx hb dX11_faithful_15 (by decide) ?_
    refine lv_istore_n (lv' := [(3, .int 0), (2, .int 1), (0, .ref a0), (1, .int 7)]) hx hb dX11_faithful_16 rfl hl (by decide) rfl (fun ls hl => ?_)
    refine lv_iload_n hx hb dX11_faithful_17 rfl (lv_at hl 0 rfl) ?_
    refine lv_aload_n hx hb dX11_faithful_18 rfl (lv_at hl 2 rfl) ?_
    refine va_get (D := D) (ci := 8) (v := .int 1) (C := RX11) (T := TX11) (N := 36) hx hb hU iX11 hown hK.1 hP 1 rfl rfl 24 (by decide) (hU _ w809) (fun _ h9 => h9) rfl dX11_faithful_19 ?_
    refine lv_icmp_ge (tgt := 96) hx hb dX11_faithful_22 (by decide) (fun cc => absurd cc (by decide +kernel)) (fun _ => ?_)
    refine lv_aload_n hx hb dX11_faithful_25 rfl (lv_at hl 2 rfl) ?_
    refine lv_iload_n hx hb dX11_faithful_26 rfl (lv_at hl 0 rfl) ?_
    refine lv_aload_n hx hb dX11_faithful_27 rfl (lv_at hl 2 rfl) ?_
    refine va_get (D := D) (ci := 8) (v := .ref a4) (C := RX11) (T := TX11) (N := 36) hx hb hU iX11 hown hK.1 hP 1 rfl rfl 11 (by decide) (hU _ w796) (fun _ h9 => h9) rfl dX11_faithful_28 ?_
    refine cV (rV (q0 := 1) (ci := 8) (As := [.int 0, .ref a4]) (rest := []) (wc := [(a0, .inr (8, [.int 2, .int 0, .int 1, .int 0, .int 0, .int 0, .ref a1, .ref a2, .int 0, .int 1, .ref a3, .ref a4, .ref a5, .ref a6, .ref a7, .ref a8, .ref a9, .int 0, .int 0, .int 0, .ref a10, .ref a11, .ref a12, .ref a13, .int 1, .int 1, .ref a14, .ref a15, .ref a16, .ref a17, .int 0, .int 0, .ref a18, .ref a19, .ref a20, .ref a21])), (a10, .inl (k 1, 900, .inr (.inl (tL [1, 0, 0, 0, 1, 0, 0, 0, 0] 0)))), (a4, .inl (k 1, 9, .inr (.inl (tL [1, 0, 0, 0, 1, 0, 0, 0, 0] 0))))]) hx hb hml hown hU hK hP hD rfl rfl [1, 3, 2] rfl (by decide) (cX11_takesElement_1 l D k _ a0 a10 a4 a1 a2 a3 a5 a6 a7 a8 a9 a11 a12 a13 a14 a15 a16 a17 a18 a19 a20 a21) w1047 w1044 w1046 w49 w72 hdX11_takesElement ⟨rfl, rfl⟩ ⟨Nat.le_of_ble_eq_true rfl, Nat.le_of_ble_eq_true rfl⟩ rfl hl.1 (Nat.le_of_ble_eq_true rfl) dX11_faithful_31 ⟨Nat.le_of_ble_eq_true rfl, Nat.le_of_ble_eq_true rfl⟩) hP hD hS hA (wr := [(a14, .inl (k 0, 400, .inl (tI [] 0))), (a11, .inl (k 0, 100, .inl (tI [(-3)] 0))), (a12, .inl (k 0, 100, .inl (tI [(-3)] 0))), (a13, .inl (k 0, 100, .inl (tI [0] 0)))]) [1, 3, 2] [0, 4, 5, 6] rfl rfl (by decide) (by decide) (fun H locs hB J hS => ?_)
    obtain ⟨hP1, hD1⟩ := hB
    obtain ⟨hP, hD⟩ := J _ hP1 hD1
    have hP : va_P D cl0 [(a14, .inl (k 0, 400, .inl (tI [] 0))), (a11, .inl (k 0, 100, .inl (tI [(-3)] 0))), (a12, .inl (k 0, 100, .inl (tI [(-3)] 0))), (a13, .inl (k 0, 100, .inl (tI [0] 0))), (a0, .inr (8, [.int 2, .int 0, .int 1, .int 0, .int 0, .int 0, .ref a1, .ref a2, .int 0, .int 1, .ref a3, .ref a4, .ref a5, .ref a6, .ref a7, .ref a8, .ref a9, .int 0, .int 0, .int 0, .ref a10, .ref a11, .ref a12, .ref a13, .int 1, .int 1, .ref a14, .ref a15, .ref a16, .ref a17, .int 0, .int 0, .ref a18, .ref a19, .ref a20, .ref a21])), (a10, .inl (k 1, 900, .inr (.inl (tL [1, 0, 0, 0, 1, 0, 0, 0, 0] 0)))), (a4, .inl (k 1, 9, .inr (.inl (tL [1, 0, 0, 0, 1, 0, 0, 0, 0] 0))))] H := hP
    have hD : va_D A [(a14, .inl (k 0, 400, .inl (tI [] 0))), (a11, .inl (k 0, 100, .inl (tI [(-3)] 0))), (a12, .inl (k 0, 100, .inl (tI [(-3)] 0))), (a13, .inl (k 0, 100, .inl (tI [0] 0))), (a0, .inr (8, [.int 2, .int 0, .int 1, .int 0, .int 0, .int 0, .ref a1, .ref a2, .int 0, .int 1, .ref a3, .ref a4, .ref a5, .ref a6, .ref a7, .ref a8, .ref a9, .int 0, .int 0, .int 0, .ref a10, .ref a11, .ref a12, .ref a13, .int 1, .int 1, .ref a14, .ref a15, .ref a16, .ref a17, .int 0, .int 0, .ref a18, .ref a19, .ref a20, .ref a21])), (a10, .inl (k 1, 900, .inr (.inl (tL [1, 0, 0, 0, 1, 0, 0, 0, 0] 0)))), (a4, .inl (k 1, 9, .inr (.inl (tL [1, 0, 0, 0, 1, 0, 0, 0, 0] 0))))] := hD
    refine lv_aload_n hx hb dX11_faithful_34 rfl (lv_at hl 2 rfl) ?_
    refine va_get (D := D) (ci := 8) (v := .ref a14) (C := RX11) (T := TX11) (N := 36) hx hb hU iX11 hown hK.1 hP 4 rfl rfl 26 (by decide) (hU _ w811) (fun _ h9 => h9) rfl dX11_faithful_35 ?_
    refine lv_iload_n hx hb dX11_faithful_38 rfl (lv_at hl 0 rfl) ?_
    refine lv_aload_n hx hb dX11_faithful_39 rfl (lv_at hl 2 rfl) ?_
    refine lv_aload_n hx hb dX11_faithful_40 rfl (lv_at hl 2 rfl) ?_
    refine va_get (D := D) (ci := 8) (v := .ref a4) (C := RX11) (T := TX11) (N := 36) hx hb hU iX11 hown hK.1 hP 4 rfl rfl 11 (by decide) (hU _ w796) (fun _ h9 => h9) rfl dX11_faithful_41 ?_
    refine lv_iload_n hx hb dX11_faithful_44 rfl (lv_at hl 3 rfl) ?_
    refine cI (rV (q0 := 4) (ci := 8) (As := [.ref a4, .int 7]) (rest := [.int 0, .ref a14]) (wc := [(a4, .inl (k 1, 9, .inr (.inl (tL [1, 0, 0, 0, 1, 0, 0, 0, 0] 0))))]) hx hb hml hown hU hK hP hD rfl rfl [6] rfl (by decide) (cX11_told_4 l D k _ a4 a0) w1122 w1119 w1121 w55 w72 hdX11_told ⟨rfl, rfl⟩ ⟨Nat.le_of_ble_eq_true rfl, Nat.le_of_ble_eq_true rfl⟩ rfl hl.1 (Nat.le_of_ble_eq_true rfl) dX11_faithful_45 ⟨Nat.le_of_ble_eq_true rfl, Nat.le_of_ble_eq_true rfl⟩) hP hD hS hA (wr := [(a14, .inl (k 0, 400, .inl (tI [] 0))), (a11, .inl (k 0, 100, .inl (tI [(-3)] 0))), (a12, .inl (k 0, 100, .inl (tI [(-3)] 0))), (a13, .inl (k 0, 100, .inl (tI [0] 0))), (a0, .inr (8, [.int 2, .int 0, .int 1, .int 0, .int 0, .int 0, .ref a1, .ref a2, .int 0, .int 1, .ref a3, .ref a4, .ref a5, .ref a6, .ref a7, .ref a8, .ref a9, .int 0, .int 0, .int 0, .ref a10, .ref a11, .ref a12, .ref a13, .int 1, .int 1, .ref a14, .ref a15, .ref a16, .ref a17, .int 0, .int 0, .ref a18, .ref a19, .ref a20, .ref a21])), (a10, .inl (k 1, 900, .inr (.inl (tL [1, 0, 0, 0, 1, 0, 0, 0, 0] 0))))]) [6] [0, 1, 2, 3, 4, 5] rfl rfl (by decide) (by decide) (fun r21 H locs hB J hS => ?_)
    obtain ⟨rfl, hP1, hD1⟩ := hB
    obtain ⟨hP, hD⟩ := J _ hP1 hD1
    have hP : va_P D cl0 [(a14, .inl (k 0, 400, .inl (tI [] 0))), (a11, .inl (k 0, 100, .inl (tI [(-3)] 0))), (a12, .inl (k 0, 100, .inl (tI [(-3)] 0))), (a13, .inl (k 0, 100, .inl (tI [0] 0))), (a0, .inr (8, [.int 2, .int 0, .int 1, .int 0, .int 0, .int 0, .ref a1, .ref a2, .int 0, .int 1, .ref a3, .ref a4, .ref a5, .ref a6, .ref a7, .ref a8, .ref a9, .int 0, .int 0, .int 0, .ref a10, .ref a11, .ref a12, .ref a13, .int 1, .int 1, .ref a14, .ref a15, .ref a16, .ref a17, .int 0, .int 0, .ref a18, .ref a19, .ref a20, .ref a21])), (a10, .inl (k 1, 900, .inr (.inl (tL [1, 0, 0, 0, 1, 0, 0, 0, 0] 0)))), (a4, .inl (k 1, 9, .inr (.inl (tL [1, 0, 0, 0, 1, 0, 0, 0, 0] 0))))] H := hP
    have hD : va_D A [(a14, .inl (k 0, 400, .inl (tI [] 0))), (a11, .inl (k 0, 100, .inl (tI [(-3)] 0))), (a12, .inl (k 0, 100, .inl (tI [(-3)] 0))), (a13, .inl (k 0, 100, .inl (tI [0] 0))), (a0, .inr (8, [.int 2, .int 0, .int 1, .int 0, .int 0, .int 0, .ref a1, .ref a2, .int 0, .int 1, .ref a3, .ref a4, .ref a5, .ref a6, .ref a7, .ref a8, .ref a9, .int 0, .int 0, .int 0, .ref a10, .ref a11, .ref a12, .ref a13, .int 1, .int 1, .ref a14, .ref a15, .ref a16, .ref a17, .int 0, .int 0, .ref a18, .ref a19, .ref a20, .ref a21])), (a10, .inl (k 1, 900, .inr (.inl (tL [1, 0, 0, 0, 1, 0, 0, 0, 0] 0)))), (a4, .inl (k 1, 9, .inr (.inl (tL [1, 0, 0, 0, 1, 0, 0, 0, 0] 0))))] := hD
    refine st_i (j := 0) (g := tI [5767202] 0) hx hb hK hP hD hS 0 rfl (by decide +kernel) upd_tI dX11_faithful_48 (fun H locs hP hD hS => ?_)
    have hP : va_P D cl0 [(a14, .inl (k 0, 400, .inl (tI [5767202] 0))), (a11, .inl (k 0, 100, .inl (tI [(-3)] 0))), (a12, .inl (k 0, 100, .inl (tI [(-3)] 0))), (a13, .inl (k 0, 100, .inl (tI [0] 0))), (a0, .inr (8, [.int 2, .int 0, .int 1, .int 0, .int 0, .int 0, .ref a1, .ref a2, .int 0, .int 1, .ref a3, .ref a4, .ref a5, .ref a6, .ref a7, .ref a8, .ref a9, .int 0, .int 0, .int 0, .ref a10, .ref a11, .ref a12, .ref a13, .int 1, .int 1, .ref a14, .ref a15, .ref a16, .ref a17, .int 0, .int 0, .ref a18, .ref a19, .ref a20, .ref a21])), (a10, .inl (k 1, 900, .inr (.inl (tL [1, 0, 0, 0, 1, 0, 0, 0, 0] 0)))), (a4, .inl (k 1, 9, .inr (.inl (tL [1, 0, 0, 0, 1, 0, 0, 0, 0] 0))))] H := hP
    have hD : va_D A [(a14, .inl (k 0, 400, .inl (tI [5767202] 0))), (a11, .inl (k 0, 100, .inl (tI [(-3)] 0))), (a12, .inl (k 0, 100, .inl (tI [(-3)] 0))), (a13, .inl (k 0, 100, .inl (tI [0] 0))), (a0, .inr (8, [.int 2, .int 0, .int 1, .int 0, .int 0, .int 0, .ref a1, .ref a2, .int 0, .int 1, .ref a3, .ref a4, .ref a5, .ref a6, .ref a7, .ref a8, .ref a9, .int 0, .int 0, .int 0, .ref a10, .ref a11, .ref a12, .ref a13, .int 1, .int 1, .ref a14, .ref a15, .ref a16, .ref a17, .int 0, .int 0, .ref a18, .ref a19, .ref a20, .ref a21])), (a10, .inl (k 1, 900, .inr (.inl (tL [1, 0, 0, 0, 1, 0, 0, 0, 0] 0)))), (a4, .inl (k 1, 9, .inr (.inl (tL [1, 0, 0, 0, 1, 0, 0, 0, 0] 0))))] := hD
    refine lv_iconst (v := 0) hx hb dX11_faithful_49 (by decide) ?_
    refine lv_istore (lv' := [(4, .int 0), (3, .int 0), (2, .int 1), (0, .ref a0), (1, .int 7)]) hx hb dX11_faithful_50 hl (by decide) rfl (fun ls hl => ?_)
    refine lv_iload hx hb dX11_faithful_52 (lv_at hl 0 rfl) ?_
    refine lv_iload_n hx hb dX11_faithful_54 rfl (lv_at hl 1 rfl) ?_
    refine lv_icmp_ge (tgt := 90) hx hb dX11_faithful_55 (by decide) (fun _ => ?_) (fun cc => absurd (by decide +kernel) cc)
    refine lv_iinc (v := 1) (lv' := [(3, .int 1), (4, .int 0), (2, .int 1), (0, .ref a0), (1, .int 7)]) hx hb dX11_faithful_90 hl (k := 1) rfl (by decide) (by decide) rfl (fun ls hl => ?_)
    refine lv_goto (tgt := 17) hx hb dX11_faithful_93 (by decide) ?_
    refine lv_iload_n hx hb dX11_faithful_17 rfl (lv_at hl 0 rfl) ?_
    refine lv_aload_n hx hb dX11_faithful_18 rfl (lv_at hl 3 rfl) ?_
    refine va_get (D := D) (ci := 8) (v := .int 1) (C := RX11) (T := TX11) (N := 36) hx hb hU iX11 hown hK.1 hP 4 rfl rfl 24 (by decide) (hU _ w809) (fun _ h9 => h9) rfl dX11_faithful_19 ?_
    refine lv_icmp_ge (tgt := 96) hx hb dX11_faithful_22 (by decide) (fun _ => ?_) (fun cc => absurd (by decide +kernel) cc)
    refine lv_iload_n hx hb dX11_faithful_96 rfl (lv_at hl 2 rfl) ?_
    refine lv_if_eq (tgt := 104) hx hb dX11_faithful_97 (by decide) (fun cc => absurd cc (by decide +kernel)) (fun _ => ?_)
    refine lv_iconst (v := 1) hx hb dX11_faithful_100 (by decide) ?_
    refine lv_goto (tgt := 105) hx hb dX11_faithful_101 (by decide) ?_
    exact retI (v := 1) hx hb hr hlocks hS (show (1 : Int32) = F_faithful 7 by first | decide +kernel | (have g_7 : (7 : Int32).toInt = 7 := (by decide +kernel); unfold F_faithful; (repeat (first | rw [if_pos (by omega)] | rw [if_neg (by omega)])))) dX11_faithful_105
