abbrev BX7_addUp_3 (D : va_G) (k : Nat → ClassId) (h0 : Nat) (A : Nat → Prop) (r : Int64) (H : Heap) : Prop := 1 = r ∧ va_P D cl0 [(h0, .inl (k 1, 900, .inr (.inl (tL [1, 0, 0, 1] 0))))] H ∧ va_D A [(h0, .inl (k 1, 900, .inr (.inl (tL [1, 0, 0, 1] 0))))]
set_option maxHeartbeats 4000000 in
set_option maxRecDepth 100000 in
theorem cX7_addUp_3 (l : Launch) (D : va_G) (k : Nat → ClassId) (sz : Nat) (h0 : Nat) : Met l yX7_addUp (Cond.code yX7_addUp cX7_addUp 10 (some .long) :: uw) ({ frames := 0, cells := 0, slots := 0, locals := 0 }) (pC D k sz [.ref h0, .int 0, .int 2, .ref h0, .int 0, .int 2, .int 2] [(h0, .inl (k 1, 900, .inr (.inl (tL [1, 0, 0, 1] 0))))]) (qL (BX7_addUp_3 D k h0 (va_A [(h0, .inl (k 1, 900, .inr (.inl (tL [1, 0, 0, 1] 0))))] sz)) (va_A [(h0, .inl (k 1, 900, .inr (.inl (tL [1, 0, 0, 1] 0))))] sz)) 0 0 (va_A [(h0, .inl (k 1, 900, .inr (.inl (tL [1, 0, 0, 1] 0))))] sz) := by
  refine begin_ (Qc := fun A => qL (BX7_addUp_3 D k h0 A) A) (by decide) (Nat.le_of_ble_eq_true rfl) ?_
  intro p e s m below meth c ls A hx hb hr hml hown hlocks hin hU hK hsz hP hD hS hA hl
  have hl : lv_has ls 10 [(0, .ref h0), (1, .int 0), (2, .int 2), (3, .ref h0), (4, .int 0), (5, .int 2), (6, .int 2)] := hl
  clear hsz
  refine lv_lconst (v := 0) hx hb dX7_addUp_0 (by decide) ?_
  refine lv_lstore (lv' := [(7, .long 0), (0, .ref h0), (1, .int 0), (2, .int 2), (3, .ref h0), (4, .int 0), (5, .int 2), (6, .int 2)]) hx hb dX7_addUp_1 hl (by decide) rfl (fun ls hl => ?_)
  refine lv_iconst (v := 0) hx hb dX7_addUp_3 (by decide) ?_
  refine lv_istore (lv' := [(9, .int 0), (7, .long 0), (0, .ref h0), (1, .int 0), (2, .int 2), (3, .ref h0), (4, .int 0), (5, .int 2), (6, .int 2)]) hx hb dX7_addUp_4 hl (by decide) rfl (fun ls hl => ?_)
  refine lv_iload hx hb dX7_addUp_6 (lv_at hl 0 rfl) ?_
  refine lv_iload hx hb dX7_addUp_8 (lv_at hl 8 rfl) ?_
  refine lv_icmp_ge (tgt := 43) hx hb dX7_addUp_10 (by decide) (fun cc => absurd cc (by decide +kernel)) (fun _ => ?_)
  refine lv_lload hx hb dX7_addUp_13 (lv_at hl 1 rfl) ?_
  refine lv_aload_n hx hb dX7_addUp_15 rfl (lv_at hl 2 rfl) ?_
  refine lv_iload_n hx hb dX7_addUp_16 rfl (lv_at hl 3 rfl) ?_
  refine lv_iload hx hb dX7_addUp_17 (lv_at hl 0 rfl) ?_
  refine lv_iload_n hx hb dX7_addUp_19 rfl (lv_at hl 4 rfl) ?_
  refine lv_imul hx hb dX7_addUp_20 (sv_i (v := 0) (by decide +kernel) ?_)
  refine lv_iadd hx hb dX7_addUp_21 (sv_i (v := 0) (by decide +kernel) ?_)
  refine ld_l (j := 0) (v := 1) hx hb hK hP 0 rfl (by decide +kernel) rfl dX7_addUp_22 ?_
  refine lv_aload_n hx hb dX7_addUp_23 rfl (lv_at hl 5 rfl) ?_
  refine lv_iload hx hb dX7_addUp_24 (lv_at hl 6 rfl) ?_
  refine lv_iload hx hb dX7_addUp_26 (lv_at hl 0 rfl) ?_
  refine lv_iload hx hb dX7_addUp_28 (lv_at hl 7 rfl) ?_
  refine lv_imul hx hb dX7_addUp_30 (sv_i (v := 0) (by decide +kernel) ?_)
  refine lv_iadd hx hb dX7_addUp_31 (sv_i (v := 0) (by decide +kernel) ?_)
  refine ld_l (j := 0) (v := 1) hx hb hK hP 0 rfl (by decide +kernel) rfl dX7_addUp_32 ?_
  refine lv_lmul hx hb dX7_addUp_33 (sv_l (v := 1) (by decide +kernel) ?_)
  refine lv_ladd hx hb dX7_addUp_34 (sv_l (v := 1) (by decide +kernel) ?_)
  refine lv_lstore (lv' := [(7, .long 1), (9, .int 0), (0, .ref h0), (1, .int 0), (2, .int 2), (3, .ref h0), (4, .int 0), (5, .int 2), (6, .int 2)]) hx hb dX7_addUp_35 hl (by decide) rfl (fun ls hl => ?_)
  refine lv_iinc (v := 1) (lv' := [(9, .int 1), (7, .long 1), (0, .ref h0), (1, .int 0), (2, .int 2), (3, .ref h0), (4, .int 0), (5, .int 2), (6, .int 2)]) hx hb dX7_addUp_37 hl (k := 1) rfl (by decide) (by decide) rfl (fun ls hl => ?_)
  refine lv_goto (tgt := 6) hx hb dX7_addUp_40 (by decide) ?_
  refine lv_iload hx hb dX7_addUp_6 (lv_at hl 0 rfl) ?_
  refine lv_iload hx hb dX7_addUp_8 (lv_at hl 8 rfl) ?_
  refine lv_icmp_ge (tgt := 43) hx hb dX7_addUp_10 (by decide) (fun cc => absurd cc (by decide +kernel)) (fun _ => ?_)
  refine lv_lload hx hb dX7_addUp_13 (lv_at hl 1 rfl) ?_
  refine lv_aload_n hx hb dX7_addUp_15 rfl (lv_at hl 2 rfl) ?_
  refine lv_iload_n hx hb dX7_addUp_16 rfl (lv_at hl 3 rfl) ?_
  refine lv_iload hx hb dX7_addUp_17 (lv_at hl 0 rfl) ?_
  refine lv_iload_n hx hb dX7_addUp_19 rfl (lv_at hl 4 rfl) ?_
  refine lv_imul hx hb dX7_addUp_20 (sv_i (v := 2) (by decide +kernel) ?_)
  refine lv_iadd hx hb dX7_addUp_21 (sv_i (v := 2) (by decide +kernel) ?_)
  refine ld_l (j := 2) (v := 0) hx hb hK hP 0 rfl (by decide +kernel) rfl dX7_addUp_22 ?_
  refine lv_aload_n hx hb dX7_addUp_23 rfl (lv_at hl 5 rfl) ?_
  refine lv_iload hx hb dX7_addUp_24 (lv_at hl 6 rfl) ?_
  refine lv_iload hx hb dX7_addUp_26 (lv_at hl 0 rfl) ?_
  refine lv_iload hx hb dX7_addUp_28 (lv_at hl 7 rfl) ?_
  refine lv_imul hx hb dX7_addUp_30 (sv_i (v := 2) (by decide +kernel) ?_)
  refine lv_iadd hx hb dX7_addUp_31 (sv_i (v := 2) (by decide +kernel) ?_)
  refine ld_l (j := 2) (v := 0) hx hb hK hP 0 rfl (by decide +kernel) rfl dX7_addUp_32 ?_
  refine lv_lmul hx hb dX7_addUp_33 (sv_l (v := 0) (by decide +kernel) ?_)
  refine lv_ladd hx hb dX7_addUp_34 (sv_l (v := 1) (by decide +kernel) ?_)
  refine lv_lstore (lv' := [(7, .long 1), (9, .int 1), (0, .ref h0), (1, .int 0), (2, .int 2), (3, .ref h0), (4, .int 0), (5, .int 2), (6, .int 2)]) hx hb dX7_addUp_35 hl (by decide) rfl (fun ls hl => ?_)
  refine lv_iinc (v := 2) (lv' := [(9, .int 2), (7, .long 1), (0, .ref h0), (1, .int 0), (2, .int 2), (3, .ref h0), (4, .int 0), (5, .int 2), (6, .int 2)]) hx hb dX7_addUp_37 hl (k := 1) rfl (by decide) (by decide) rfl (fun ls hl => ?_)
  refine lv_goto (tgt := 6) hx hb dX7_addUp_40 (by decide) ?_
  refine lv_iload hx hb dX7_addUp_6 (lv_at hl 0 rfl) ?_
  refine lv_iload hx hb dX7_addUp_8 (lv_at hl 8 rfl) ?_
  refine lv_icmp_ge (tgt := 43) hx hb dX7_addUp_10 (by decide) (fun _ => ?_) (fun cc => absurd (by decide +kernel) cc)
  refine lv_lload hx hb dX7_addUp_43 (lv_at hl 1 rfl) ?_
  exact retL (v := 1) hx hb hr hlocks hS (⟨rfl, hP, hD⟩) dX7_addUp_45
abbrev BX7_addUp_4 (D : va_G) (k : Nat → ClassId) (h0 : Nat) (A : Nat → Prop) (r : Int64) (H : Heap) : Prop := 0 = r ∧ va_P D cl0 [(h0, .inl (k 1, 900, .inr (.inl (tL [1, 0, 0, 1] 0))))] H ∧ va_D A [(h0, .inl (k 1, 900, .inr (.inl (tL [1, 0, 0, 1] 0))))]
set_option maxHeartbeats 4000000 in
set_option maxRecDepth 100000 in
theorem cX7_addUp_4 (l : Launch) (D : va_G) (k : Nat → ClassId) (sz : Nat) (h0 : Nat) : Met l yX7_addUp (Cond.code yX7_addUp cX7_addUp 10 (some .long) :: uw) ({ frames := 0, cells := 0, slots := 0, locals := 0 }) (pC D k sz [.ref h0, .int 0, .int 2, .ref h0, .int 1, .int 2, .int 2] [(h0, .inl (k 1, 900, .inr (.inl (tL [1, 0, 0, 1] 0))))]) (qL (BX7_addUp_4 D k h0 (va_A [(h0, .inl (k 1, 900, .inr (.inl (tL [1, 0, 0, 1] 0))))] sz)) (va_A [(h0, .inl (k 1, 900, .inr (.inl (tL [1, 0, 0, 1] 0))))] sz)) 0 0 (va_A [(h0, .inl (k 1, 900, .inr (.inl (tL [1, 0, 0, 1] 0))))] sz) := by
  refine begin_ (Qc := fun A => qL (BX7_addUp_4 D k h0 A) A) (by decide) (Nat.le_of_ble_eq_true rfl) ?_
  intro p e s m below meth c ls A hx hb hr hml hown hlocks hin hU hK hsz hP hD hS hA hl
  have hl : lv_has ls 10 [(0, .ref h0), (1, .int 0), (2, .int 2), (3, .ref h0), (4, .int 1), (5, .int 2), (6, .int 2)] := hl
  clear hsz
  refine lv_lconst (v := 0) hx hb dX7_addUp_0 (by decide) ?_
  refine lv_lstore (lv' := [(7, .long 0), (0, .ref h0), (1, .int 0), (2, .int 2), (3, .ref h0), (4, .int 1), (5, .int 2), (6, .int 2)]) hx hb dX7_addUp_1 hl (by decide) rfl (fun ls hl => ?_)
  refine lv_iconst (v := 0) hx hb dX7_addUp_3 (by decide) ?_
  refine lv_istore (lv' := [(9, .int 0), (7, .long 0), (0, .ref h0), (1, .int 0), (2, .int 2), (3, .ref h0), (4, .int 1), (5, .int 2), (6, .int 2)]) hx hb dX7_addUp_4 hl (by decide) rfl (fun ls hl => ?_)
  refine lv_iload hx hb dX7_addUp_6 (lv_at hl 0 rfl) ?_
  refine lv_iload hx hb dX7_addUp_8 (lv_at hl 8 rfl) ?_
  refine lv_icmp_ge (tgt := 43) hx hb dX7_addUp_10 (by decide) (fun cc => absurd cc (by decide +kernel)) (fun _ => ?_)
  refine lv_lload hx hb dX7_addUp_13 (lv_at hl 1 rfl) ?_
  refine lv_aload_n hx hb dX7_addUp_15 rfl (lv_at hl 2 rfl) ?_
  refine lv_iload_n hx hb dX7_addUp_16 rfl (lv_at hl 3 rfl) ?_
  refine lv_iload hx hb dX7_addUp_17 (lv_at hl 0 rfl) ?_
  refine lv_iload_n hx hb dX7_addUp_19 rfl (lv_at hl 4 rfl) ?_
  refine lv_imul hx hb dX7_addUp_20 (sv_i (v := 0) (by decide +kernel) ?_)
  refine lv_iadd hx hb dX7_addUp_21 (sv_i (v := 0) (by decide +kernel) ?_)
  refine ld_l (j := 0) (v := 1) hx hb hK hP 0 rfl (by decide +kernel) rfl dX7_addUp_22 ?_
  refine lv_aload_n hx hb dX7_addUp_23 rfl (lv_at hl 5 rfl) ?_
  refine lv_iload hx hb dX7_addUp_24 (lv_at hl 6 rfl) ?_
  refine lv_iload hx hb dX7_addUp_26 (lv_at hl 0 rfl) ?_
  refine lv_iload hx hb dX7_addUp_28 (lv_at hl 7 rfl) ?_
  refine lv_imul hx hb dX7_addUp_30 (sv_i (v := 0) (by decide +kernel) ?_)
  refine lv_iadd hx hb dX7_addUp_31 (sv_i (v := 1) (by decide +kernel) ?_)
  refine ld_l (j := 1) (v := 0) hx hb hK hP 0 rfl (by decide +kernel) rfl dX7_addUp_32 ?_
  refine lv_lmul hx hb dX7_addUp_33 (sv_l (v := 0) (by decide +kernel) ?_)
  refine lv_ladd hx hb dX7_addUp_34 (sv_l (v := 0) (by decide +kernel) ?_)
  refine lv_lstore (lv' := [(7, .long 0), (9, .int 0), (0, .ref h0), (1, .int 0), (2, .int 2), (3, .ref h0), (4, .int 1), (5, .int 2), (6, .int 2)]) hx hb dX7_addUp_35 hl (by decide) rfl (fun ls hl => ?_)
  refine lv_iinc (v := 1) (lv' := [(9, .int 1), (7, .long 0), (0, .ref h0), (1, .int 0), (2, .int 2), (3, .ref h0), (4, .int 1), (5, .int 2), (6, .int 2)]) hx hb dX7_addUp_37 hl (k := 1) rfl (by decide) (by decide) rfl (fun ls hl => ?_)
  refine lv_goto (tgt := 6) hx hb dX7_addUp_40 (by decide) ?_
  refine lv_iload hx hb dX7_addUp_6 (lv_at hl 0 rfl) ?_
  refine lv_iload hx hb dX7_addUp_8 (lv_at hl 8 rfl) ?_
  refine lv_icmp_ge (tgt := 43) hx hb dX7_addUp_10 (by decide) (fun cc => absurd cc (by decide +kernel)) (fun _ => ?_)
  refine lv_lload hx hb dX7_addUp_13 (lv_at hl 1 rfl) ?_
  refine lv_aload_n hx hb dX7_addUp_15 rfl (lv_at hl 2 rfl) ?_
  refine lv_iload_n hx hb dX7_addUp_16 rfl (lv_at hl 3 rfl) ?_
  refine lv_iload hx hb dX7_addUp_17 (lv_at hl 0 rfl) ?_
  refine lv_iload_n hx hb dX7_addUp_19 rfl (lv_at hl 4 rfl) ?_
  refine lv_imul hx hb dX7_addUp_20 (sv_i (v := 2) (by decide +kernel) ?_)
  refine lv_iadd hx hb dX7_addUp_21 (sv_i (v := 2) (by decide +kernel) ?_)
  refine ld_l (j := 2) (v := 0) hx hb hK hP 0 rfl (by decide +kernel) rfl dX7_addUp_22 ?_
  refine lv_aload_n hx hb dX7_addUp_23 rfl (lv_at hl 5 rfl) ?_
  refine lv_iload hx hb dX7_addUp_24 (lv_at hl 6 rfl) ?_
  refine lv_iload hx hb dX7_addUp_26 (lv_at hl 0 rfl) ?_
  refine lv_iload hx hb dX7_addUp_28 (lv_at hl 7 rfl) ?_
  refine lv_imul hx hb dX7_addUp_30 (sv_i (v := 2) (by decide +kernel) ?_)
  refine lv_iadd hx hb dX7_addUp_31 (sv_i (v := 3) (by decide +kernel) ?_)
  refine ld_l (j := 3) (v := 1) hx hb hK hP 0 rfl (by decide +kernel) rfl dX7_addUp_32 ?_
  refine lv_lmul hx hb dX7_addUp_33 (sv_l (v := 0) (by decide +kernel) ?_)
  refine lv_ladd hx hb dX7_addUp_34 (sv_l (v := 0) (by decide +kernel) ?_)
  refine lv_lstore (lv' := [(7, .long 0), (9, .int 1), (0, .ref h0), (1, .int 0), (2, .int 2), (3, .ref h0), (4, .int 1), (5, .int 2), (6, .int 2)]) hx hb dX7_addUp_35 hl (by decide) rfl (fun ls hl => ?_)
  refine lv_iinc (v := 2) (lv' := [(9, .int 2), (7, .long 0), (0, .ref h0), (1, .int 0), (2, .int 2), (3, .ref h0), (4, .int 1), (5, .int 2), (6, .int 2)]) hx hb dX7_addUp_37 hl (k := 1) rfl (by decide) (by decide) rfl (fun ls hl => ?_)
  refine lv_goto (tgt := 6) hx hb dX7_addUp_40 (by decide) ?_
  refine lv_iload hx hb dX7_addUp_6 (lv_at hl 0 rfl) ?_
  refine lv_iload hx hb dX7_addUp_8 (lv_at hl 8 rfl) ?_
  refine lv_icmp_ge (tgt := 43) hx hb dX7_addUp_10 (by decide) (fun _ => ?_) (fun cc => absurd (by decide +kernel) cc)
  refine lv_lload hx hb dX7_addUp_43 (lv_at hl 1 rfl) ?_
  exact retL (v := 0) hx hb hr hlocks hS (⟨rfl, hP, hD⟩) dX7_addUp_45
abbrev BX7_addUp_5 (D : va_G) (k : Nat → ClassId) (h0 : Nat) (A : Nat → Prop) (r : Int64) (H : Heap) : Prop := 0 = r ∧ va_P D cl0 [(h0, .inl (k 1, 900, .inr (.inl (tL [1, 0, 0, 1] 0))))] H ∧ va_D A [(h0, .inl (k 1, 900, .inr (.inl (tL [1, 0, 0, 1] 0))))]
set_option maxHeartbeats 4000000 in
set_option maxRecDepth 100000 in
theorem cX7_addUp_5 (l : Launch) (D : va_G) (k : Nat → ClassId) (sz : Nat) (h0 : Nat) : Met l yX7_addUp (Cond.code yX7_addUp cX7_addUp 10 (some .long) :: uw) ({ frames := 0, cells := 0, slots := 0, locals := 0 }) (pC D k sz [.ref h0, .int 1, .int 2, .ref h0, .int 0, .int 2, .int 2] [(h0, .inl (k 1, 900, .inr (.inl (tL [1, 0, 0, 1] 0))))]) (qL (BX7_addUp_5 D k h0 (va_A [(h0, .inl (k 1, 900, .inr (.inl (tL [1, 0, 0, 1] 0))))] sz)) (va_A [(h0, .inl (k 1, 900, .inr (.inl (tL [1, 0, 0, 1] 0))))] sz)) 0 0 (va_A [(h0, .inl (k 1, 900, .inr (.inl (tL [1, 0, 0, 1] 0))))] sz) := by
  refine begin_ (Qc := fun A => qL (BX7_addUp_5 D k h0 A) A) (by decide) (Nat.le_of_ble_eq_true rfl) ?_
  intro p e s m below meth c ls A hx hb hr hml hown hlocks hin hU hK hsz hP hD hS hA hl
  have hl : lv_has ls 10 [(0, .ref h0), (1, .int 1), (2, .int 2), (3, .ref h0), (4, .int 0), (5, .int 2), (6, .int 2)] := hl
  clear hsz
  refine lv_lconst (v := 0) hx hb dX7_addUp_0 (by decide) ?_
  refine lv_lstore (lv' := [(7, .long 0), (0, .ref h0), (1, .int 1), (2, .int 2), (3, .ref h0), (4, .int 0), (5, .int 2), (6, .int 2)]) hx hb dX7_addUp_1 hl (by decide) rfl (fun ls hl => ?_)
  refine lv_iconst (v := 0) hx hb dX7_addUp_3 (by decide) ?_
  refine lv_istore (lv' := [(9, .int 0), (7, .long 0), (0, .ref h0), (1, .int 1), (2, .int 2), (3, .ref h0), (4, .int 0), (5, .int 2), (6, .int 2)]) hx hb dX7_addUp_4 hl (by decide) rfl (fun ls hl => ?_)
  refine lv_iload hx hb dX7_addUp_6 (lv_at hl 0 rfl) ?_
  refine lv_iload hx hb dX7_addUp_8 (lv_at hl 8 rfl) ?_
  refine lv_icmp_ge (tgt := 43) hx hb dX7_addUp_10 (by decide) (fun cc => absurd cc (by decide +kernel)) (fun _ => ?_)
  refine lv_lload hx hb dX7_addUp_13 (lv_at hl 1 rfl) ?_
  refine lv_aload_n hx hb dX7_addUp_15 rfl (lv_at hl 2 rfl) ?_
  refine lv_iload_n hx hb dX7_addUp_16 rfl (lv_at hl 3 rfl) ?_
  refine lv_iload hx hb dX7_addUp_17 (lv_at hl 0 rfl) ?_
  refine lv_iload_n hx hb dX7_addUp_19 rfl (lv_at hl 4 rfl) ?_
  refine lv_imul hx hb dX7_addUp_20 (sv_i (v := 0) (by decide +kernel) ?_)
  refine lv_iadd hx hb dX7_addUp_21 (sv_i (v := 1) (by decide +kernel) ?_)
  refine ld_l (j := 1) (v := 0) hx hb hK hP 0 rfl (by decide +kernel) rfl dX7_addUp_22 ?_
  refine lv_aload_n hx hb dX7_addUp_23 rfl (lv_at hl 5 rfl) ?_
  refine lv_iload hx hb dX7_addUp_24 (lv_at hl 6 rfl) ?_
  refine lv_iload hx hb dX7_addUp_26 (lv_at hl 0 rfl) ?_
  refine lv_iload hx hb dX7_addUp_28 (lv_at hl 7 rfl) ?_
  refine lv_imul hx hb dX7_addUp_30 (sv_i (v := 0) (by decide +kernel) ?_)
  refine lv_iadd hx hb dX7_addUp_31 (sv_i (v := 0) (by decide +kernel) ?_)
  refine ld_l (j := 0) (v := 1) hx hb hK hP 0 rfl (by decide +kernel) rfl dX7_addUp_32 ?_
  refine lv_lmul hx hb dX7_addUp_33 (sv_l (v := 0) (by decide +kernel) ?_)
  refine lv_ladd hx hb dX7_addUp_34 (sv_l (v := 0) (by decide +kernel) ?_)
  refine lv_lstore (lv' := [(7, .long 0), (9, .int 0), (0, .ref h0), (1, .int 1), (2, .int 2), (3, .ref h0), (4, .int 0), (5, .int 2), (6, .int 2)]) hx hb dX7_addUp_35 hl (by decide) rfl (fun ls hl => ?_)
  refine lv_iinc (v := 1) (lv' := [(9, .int 1), (7, .long 0), (0, .ref h0), (1, .int 1), (2, .int 2), (3, .ref h0), (4, .int 0), (5, .int 2), (6, .int 2)]) hx hb dX7_addUp_37 hl (k := 1) rfl (by decide) (by decide) rfl (fun ls hl => ?_)
  refine lv_goto (tgt := 6) hx hb dX7_addUp_40 (by decide) ?_
  refine lv_iload hx hb dX7_addUp_6 (lv_at hl 0 rfl) ?_
  refine lv_iload hx hb dX7_addUp_8 (lv_at hl 8 rfl) ?_
  refine lv_icmp_ge (tgt := 43) hx hb dX7_addUp_10 (by decide) (fun cc => absurd cc (by decide +kernel)) (fun _ => ?_)
  refine lv_lload hx hb dX7_addUp_13 (lv_at hl 1 rfl) ?_
  refine lv_aload_n hx hb dX7_addUp_15 rfl (lv_at hl 2 rfl) ?_
  refine lv_iload_n hx hb dX7_addUp_16 rfl (lv_at hl 3 rfl) ?_
  refine lv_iload hx hb dX7_addUp_17 (lv_at hl 0 rfl) ?_
  refine lv_iload_n hx hb dX7_addUp_19 rfl (lv_at hl 4 rfl) ?_
  refine lv_imul hx hb dX7_addUp_20 (sv_i (v := 2) (by decide +kernel) ?_)
  refine lv_iadd hx hb dX7_addUp_21 (sv_i (v := 3) (by decide +kernel) ?_)
  refine ld_l (j := 3) (v := 1) hx hb hK hP 0 rfl (by decide +kernel) rfl dX7_addUp_22 ?_
  refine lv_aload_n hx hb dX7_addUp_23 rfl (lv_at hl 5 rfl) ?_
  refine lv_iload hx hb dX7_addUp_24 (lv_at hl 6 rfl) ?_
  refine lv_iload hx hb dX7_addUp_26 (lv_at hl 0 rfl) ?_
  refine lv_iload hx hb dX7_addUp_28 (lv_at hl 7 rfl) ?_
  refine lv_imul hx hb dX7_addUp_30 (sv_i (v := 2) (by decide +kernel) ?_)
  refine lv_iadd hx hb dX7_addUp_31 (sv_i (v := 2) (by decide +kernel) ?_)
  refine ld_l (j := 2) (v := 0) hx hb hK hP 0 rfl (by decide +kernel) rfl dX7_addUp_32 ?_
  refine lv_lmul hx hb dX7_addUp_33 (sv_l (v := 0) (by decide +kernel) ?_)
  refine lv_ladd hx hb dX7_addUp_34 (sv_l (v := 0) (by decide +kernel) ?_)
  refine lv_lstore (lv' := [(7, .long 0), (9, .int 1), (0, .ref h0), (1, .int 1), (2, .int 2), (3, .ref h0), (4, .int 0), (5, .int 2), (6, .int 2)]) hx hb dX7_addUp_35 hl (by decide) rfl (fun ls hl => ?_)
  refine lv_iinc (v := 2) (lv' := [(9, .int 2), (7, .long 0), (0, .ref h0), (1, .int 1), (2, .int 2), (3, .ref h0), (4, .int 0), (5, .int 2), (6, .int 2)]) hx hb dX7_addUp_37 hl (k := 1) rfl (by decide) (by decide) rfl (fun ls hl => ?_)
  refine lv_goto (tgt := 6) hx hb dX7_addUp_40 (by decide) ?_
  refine lv_iload hx hb dX7_addUp_6 (lv_at hl 0 rfl) ?_
  refine lv_iload hx hb dX7_addUp_8 (lv_at hl 8 rfl) ?_
  refine lv_icmp_ge (tgt := 43) hx hb dX7_addUp_10 (by decide) (fun _ => ?_) (fun cc => absurd (by decide +kernel) cc)
  refine lv_lload hx hb dX7_addUp_43 (lv_at hl 1 rfl) ?_
  exact retL (v := 0) hx hb hr hlocks hS (⟨rfl, hP, hD⟩) dX7_addUp_45
abbrev BX7_addUp_6 (D : va_G) (k : Nat → ClassId) (h0 : Nat) (A : Nat → Prop) (r : Int64) (H : Heap) : Prop := 1 = r ∧ va_P D cl0 [(h0, .inl (k 1, 900, .inr (.inl (tL [1, 0, 0, 1] 0))))] H ∧ va_D A [(h0, .inl (k 1, 900, .inr (.inl (tL [1, 0, 0, 1] 0))))]
set_option maxHeartbeats 4000000 in
set_option maxRecDepth 100000 in
theorem cX7_addUp_6 (l : Launch) (D : va_G) (k : Nat → ClassId) (sz : Nat) (h0 : Nat) : Met l yX7_addUp (Cond.code yX7_addUp cX7_addUp 10 (some .long) :: uw) ({ frames := 0, cells := 0, slots := 0, locals := 0 }) (pC D k sz [.ref h0, .int 1, .int 2, .ref h0, .int 1, .int 2, .int 2] [(h0, .inl (k 1, 900, .inr (.inl (tL [1, 0, 0, 1] 0))))]) (qL (BX7_addUp_6 D k h0 (va_A [(h0, .inl (k 1, 900, .inr (.inl (tL [1, 0, 0, 1] 0))))] sz)) (va_A [(h0, .inl (k 1, 900, .inr (.inl (tL [1, 0, 0, 1] 0))))] sz)) 0 0 (va_A [(h0, .inl (k 1, 900, .inr (.inl (tL [1, 0, 0, 1] 0))))] sz) := by
  refine begin_ (Qc := fun A => qL (BX7_addUp_6 D k h0 A) A) (by decide) (Nat.le_of_ble_eq_true rfl) ?_
  intro p e s m below meth c ls A hx hb hr hml hown hlocks hin hU hK hsz hP hD hS hA hl
  have hl : lv_has ls 10 [(0, .ref h0), (1, .int 1), (2, .int 2), (3, .ref h0), (4, .int 1), (5, .int 2), (6, .int 2)] := hl
  clear hsz
  refine lv_lconst (v := 0) hx hb dX7_addUp_0 (by decide) ?_
  refine lv_lstore (lv' := [(7, .long 0), (0, .ref h0), (1, .int 1), (2, .int 2), (3, .ref h0), (4, .int 1), (5, .int 2), (6, .int 2)]) hx hb dX7_addUp_1 hl (by decide) rfl (fun ls hl => ?_)
  refine lv_iconst (v := 0) hx hb dX7_addUp_3 (by decide) ?_
  refine lv_istore (lv' := [(9, .int 0), (7, .long 0), (0, .ref h0), (1, .int 1), (2, .int 2), (3, .ref h0), (4, .int 1), (5, .int 2), (6, .int 2)]) hx hb dX7_addUp_4 hl (by decide) rfl (fun ls hl => ?_)
  refine lv_iload hx hb dX7_addUp_6 (lv_at hl 0 rfl) ?_
  refine lv_iload hx hb dX7_addUp_8 (lv_at hl 8 rfl) ?_
  refine lv_icmp_ge (tgt := 43) hx hb dX7_addUp_10 (by decide) (fun cc => absurd cc (by decide +kernel)) (fun _ => ?_)
  refine lv_lload hx hb dX7_addUp_13 (lv_at hl 1 rfl) ?_
  refine lv_aload_n hx hb dX7_addUp_15 rfl (lv_at hl 2 rfl) ?_
  refine lv_iload_n hx hb dX7_addUp_16 rfl (lv_at hl 3 rfl) ?_
  refine lv_iload hx hb dX7_addUp_17 (lv_at hl 0 rfl) ?_
  refine lv_iload_n hx hb dX7_addUp_19 rfl (lv_at hl 4 rfl) ?_
  refine lv_imul hx hb dX7_addUp_20 (sv_i (v := 0) (by decide +kernel) ?_)
  refine lv_iadd hx hb dX7_addUp_21 (sv_i (v := 1) (by decide +kernel) ?_)
  refine ld_l (j := 1) (v := 0) hx hb hK hP 0 rfl (by decide +kernel) rfl dX7_addUp_22 ?_
  refine lv_aload_n hx hb dX7_addUp_23 rfl (lv_at hl 5 rfl) ?_
  refine lv_iload hx hb dX7_addUp_24 (lv_at hl 6 rfl) ?_
  refine lv_iload hx hb dX7_addUp_26 (lv_at hl 0 rfl) ?_
  refine lv_iload hx hb dX7_addUp_28 (lv_at hl 7 rfl) ?_
  refine lv_imul hx hb dX7_addUp_30 (sv_i (v := 0) (by decide +kernel) ?_)
  refine lv_iadd hx hb dX7_addUp_31 (sv_i (v := 1) (by decide +kernel) ?_)
  refine ld_l (j := 1) (v := 0) hx hb hK hP 0 rfl (by decide +kernel) rfl dX7_addUp_32 ?_
  refine lv_lmul hx hb dX7_addUp_33 (sv_l (v := 0) (by decide +kernel) ?_)
  refine lv_ladd hx hb dX7_addUp_34 (sv_l (v := 0) (by decide +kernel) ?_)
  refine lv_lstore (lv' := [(7, .long 0), (9, .int 0), (0, .ref h0), (1, .int 1), (2, .int 2), (3, .ref h0), (4, .int 1), (5, .int 2), (6, .int 2)]) hx hb dX7_addUp_35 hl (by decide) rfl (fun ls hl => ?_)
  refine lv_iinc (v := 1) (lv' := [(9, .int 1), (7, .long 0), (0, .ref h0), (1, .int 1), (2, .int 2), (3, .ref h0), (4, .int 1), (5, .int 2), (6, .int 2)]) hx hb dX7_addUp_37 hl (k := 1) rfl (by decide) (by decide) rfl (fun ls hl => ?_)
  refine lv_goto (tgt := 6) hx hb dX7_addUp_40 (by decide) ?_
  refine lv_iload hx hb dX7_addUp_6 (lv_at hl 0 rfl) ?_
  refine lv_iload hx hb dX7_addUp_8 (lv_at hl 8 rfl) ?_
  refine lv_icmp_ge (tgt := 43) hx hb dX7_addUp_10 (by decide) (fun cc => absurd cc (by decide +kernel)) (fun _ => ?_)
  refine lv_lload hx hb dX7_addUp_13 (lv_at hl 1 rfl) ?_
  refine lv_aload_n hx hb dX7_addUp_15 rfl (lv_at hl 2 rfl) ?_
  refine lv_iload_n hx hb dX7_addUp_16 rfl (lv_at hl 3 rfl) ?_
  refine lv_iload hx hb dX7_addUp_17 (lv_at hl 0 rfl) ?_
  refine lv_iload_n hx hb dX7_addUp_19 rfl (lv_at hl 4 rfl) ?_
  refine lv_imul hx hb dX7_addUp_20 (sv_i (v := 2) (by decide +kernel) ?_)
  refine lv_iadd hx hb dX7_addUp_21 (sv_i (v := 3) (by decide +kernel) ?_)
  refine ld_l (j := 3) (v := 1) hx hb hK hP 0 rfl (by decide +kernel) rfl dX7_addUp_22 ?_
  refine lv_aload_n hx hb dX7_addUp_23 rfl (lv_at hl 5 rfl) ?_
  refine lv_iload hx hb dX7_addUp_24 (lv_at hl 6 rfl) ?_
  refine lv_iload hx hb dX7_addUp_26 (lv_at hl 0 rfl) ?_
  refine lv_iload hx hb dX7_addUp_28 (lv_at hl 7 rfl) ?_
  refine lv_imul hx hb dX7_addUp_30 (sv_i (v := 2) (by decide +kernel) ?_)
  refine lv_iadd hx hb dX7_addUp_31 (sv_i (v := 3) (by decide +kernel) ?_)
  refine ld_l (j := 3) (v := 1) hx hb hK hP 0 rfl (by decide +kernel) rfl dX7_addUp_32 ?_
  refine lv_lmul hx hb dX7_addUp_33 (sv_l (v := 1) (by decide +kernel) ?_)
  refine lv_ladd hx hb dX7_addUp_34 (sv_l (v := 1) (by decide +kernel) ?_)
  refine lv_lstore (lv' := [(7, .long 1), (9, .int 1), (0, .ref h0), (1, .int 1), (2, .int 2), (3, .ref h0), (4, .int 1), (5, .int 2), (6, .int 2)]) hx hb dX7_addUp_35 hl (by decide) rfl (fun ls hl => ?_)
  refine lv_iinc (v := 2) (lv' := [(9, .int 2), (7, .long 1), (0, .ref h0), (1, .int 1), (2, .int 2), (3, .ref h0), (4, .int 1), (5, .int 2), (6, .int 2)]) hx hb dX7_addUp_37 hl (k := 1) rfl (by decide) (by decide) rfl (fun ls hl => ?_)
  refine lv_goto (tgt := 6) hx hb dX7_addUp_40 (by decide) ?_
  refine lv_iload hx hb dX7_addUp_6 (lv_at hl 0 rfl) ?_
  refine lv_iload hx hb dX7_addUp_8 (lv_at hl 8 rfl) ?_
  refine lv_icmp_ge (tgt := 43) hx hb dX7_addUp_10 (by decide) (fun _ => ?_) (fun cc => absurd (by decide +kernel) cc)
  refine lv_lload hx hb dX7_addUp_43 (lv_at hl 1 rfl) ?_
  exact retL (v := 1) hx hb hr hlocks hS (⟨rfl, hP, hD⟩) dX7_addUp_45
abbrev BX7_multiplyTurned_1 (D : va_G) (k : Nat → ClassId) (h0 h1 : Nat) (A : Nat → Prop) (H : Heap) : Prop := va_P D cl0 [(h1, .inl (k 1, 9, .inr (.inl (tL [1, 0, 0, 1] 0)))), (h0, .inl (k 1, 900, .inr (.inl (tL [1, 0, 0, 1] 0))))] H ∧ va_D A [(h1, .inl (k 1, 9, .inr (.inl (tL [1, 0, 0, 1] 0)))), (h0, .inl (k 1, 900, .inr (.inl (tL [1, 0, 0, 1] 0))))]
set_option maxHeartbeats 4000000 in
set_option maxRecDepth 100000 in
theorem cX7_multiplyTurned_1 (l : Launch) (D : va_G) (k : Nat → ClassId) (sz : Nat) (h0 h1 : Nat) : Met l yX7_multiplyTurned (Cond.code yX7_multiplyTurned cX7_multiplyTurned 8 none :: uw) ({ frames := 1, cells := 0, slots := 0, locals := 29 }) (pC D k sz [.ref h0, .int 0, .ref h0, .int 0, .ref h1, .int 2] [(h0, .inl (k 1, 900, .inr (.inl (tL [1, 0, 0, 1] 0)))), (h1, .inl (k 1, 9, .inr (.inl (tL [] 0))))]) (qV (BX7_multiplyTurned_1 D k h0 h1 (va_A [(h0, .inl (k 1, 900, .inr (.inl (tL [1, 0, 0, 1] 0)))), (h1, .inl (k 1, 9, .inr (.inl (tL [] 0))))] sz)) (va_A [(h0, .inl (k 1, 900, .inr (.inl (tL [1, 0, 0, 1] 0)))), (h1, .inl (k 1, 9, .inr (.inl (tL [] 0))))] sz)) 0 0 (va_A [(h0, .inl (k 1, 900, .inr (.inl (tL [1, 0, 0, 1] 0)))), (h1, .inl (k 1, 9, .inr (.inl (tL [] 0))))] sz) := by
  refine begin_ (Qc := fun A => qV (BX7_multiplyTurned_1 D k h0 h1 A) A) (by decide) (Nat.le_of_ble_eq_true rfl) ?_
  intro p e s m below meth c ls A hx hb hr hml hown hlocks hin hU hK hsz hP hD hS hA hl
  have hl : lv_has ls 8 [(0, .ref h0), (1, .int 0), (2, .ref h0), (3, .int 0), (4, .ref h1), (5, .int 2)] := hl
  clear hsz
  refine lv_iconst (v := 0) hx hb dX7_multiplyTurned_0 (by decide) ?_
  refine lv_istore (lv' := [(6, .int 0), (0, .ref h0), (1, .int 0), (2, .ref h0), (3, .int 0), (4, .ref h1), (5, .int 2)]) hx hb dX7_multiplyTurned_1 hl (by decide) rfl (fun ls hl => ?_)
  refine lv_iload hx hb dX7_multiplyTurned_3 (lv_at hl 0 rfl) ?_
  refine lv_iload hx hb dX7_multiplyTurned_5 (lv_at hl 6 rfl) ?_
  refine lv_icmp_ge (tgt := 62) hx hb dX7_multiplyTurned_7 (by decide) (fun cc => absurd cc (by decide +kernel)) (fun _ => ?_)
  refine lv_iconst (v := 0) hx hb dX7_multiplyTurned_10 (by decide) ?_
  refine lv_istore (lv' := [(7, .int 0), (6, .int 0), (0, .ref h0), (1, .int 0), (2, .ref h0), (3, .int 0), (4, .ref h1), (5, .int 2)]) hx hb dX7_multiplyTurned_11 hl (by decide) rfl (fun ls hl => ?_)
  refine lv_iload hx hb dX7_multiplyTurned_13 (lv_at hl 0 rfl) ?_
  refine lv_iload hx hb dX7_multiplyTurned_15 (lv_at hl 7 rfl) ?_
  refine lv_icmp_ge (tgt := 56) hx hb dX7_multiplyTurned_17 (by decide) (fun cc => absurd cc (by decide +kernel)) (fun _ => ?_)
  refine lv_aload hx hb dX7_multiplyTurned_20 (lv_at hl 6 rfl) ?_
  refine lv_iload hx hb dX7_multiplyTurned_22 (lv_at hl 1 rfl) ?_
  refine lv_iload hx hb dX7_multiplyTurned_24 (lv_at hl 7 rfl) ?_
  refine lv_imul hx hb dX7_multiplyTurned_26 (sv_i (v := 0) (by decide +kernel) ?_)
  refine lv_iload hx hb dX7_multiplyTurned_27 (lv_at hl 0 rfl) ?_
  refine lv_iadd hx hb dX7_multiplyTurned_29 (sv_i (v := 0) (by decide +kernel) ?_)
  refine lv_aload_n hx hb dX7_multiplyTurned_30 rfl (lv_at hl 2 rfl) ?_
  refine lv_iload_n hx hb dX7_multiplyTurned_31 rfl (lv_at hl 3 rfl) ?_
  refine lv_iload hx hb dX7_multiplyTurned_32 (lv_at hl 1 rfl) ?_
  refine lv_iadd hx hb dX7_multiplyTurned_34 (sv_i (v := 0) (by decide +kernel) ?_)
  refine lv_iload hx hb dX7_multiplyTurned_35 (lv_at hl 7 rfl) ?_
  refine lv_aload_n hx hb dX7_multiplyTurned_37 rfl (lv_at hl 4 rfl) ?_
  refine lv_iload_n hx hb dX7_multiplyTurned_38 rfl (lv_at hl 5 rfl) ?_
  refine lv_iload hx hb dX7_multiplyTurned_39 (lv_at hl 0 rfl) ?_
  refine lv_iadd hx hb dX7_multiplyTurned_41 (sv_i (v := 0) (by decide +kernel) ?_)
  refine lv_iload hx hb dX7_multiplyTurned_42 (lv_at hl 7 rfl) ?_
  refine lv_iload hx hb dX7_multiplyTurned_44 (lv_at hl 7 rfl) ?_
  refine cL (rS (As := [.ref h0, .int 0, .int 2, .ref h0, .int 0, .int 2, .int 2]) (rest := [.int 0, .ref h1]) (wc := [(h0, .inl (k 1, 900, .inr (.inl (tL [1, 0, 0, 1] 0))))]) hx hb hml hown hU hK hP hD [0] rfl (by decide) (cX7_addUp_3 l D k _ h0) w366 w364 w365 w74 hdX7_addUp ⟨rfl, rfl⟩ ⟨Nat.le_of_ble_eq_true rfl, Nat.le_of_ble_eq_true rfl⟩ rfl hl.1 (Nat.le_of_ble_eq_true rfl) dX7_multiplyTurned_46 ⟨Nat.le_of_ble_eq_true rfl, Nat.le_of_ble_eq_true rfl⟩) hP hD hS hA (wr := [(h1, .inl (k 1, 9, .inr (.inl (tL [] 0))))]) [0] [1] rfl rfl (by decide) (by decide) (fun r1 H locs hB J hS => ?_)
  obtain ⟨rfl, hP1, hD1⟩ := hB
  obtain ⟨hP, hD⟩ := J _ hP1 hD1
  have hP : va_P D cl0 [(h1, .inl (k 1, 9, .inr (.inl (tL [] 0)))), (h0, .inl (k 1, 900, .inr (.inl (tL [1, 0, 0, 1] 0))))] H := hP
  have hD : va_D A [(h1, .inl (k 1, 9, .inr (.inl (tL [] 0)))), (h0, .inl (k 1, 900, .inr (.inl (tL [1, 0, 0, 1] 0))))] := hD
  refine st_l (j := 0) (g := tL [1] 0) hx hb hK hP hD hS 0 rfl (by decide +kernel) upd_tL dX7_multiplyTurned_49 (fun H locs hP hD hS => ?_)
  have hP : va_P D cl0 [(h1, .inl (k 1, 9, .inr (.inl (tL [1] 0)))), (h0, .inl (k 1, 900, .inr (.inl (tL [1, 0, 0, 1] 0))))] H := hP
  have hD : va_D A [(h1, .inl (k 1, 9, .inr (.inl (tL [1] 0)))), (h0, .inl (k 1, 900, .inr (.inl (tL [1, 0, 0, 1] 0))))] := hD
  refine lv_iinc (v := 1) (lv' := [(7, .int 1), (6, .int 0), (0, .ref h0), (1, .int 0), (2, .ref h0), (3, .int 0), (4, .ref h1), (5, .int 2)]) hx hb dX7_multiplyTurned_50 hl (k := 0) rfl (by decide) (by decide) rfl (fun ls hl => ?_)
  refine lv_goto (tgt := 13) hx hb dX7_multiplyTurned_53 (by decide) ?_
  refine lv_iload hx hb dX7_multiplyTurned_13 (lv_at hl 0 rfl) ?_
  refine lv_iload hx hb dX7_multiplyTurned_15 (lv_at hl 7 rfl) ?_
  refine lv_icmp_ge (tgt := 56) hx hb dX7_multiplyTurned_17 (by decide) (fun cc => absurd cc (by decide +kernel)) (fun _ => ?_)
  refine lv_aload hx hb dX7_multiplyTurned_20 (lv_at hl 6 rfl) ?_
  refine lv_iload hx hb dX7_multiplyTurned_22 (lv_at hl 1 rfl) ?_
  refine lv_iload hx hb dX7_multiplyTurned_24 (lv_at hl 7 rfl) ?_
  refine lv_imul hx hb dX7_multiplyTurned_26 (sv_i (v := 0) (by decide +kernel) ?_)
  refine lv_iload hx hb dX7_multiplyTurned_27 (lv_at hl 0 rfl) ?_
  refine lv_iadd hx hb dX7_multiplyTurned_29 (sv_i (v := 1) (by decide +kernel) ?_)
  refine lv_aload_n hx hb dX7_multiplyTurned_30 rfl (lv_at hl 2 rfl) ?_
  refine lv_iload_n hx hb dX7_multiplyTurned_31 rfl (lv_at hl 3 rfl) ?_
  refine lv_iload hx hb dX7_multiplyTurned_32 (lv_at hl 1 rfl) ?_
  refine lv_iadd hx hb dX7_multiplyTurned_34 (sv_i (v := 0) (by decide +kernel) ?_)
  refine lv_iload hx hb dX7_multiplyTurned_35 (lv_at hl 7 rfl) ?_
  refine lv_aload_n hx hb dX7_multiplyTurned_37 rfl (lv_at hl 4 rfl) ?_
  refine lv_iload_n hx hb dX7_multiplyTurned_38 rfl (lv_at hl 5 rfl) ?_
  refine lv_iload hx hb dX7_multiplyTurned_39 (lv_at hl 0 rfl) ?_
  refine lv_iadd hx hb dX7_multiplyTurned_41 (sv_i (v := 1) (by decide +kernel) ?_)
  refine lv_iload hx hb dX7_multiplyTurned_42 (lv_at hl 7 rfl) ?_
  refine lv_iload hx hb dX7_multiplyTurned_44 (lv_at hl 7 rfl) ?_
  refine cL (rS (As := [.ref h0, .int 0, .int 2, .ref h0, .int 1, .int 2, .int 2]) (rest := [.int 1, .ref h1]) (wc := [(h0, .inl (k 1, 900, .inr (.inl (tL [1, 0, 0, 1] 0))))]) hx hb hml hown hU hK hP hD [1] rfl (by decide) (cX7_addUp_4 l D k _ h0) w366 w364 w365 w74 hdX7_addUp ⟨rfl, rfl⟩ ⟨Nat.le_of_ble_eq_true rfl, Nat.le_of_ble_eq_true rfl⟩ rfl hl.1 (Nat.le_of_ble_eq_true rfl) dX7_multiplyTurned_46 ⟨Nat.le_of_ble_eq_true rfl, Nat.le_of_ble_eq_true rfl⟩) hP hD hS hA (wr := [(h1, .inl (k 1, 9, .inr (.inl (tL [1] 0))))]) [1] [0] rfl rfl (by decide) (by decide) (fun r2 H locs hB J hS => ?_)
  obtain ⟨rfl, hP1, hD1⟩ := hB
  obtain ⟨hP, hD⟩ := J _ hP1 hD1
  have hP : va_P D cl0 [(h1, .inl (k 1, 9, .inr (.inl (tL [1] 0)))), (h0, .inl (k 1, 900, .inr (.inl (tL [1, 0, 0, 1] 0))))] H := hP
  have hD : va_D A [(h1, .inl (k 1, 9, .inr (.inl (tL [1] 0)))), (h0, .inl (k 1, 900, .inr (.inl (tL [1, 0, 0, 1] 0))))] := hD
  refine st_l (j := 1) (g := tL [1, 0] 0) hx hb hK hP hD hS 0 rfl (by decide +kernel) upd_tL dX7_multiplyTurned_49 (fun H locs hP hD hS => ?_)
  have hP : va_P D cl0 [(h1, .inl (k 1, 9, .inr (.inl (tL [1, 0] 0)))), (h0, .inl (k 1, 900, .inr (.inl (tL [1, 0, 0, 1] 0))))] H := hP
  have hD : va_D A [(h1, .inl (k 1, 9, .inr (.inl (tL [1, 0] 0)))), (h0, .inl (k 1, 900, .inr (.inl (tL [1, 0, 0, 1] 0))))] := hD
  refine lv_iinc (v := 2) (lv' := [(7, .int 2), (6, .int 0), (0, .ref h0), (1, .int 0), (2, .ref h0), (3, .int 0), (4, .ref h1), (5, .int 2)]) hx hb dX7_multiplyTurned_50 hl (k := 0) rfl (by decide) (by decide) rfl (fun ls hl => ?_)
  refine lv_goto (tgt := 13) hx hb dX7_multiplyTurned_53 (by decide) ?_
  refine lv_iload hx hb dX7_multiplyTurned_13 (lv_at hl 0 rfl) ?_
  refine lv_iload hx hb dX7_multiplyTurned_15 (lv_at hl 7 rfl) ?_
  refine lv_icmp_ge (tgt := 56) hx hb dX7_multiplyTurned_17 (by decide) (fun _ => ?_) (fun cc => absurd (by decide +kernel) cc)
  refine lv_iinc (v := 1) (lv' := [(6, .int 1), (7, .int 2), (0, .ref h0), (1, .int 0), (2, .ref h0), (3, .int 0), (4, .ref h1), (5, .int 2)]) hx hb dX7_multiplyTurned_56 hl (k := 1) rfl (by decide) (by decide) rfl (fun ls hl => ?_)
  refine lv_goto (tgt := 3) hx hb dX7_multiplyTurned_59 (by decide) ?_
  refine lv_iload hx hb dX7_multiplyTurned_3 (lv_at hl 0 rfl) ?_
  refine lv_iload hx hb dX7_multiplyTurned_5 (lv_at hl 7 rfl) ?_
  refine lv_icmp_ge (tgt := 62) hx hb dX7_multiplyTurned_7 (by decide) (fun cc => absurd cc (by decide +kernel)) (fun _ => ?_)
  refine lv_iconst (v := 0) hx hb dX7_multiplyTurned_10 (by decide) ?_
  refine lv_istore (lv' := [(7, .int 0), (6, .int 1), (0, .ref h0), (1, .int 0), (2, .ref h0), (3, .int 0), (4, .ref h1), (5, .int 2)]) hx hb dX7_multiplyTurned_11 hl (by decide) rfl (fun ls hl => ?_)
  refine lv_iload hx hb dX7_multiplyTurned_13 (lv_at hl 0 rfl) ?_
  refine lv_iload hx hb dX7_multiplyTurned_15 (lv_at hl 7 rfl) ?_
  refine lv_icmp_ge (tgt := 56) hx hb dX7_multiplyTurned_17 (by decide) (fun cc => absurd cc (by decide +kernel)) (fun _ => ?_)
  refine lv_aload hx hb dX7_multiplyTurned_20 (lv_at hl 6 rfl) ?_
  refine lv_iload hx hb dX7_multiplyTurned_22 (lv_at hl 1 rfl) ?_
  refine lv_iload hx hb dX7_multiplyTurned_24 (lv_at hl 7 rfl) ?_
  refine lv_imul hx hb dX7_multiplyTurned_26 (sv_i (v := 2) (by decide +kernel) ?_)
  refine lv_iload hx hb dX7_multiplyTurned_27 (lv_at hl 0 rfl) ?_
  refine lv_iadd hx hb dX7_multiplyTurned_29 (sv_i (v := 2) (by decide +kernel) ?_)
  refine lv_aload_n hx hb dX7_multiplyTurned_30 rfl (lv_at hl 2 rfl) ?_
  refine lv_iload_n hx hb dX7_multiplyTurned_31 rfl (lv_at hl 3 rfl) ?_
  refine lv_iload hx hb dX7_multiplyTurned_32 (lv_at hl 1 rfl) ?_
  refine lv_iadd hx hb dX7_multiplyTurned_34 (sv_i (v := 1) (by decide +kernel) ?_)
  refine lv_iload hx hb dX7_multiplyTurned_35 (lv_at hl 7 rfl) ?_
  refine lv_aload_n hx hb dX7_multiplyTurned_37 rfl (lv_at hl 4 rfl) ?_
  refine lv_iload_n hx hb dX7_multiplyTurned_38 rfl (lv_at hl 5 rfl) ?_
  refine lv_iload hx hb dX7_multiplyTurned_39 (lv_at hl 0 rfl) ?_
  refine lv_iadd hx hb dX7_multiplyTurned_41 (sv_i (v := 0) (by decide +kernel) ?_)
  refine lv_iload hx hb dX7_multiplyTurned_42 (lv_at hl 7 rfl) ?_
  refine lv_iload hx hb dX7_multiplyTurned_44 (lv_at hl 7 rfl) ?_
  refine cL (rS (As := [.ref h0, .int 1, .int 2, .ref h0, .int 0, .int 2, .int 2]) (rest := [.int 2, .ref h1]) (wc := [(h0, .inl (k 1, 900, .inr (.inl (tL [1, 0, 0, 1] 0))))]) hx hb hml hown hU hK hP hD [1] rfl (by decide) (cX7_addUp_5 l D k _ h0) w366 w364 w365 w74 hdX7_addUp ⟨rfl, rfl⟩ ⟨Nat.le_of_ble_eq_true rfl, Nat.le_of_ble_eq_true rfl⟩ rfl hl.1 (Nat.le_of_ble_eq_true rfl) dX7_multiplyTurned_46 ⟨Nat.le_of_ble_eq_true rfl, Nat.le_of_ble_eq_true rfl⟩) hP hD hS hA (wr := [(h1, .inl (k 1, 9, .inr (.inl (tL [1, 0] 0))))]) [1] [0] rfl rfl (by decide) (by decide) (fun r3 H locs hB J hS => ?_)
  obtain ⟨rfl, hP1, hD1⟩ := hB
  obtain ⟨hP, hD⟩ := J _ hP1 hD1
  have hP : va_P D cl0 [(h1, .inl (k 1, 9, .inr (.inl (tL [1, 0] 0)))), (h0, .inl (k 1, 900, .inr (.inl (tL [1, 0, 0, 1] 0))))] H := hP
  have hD : va_D A [(h1, .inl (k 1, 9, .inr (.inl (tL [1, 0] 0)))), (h0, .inl (k 1, 900, .inr (.inl (tL [1, 0, 0, 1] 0))))] := hD
  refine st_l (j := 2) (g := tL [1, 0, 0] 0) hx hb hK hP hD hS 0 rfl (by decide +kernel) upd_tL dX7_multiplyTurned_49 (fun H locs hP hD hS => ?_)
  have hP : va_P D cl0 [(h1, .inl (k 1, 9, .inr (.inl (tL [1, 0, 0] 0)))), (h0, .inl (k 1, 900, .inr (.inl (tL [1, 0, 0, 1] 0))))] H := hP
  have hD : va_D A [(h1, .inl (k 1, 9, .inr (.inl (tL [1, 0, 0] 0)))), (h0, .inl (k 1, 900, .inr (.inl (tL [1, 0, 0, 1] 0))))] := hD
  refine lv_iinc (v := 1) (lv' := [(7, .int 1), (6, .int 1), (0, .ref h0), (1, .int 0), (2, .ref h0), (3, .int 0), (4, .ref h1), (5, .int 2)]) hx hb dX7_multiplyTurned_50 hl (k := 0) rfl (by decide) (by decide) rfl (fun ls hl => ?_)
  refine lv_goto (tgt := 13) hx hb dX7_multiplyTurned_53 (by decide) ?_
  refine lv_iload hx hb dX7_multiplyTurned_13 (lv_at hl 0 rfl) ?_
  refine lv_iload hx hb dX7_multiplyTurned_15 (lv_at hl 7 rfl) ?_
  refine lv_icmp_ge (tgt := 56) hx hb dX7_multiplyTurned_17 (by decide) (fun cc => absurd cc (by decide +kernel)) (fun _ => ?_)
  refine lv_aload hx hb dX7_multiplyTurned_20 (lv_at hl 6 rfl) ?_
  refine lv_iload hx hb dX7_multiplyTurned_22 (lv_at hl 1 rfl) ?_
  refine lv_iload hx hb dX7_multiplyTurned_24 (lv_at hl 7 rfl) ?_
  refine lv_imul hx hb dX7_multiplyTurned_26 (sv_i (v := 2) (by decide +kernel) ?_)
  refine lv_iload hx hb dX7_multiplyTurned_27 (lv_at hl 0 rfl) ?_
  refine lv_iadd hx hb dX7_multiplyTurned_29 (sv_i (v := 3) (by decide +kernel) ?_)
  refine lv_aload_n hx hb dX7_multiplyTurned_30 rfl (lv_at hl 2 rfl) ?_
  refine lv_iload_n hx hb dX7_multiplyTurned_31 rfl (lv_at hl 3 rfl) ?_
  refine lv_iload hx hb dX7_multiplyTurned_32 (lv_at hl 1 rfl) ?_
  refine lv_iadd hx hb dX7_multiplyTurned_34 (sv_i (v := 1) (by decide +kernel) ?_)
  refine lv_iload hx hb dX7_multiplyTurned_35 (lv_at hl 7 rfl) ?_
  refine lv_aload_n hx hb dX7_multiplyTurned_37 rfl (lv_at hl 4 rfl) ?_
  refine lv_iload_n hx hb dX7_multiplyTurned_38 rfl (lv_at hl 5 rfl) ?_
  refine lv_iload hx hb dX7_multiplyTurned_39 (lv_at hl 0 rfl) ?_
  refine lv_iadd hx hb dX7_multiplyTurned_41 (sv_i (v := 1) (by decide +kernel) ?_)
  refine lv_iload hx hb dX7_multiplyTurned_42 (lv_at hl 7 rfl) ?_
  refine lv_iload hx hb dX7_multiplyTurned_44 (lv_at hl 7 rfl) ?_
  refine cL (rS (As := [.ref h0, .int 1, .int 2, .ref h0, .int 1, .int 2, .int 2]) (rest := [.int 3, .ref h1]) (wc := [(h0, .inl (k 1, 900, .inr (.inl (tL [1, 0, 0, 1] 0))))]) hx hb hml hown hU hK hP hD [1] rfl (by decide) (cX7_addUp_6 l D k _ h0) w366 w364 w365 w74 hdX7_addUp ⟨rfl, rfl⟩ ⟨Nat.le_of_ble_eq_true rfl, Nat.le_of_ble_eq_true rfl⟩ rfl hl.1 (Nat.le_of_ble_eq_true rfl) dX7_multiplyTurned_46 ⟨Nat.le_of_ble_eq_true rfl, Nat.le_of_ble_eq_true rfl⟩) hP hD hS hA (wr := [(h1, .inl (k 1, 9, .inr (.inl (tL [1, 0, 0] 0))))]) [1] [0] rfl rfl (by decide) (by decide) (fun r4 H locs hB J hS => ?_)
  obtain ⟨rfl, hP1, hD1⟩ := hB
  obtain ⟨hP, hD⟩ := J _ hP1 hD1
  have hP : va_P D cl0 [(h1, .inl (k 1, 9, .inr (.inl (tL [1, 0, 0] 0)))), (h0, .inl (k 1, 900, .inr (.inl (tL [1, 0, 0, 1] 0))))] H := hP
  have hD : va_D A [(h1, .inl (k 1, 9, .inr (.inl (tL [1, 0, 0] 0)))), (h0, .inl (k 1, 900, .inr (.inl (tL [1, 0, 0, 1] 0))))] := hD
  refine st_l (j := 3) (g := tL [1, 0, 0, 1] 0) hx hb hK hP hD hS 0 rfl (by decide +kernel) upd_tL dX7_multiplyTurned_49 (fun H locs hP hD hS => ?_)
  have hP : va_P D cl0 [(h1, .inl (k 1, 9, .inr (.inl (tL [1, 0, 0, 1] 0)))), (h0, .inl (k 1, 900, .inr (.inl (tL [1, 0, 0, 1] 0))))] H := hP
  have hD : va_D A [(h1, .inl (k 1, 9, .inr (.inl (tL [1, 0, 0, 1] 0)))), (h0, .inl (k 1, 900, .inr (.inl (tL [1, 0, 0, 1] 0))))] := hD
  refine lv_iinc (v := 2) (lv' := [(7, .int 2), (6, .int 1), (0, .ref h0), (1, .int 0), (2, .ref h0), (3, .int 0), (4, .ref h1), (5, .int 2)]) hx hb dX7_multiplyTurned_50 hl (k := 0) rfl (by decide) (by decide) rfl (fun ls hl => ?_)
  refine lv_goto (tgt := 13) hx hb dX7_multiplyTurned_53 (by decide) ?_
  refine lv_iload hx hb dX7_multiplyTurned_13 (lv_at hl 0 rfl) ?_
  refine lv_iload hx hb dX7_multiplyTurned_15 (lv_at hl 7 rfl) ?_
  refine lv_icmp_ge (tgt := 56) hx hb dX7_multiplyTurned_17 (by decide) (fun _ => ?_) (fun cc => absurd (by decide +kernel) cc)
  refine lv_iinc (v := 2) (lv' := [(6, .int 2), (7, .int 2), (0, .ref h0), (1, .int 0), (2, .ref h0), (3, .int 0), (4, .ref h1), (5, .int 2)]) hx hb dX7_multiplyTurned_56 hl (k := 1) rfl (by decide) (by decide) rfl (fun ls hl => ?_)
  refine lv_goto (tgt := 3) hx hb dX7_multiplyTurned_59 (by decide) ?_
  refine lv_iload hx hb dX7_multiplyTurned_3 (lv_at hl 0 rfl) ?_
  refine lv_iload hx hb dX7_multiplyTurned_5 (lv_at hl 7 rfl) ?_
  refine lv_icmp_ge (tgt := 62) hx hb dX7_multiplyTurned_7 (by decide) (fun _ => ?_) (fun cc => absurd (by decide +kernel) cc)
  exact retV hx hb hr hlocks hS (⟨hP, hD⟩) dX7_multiplyTurned_62
abbrev BX10_addUpForm_1 (D : va_G) (k : Nat → ClassId) (h0 h1 h2 h3 h4 h5 h6 h7 h8 h9 h10 h11 h12 h13 h14 h15 h16 h17 h18 h19 h20 h21 : Nat) (A : Nat → Prop) (r : Int32) (H : Heap) : Prop := 1 = r ∧ va_P D cl0 [(h0, .inr (7, [.ref h1, .ref h6, .int 0, .ref h7, .ref h8, .ref h3, .int 1, .ref h9, .int 0, .null, .ref h10, .int 0, .ref h11, .ref h12, .ref h13, .ref h2, .ref h5])), (h1, .inr (4, [.int 2, .int 0, .int 1, .ref h14])), (h2, .inl (k 1, 9, .inr (.inl (tL [1, 0, 0, 1] 0)))), (h3, .inr (3, [.ref h4, .ref h15, .ref h16, .ref h17, .ref h18, .ref h19, .ref h20, .ref h21, .int 4, .int 100, .int 1, .int 1])), (h5, .inl (k 1, 9, .inr (.inl (tL [1, 0, 0, 1] 0)))), (h4, .inl (k 1, 900, .inr (.inl (tL [1, 0, 0, 1] 0))))] H ∧ va_D A [(h0, .inr (7, [.ref h1, .ref h6, .int 0, .ref h7, .ref h8, .ref h3, .int 1, .ref h9, .int 0, .null, .ref h10, .int 0, .ref h11, .ref h12, .ref h13, .ref h2, .ref h5])), (h1, .inr (4, [.int 2, .int 0, .int 1, .ref h14])), (h2, .inl (k 1, 9, .inr (.inl (tL [1, 0, 0, 1] 0)))), (h3, .inr (3, [.ref h4, .ref h15, .ref h16, .ref h17, .ref h18, .ref h19, .ref h20, .ref h21, .int 4, .int 100, .int 1, .int 1])), (h5, .inl (k 1, 9, .inr (.inl (tL [1, 0, 0, 1] 0)))), (h4, .inl (k 1, 900, .inr (.inl (tL [1, 0, 0, 1] 0))))]
set_option maxHeartbeats 4000000 in
set_option maxRecDepth 100000 in
theorem cX10_addUpForm_1 (l : Launch) (D : va_G) (k : Nat → ClassId) (sz : Nat) (h0 h1 h2 h3 h4 h5 h6 h7 h8 h9 h10 h11 h12 h13 h14 h15 h16 h17 h18 h19 h20 h21 : Nat) : Met l yX10_addUpForm (Cond.code yX10_addUpForm cX10_addUpForm 6 (some .boolean) :: uw) ({ frames := 2, cells := 0, slots := 0, locals := 56 }) (pC D k sz [.ref h0] [(h0, .inr (7, [.ref h1, .ref h6, .int 0, .ref h7, .ref h8, .ref h3, .int 1, .ref h9, .int 0, .null, .ref h10, .int 0, .ref h11, .ref h12, .ref h13, .ref h2, .ref h5])), (h1, .inr (4, [.int 2, .int 0, .int 1, .ref h14])), (h2, .inl (k 1, 9, .inr (.inl (tL [1, 0, 0, 1] 0)))), (h3, .inr (3, [.ref h4, .ref h15, .ref h16, .ref h17, .ref h18, .ref h19, .ref h20, .ref h21, .int 4, .int 100, .int 1, .int 1])), (h4, .inl (k 1, 900, .inr (.inl (tL [1, 0, 0, 1] 0)))), (h5, .inl (k 1, 9, .inr (.inl (tL [] 0))))]) (qI (BX10_addUpForm_1 D k h0 h1 h2 h3 h4 h5 h6 h7 h8 h9 h10 h11 h12 h13 h14 h15 h16 h17 h18 h19 h20 h21 (va_A [(h0, .inr (7, [.ref h1, .ref h6, .int 0, .ref h7, .ref h8, .ref h3, .int 1, .ref h9, .int 0, .null, .ref h10, .int 0, .ref h11, .ref h12, .ref h13, .ref h2, .ref h5])), (h1, .inr (4, [.int 2, .int 0, .int 1, .ref h14])), (h2, .inl (k 1, 9, .inr (.inl (tL [1, 0, 0, 1] 0)))), (h3, .inr (3, [.ref h4, .ref h15, .ref h16, .ref h17, .ref h18, .ref h19, .ref h20, .ref h21, .int 4, .int 100, .int 1, .int 1])), (h4, .inl (k 1, 900, .inr (.inl (tL [1, 0, 0, 1] 0)))), (h5, .inl (k 1, 9, .inr (.inl (tL [] 0))))] sz)) (va_A [(h0, .inr (7, [.ref h1, .ref h6, .int 0, .ref h7, .ref h8, .ref h3, .int 1, .ref h9, .int 0, .null, .ref h10, .int 0, .ref h11, .ref h12, .ref h13, .ref h2, .ref h5])), (h1, .inr (4, [.int 2, .int 0, .int 1, .ref h14])), (h2, .inl (k 1, 9, .inr (.inl (tL [1, 0, 0, 1] 0)))), (h3, .inr (3, [.ref h4, .ref h15, .ref h16, .ref h17, .ref h18, .ref h19, .ref h20, .ref h21, .int 4, .int 100, .int 1, .int 1])), (h4, .inl (k 1, 900, .inr (.inl (tL [1, 0, 0, 1] 0)))), (h5, .inl (k 1, 9, .inr (.inl (tL [] 0))))] sz)) 0 0 (va_A [(h0, .inr (7, [.ref h1, .ref h6, .int 0, .ref h7, .ref h8, .ref h3, .int 1, .ref h9, .int 0, .null, .ref h10, .int 0, .ref h11, .ref h12, .ref h13, .ref h2, .ref h5])), (h1, .inr (4, [.int 2, .int 0, .int 1, .ref h14])), (h2, .inl (k 1, 9, .inr (.inl (tL [1, 0, 0, 1] 0)))), (h3, .inr (3, [.ref h4, .ref h15, .ref h16, .ref h17, .ref h18, .ref h19, .ref h20, .ref h21, .int 4, .int 100, .int 1, .int 1])), (h4, .inl (k 1, 900, .inr (.inl (tL [1, 0, 0, 1] 0)))), (h5, .inl (k 1, 9, .inr (.inl (tL [] 0))))] sz) := by
  refine begin_ (Qc := fun A => qI (BX10_addUpForm_1 D k h0 h1 h2 h3 h4 h5 h6 h7 h8 h9 h10 h11 h12 h13 h14 h15 h16 h17 h18 h19 h20 h21 A) A) (by decide) (Nat.le_of_ble_eq_true rfl) ?_
  intro p e s m below meth c ls A hx hb hr hml hown hlocks hin hU hK hsz hP hD hS hA hl
  have hl : lv_has ls 6 [(0, .ref h0)] := hl
  clear hsz
  refine lv_aload_n hx hb dX10_addUpForm_0 rfl (lv_at hl 0 rfl) ?_
  refine va_get (D := D) (ci := 7) (v := .ref h1) (C := RX10) (T := TX10) (N := 17) hx hb hU iX10 hown hK.1 hP 0 rfl rfl 0 (by decide) (hU _ w249) (fun _ h9 => h9) rfl dX10_addUpForm_1 ?_
  refine cI (rV (q0 := 1) (ci := 4) (As := []) (rest := []) (wc := [(h1, .inr (4, [.int 2, .int 0, .int 1, .ref h14]))]) hx hb hml hown hU hK hP hD rfl rfl [1] rfl (by decide) (cX5_cellCount_1 l D k _ h1 h14) w385 w382 w383 w384 w64 hdX5_cellCount ⟨rfl, rfl⟩ ⟨Nat.le_of_ble_eq_true rfl, Nat.le_of_ble_eq_true rfl⟩ rfl hl.1 (Nat.le_of_ble_eq_true rfl) dX10_addUpForm_4 ⟨Nat.le_of_ble_eq_true rfl, Nat.le_of_ble_eq_true rfl⟩) hP hD hS hA (wr := [(h0, .inr (7, [.ref h1, .ref h6, .int 0, .ref h7, .ref h8, .ref h3, .int 1, .ref h9, .int 0, .null, .ref h10, .int 0, .ref h11, .ref h12, .ref h13, .ref h2, .ref h5])), (h2, .inl (k 1, 9, .inr (.inl (tL [1, 0, 0, 1] 0)))), (h3, .inr (3, [.ref h4, .ref h15, .ref h16, .ref h17, .ref h18, .ref h19, .ref h20, .ref h21, .int 4, .int 100, .int 1, .int 1])), (h4, .inl (k 1, 900, .inr (.inl (tL [1, 0, 0, 1] 0)))), (h5, .inl (k 1, 9, .inr (.inl (tL [] 0))))]) [1] [0, 2, 3, 4, 5] rfl rfl (by decide) (by decide) (fun r1 H locs hB J hS => ?_)
  obtain ⟨rfl, hP1, hD1⟩ := hB
  obtain ⟨hP, hD⟩ := J _ hP1 hD1
  have hP : va_P D cl0 [(h0, .inr (7, [.ref h1, .ref h6, .int 0, .ref h7, .ref h8, .ref h3, .int 1, .ref h9, .int 0, .null, .ref h10, .int 0, .ref h11, .ref h12, .ref h13, .ref h2, .ref h5])), (h2, .inl (k 1, 9, .inr (.inl (tL [1, 0, 0, 1] 0)))), (h3, .inr (3, [.ref h4, .ref h15, .ref h16, .ref h17, .ref h18, .ref h19, .ref h20, .ref h21, .int 4, .int 100, .int 1, .int 1])), (h4, .inl (k 1, 900, .inr (.inl (tL [1, 0, 0, 1] 0)))), (h5, .inl (k 1, 9, .inr (.inl (tL [] 0)))), (h1, .inr (4, [.int 2, .int 0, .int 1, .ref h14]))] H := hP
  have hD : va_D A [(h0, .inr (7, [.ref h1, .ref h6, .int 0, .ref h7, .ref h8, .ref h3, .int 1, .ref h9, .int 0, .null, .ref h10, .int 0, .ref h11, .ref h12, .ref h13, .ref h2, .ref h5])), (h2, .inl (k 1, 9, .inr (.inl (tL [1, 0, 0, 1] 0)))), (h3, .inr (3, [.ref h4, .ref h15, .ref h16, .ref h17, .ref h18, .ref h19, .ref h20, .ref h21, .int 4, .int 100, .int 1, .int 1])), (h4, .inl (k 1, 900, .inr (.inl (tL [1, 0, 0, 1] 0)))), (h5, .inl (k 1, 9, .inr (.inl (tL [] 0)))), (h1, .inr (4, [.int 2, .int 0, .int 1, .ref h14]))] := hD
  refine lv_istore_n (lv' := [(1, .int 4), (0, .ref h0)]) hx hb dX10_addUpForm_7 rfl hl (by decide) rfl (fun ls hl => ?_)
  refine lv_aload_n hx hb dX10_addUpForm_8 rfl (lv_at hl 1 rfl) ?_
  refine va_get (D := D) (ci := 7) (v := .ref h2) (C := RX10) (T := TX10) (N := 17) hx hb hU iX10 hown hK.1 hP 0 rfl rfl 15 (by decide) (hU _ w264) (fun _ h9 => h9) rfl dX10_addUpForm_9 ?_
  refine lv_lconst (v := 0) hx hb dX10_addUpForm_12 (by decide) ?_
  refine cV (rS (As := [.ref h2, .long 0]) (rest := []) (wc := [(h2, .inl (k 1, 9, .inr (.inl (tL [1, 0, 0, 1] 0))))]) hx hb hml hown hU hK hP hD [1] rfl (by decide) (c_fillL l D k _ h2 (9) (tL [1, 0, 0, 1] 0) (0) (by decide)) w336 w617 w335 w73 hdJ7_fill_d0a16 ⟨rfl, rfl⟩ ⟨Nat.le_of_ble_eq_true rfl, Nat.le_of_ble_eq_true rfl⟩ rfl hl.1 (Nat.le_of_ble_eq_true rfl) dX10_addUpForm_13 ⟨Nat.le_of_ble_eq_true rfl, Nat.le_of_ble_eq_true rfl⟩) hP hD hS hA (wr := [(h0, .inr (7, [.ref h1, .ref h6, .int 0, .ref h7, .ref h8, .ref h3, .int 1, .ref h9, .int 0, .null, .ref h10, .int 0, .ref h11, .ref h12, .ref h13, .ref h2, .ref h5])), (h3, .inr (3, [.ref h4, .ref h15, .ref h16, .ref h17, .ref h18, .ref h19, .ref h20, .ref h21, .int 4, .int 100, .int 1, .int 1])), (h4, .inl (k 1, 900, .inr (.inl (tL [1, 0, 0, 1] 0)))), (h5, .inl (k 1, 9, .inr (.inl (tL [] 0)))), (h1, .inr (4, [.int 2, .int 0, .int 1, .ref h14]))]) [1] [0, 2, 3, 4, 5] rfl rfl (by decide) (by decide) (fun H locs hB J hS => ?_)
  obtain ⟨hP1, hD1⟩ := hB
  obtain ⟨hP, hD⟩ := J _ hP1 hD1
  have hP : va_P D cl0 [(h0, .inr (7, [.ref h1, .ref h6, .int 0, .ref h7, .ref h8, .ref h3, .int 1, .ref h9, .int 0, .null, .ref h10, .int 0, .ref h11, .ref h12, .ref h13, .ref h2, .ref h5])), (h3, .inr (3, [.ref h4, .ref h15, .ref h16, .ref h17, .ref h18, .ref h19, .ref h20, .ref h21, .int 4, .int 100, .int 1, .int 1])), (h4, .inl (k 1, 900, .inr (.inl (tL [1, 0, 0, 1] 0)))), (h5, .inl (k 1, 9, .inr (.inl (tL [] 0)))), (h1, .inr (4, [.int 2, .int 0, .int 1, .ref h14])), (h2, .inl (k 1, 9, .inr (.inl (tL [] 0))))] H := hP
  have hD : va_D A [(h0, .inr (7, [.ref h1, .ref h6, .int 0, .ref h7, .ref h8, .ref h3, .int 1, .ref h9, .int 0, .null, .ref h10, .int 0, .ref h11, .ref h12, .ref h13, .ref h2, .ref h5])), (h3, .inr (3, [.ref h4, .ref h15, .ref h16, .ref h17, .ref h18, .ref h19, .ref h20, .ref h21, .int 4, .int 100, .int 1, .int 1])), (h4, .inl (k 1, 900, .inr (.inl (tL [1, 0, 0, 1] 0)))), (h5, .inl (k 1, 9, .inr (.inl (tL [] 0)))), (h1, .inr (4, [.int 2, .int 0, .int 1, .ref h14])), (h2, .inl (k 1, 9, .inr (.inl (tL [] 0))))] := hD
  refine lv_iconst (v := 0) hx hb dX10_addUpForm_16 (by decide) ?_
  refine lv_istore_n (lv' := [(2, .int 0), (1, .int 4), (0, .ref h0)]) hx hb dX10_addUpForm_17 rfl hl (by decide) rfl (fun ls hl => ?_)
  refine lv_iload_n hx hb dX10_addUpForm_18 rfl (lv_at hl 0 rfl) ?_
  refine lv_aload_n hx hb dX10_addUpForm_19 rfl (lv_at hl 2 rfl) ?_
  refine va_get (D := D) (ci := 7) (v := .ref h3) (C := RX10) (T := TX10) (N := 17) hx hb hU iX10 hown hK.1 hP 0 rfl rfl 5 (by decide) (hU _ w254) (fun _ h9 => h9) rfl dX10_addUpForm_20 ?_
  refine va_get (D := D) (ci := 3) (v := .int 1) (C := RX4) (T := TX4) (N := 12) hx hb hU iX4 hown hK.1 hP 1 rfl rfl 10 (by decide) (hU _ w166) (fun _ h9 => h9) rfl dX10_addUpForm_23 ?_
  refine lv_icmp_ge (tgt := 141) hx hb dX10_addUpForm_26 (by decide) (fun cc => absurd cc (by decide +kernel)) (fun _ => ?_)
  refine lv_aload_n hx hb dX10_addUpForm_29 rfl (lv_at hl 2 rfl) ?_
  refine va_get (D := D) (ci := 7) (v := .ref h3) (C := RX10) (T := TX10) (N := 17) hx hb hU iX10 hown hK.1 hP 0 rfl rfl 5 (by decide) (hU _ w254) (fun _ h9 => h9) rfl dX10_addUpForm_30 ?_
  refine va_get (D := D) (ci := 3) (v := .ref h4) (C := RX4) (T := TX4) (N := 12) hx hb hU iX4 hown hK.1 hP 1 rfl rfl 0 (by decide) (hU _ w150) (fun _ h9 => h9) rfl dX10_addUpForm_33 ?_
  refine lv_aload_n hx hb dX10_addUpForm_36 rfl (lv_at hl 2 rfl) ?_
  refine va_get (D := D) (ci := 7) (v := .ref h3) (C := RX10) (T := TX10) (N := 17) hx hb hU iX10 hown hK.1 hP 0 rfl rfl 5 (by decide) (hU _ w254) (fun _ h9 => h9) rfl dX10_addUpForm_37 ?_
  refine lv_iload_n hx hb dX10_addUpForm_40 rfl (lv_at hl 0 rfl) ?_
  refine cI (rV (q0 := 1) (ci := 3) (As := [.int 0]) (rest := [.ref h4]) (wc := [(h3, .inr (3, [.ref h4, .ref h15, .ref h16, .ref h17, .ref h18, .ref h19, .ref h20, .ref h21, .int 4, .int 100, .int 1, .int 1]))]) hx hb hml hown hU hK hP hD rfl rfl [1] rfl (by decide) (cX4_start_2 l D k _ h3 h4 h15 h16 h17 h18 h19 h20 h21) w505 w574 w503 w504 w66 hdX4_start ⟨rfl, rfl⟩ ⟨Nat.le_of_ble_eq_true rfl, Nat.le_of_ble_eq_true rfl⟩ rfl hl.1 (Nat.le_of_ble_eq_true rfl) dX10_addUpForm_41 ⟨Nat.le_of_ble_eq_true rfl, Nat.le_of_ble_eq_true rfl⟩) hP hD hS hA (wr := [(h0, .inr (7, [.ref h1, .ref h6, .int 0, .ref h7, .ref h8, .ref h3, .int 1, .ref h9, .int 0, .null, .ref h10, .int 0, .ref h11, .ref h12, .ref h13, .ref h2, .ref h5])), (h4, .inl (k 1, 900, .inr (.inl (tL [1, 0, 0, 1] 0)))), (h5, .inl (k 1, 9, .inr (.inl (tL [] 0)))), (h1, .inr (4, [.int 2, .int 0, .int 1, .ref h14])), (h2, .inl (k 1, 9, .inr (.inl (tL [] 0))))]) [1] [0, 2, 3, 4, 5] rfl rfl (by decide) (by decide) (fun r3 H locs hB J hS => ?_)
  obtain ⟨rfl, hP1, hD1⟩ := hB
  obtain ⟨hP, hD⟩ := J _ hP1 hD1
  have hP : va_P D cl0 [(h0, .inr (7, [.ref h1, .ref h6, .int 0, .ref h7, .ref h8, .ref h3, .int 1, .ref h9, .int 0, .null, .ref h10, .int 0, .ref h11, .ref h12, .ref h13, .ref h2, .ref h5])), (h4, .inl (k 1, 900, .inr (.inl (tL [1, 0, 0, 1] 0)))), (h5, .inl (k 1, 9, .inr (.inl (tL [] 0)))), (h1, .inr (4, [.int 2, .int 0, .int 1, .ref h14])), (h2, .inl (k 1, 9, .inr (.inl (tL [] 0)))), (h3, .inr (3, [.ref h4, .ref h15, .ref h16, .ref h17, .ref h18, .ref h19, .ref h20, .ref h21, .int 4, .int 100, .int 1, .int 1]))] H := hP
  have hD : va_D A [(h0, .inr (7, [.ref h1, .ref h6, .int 0, .ref h7, .ref h8, .ref h3, .int 1, .ref h9, .int 0, .null, .ref h10, .int 0, .ref h11, .ref h12, .ref h13, .ref h2, .ref h5])), (h4, .inl (k 1, 900, .inr (.inl (tL [1, 0, 0, 1] 0)))), (h5, .inl (k 1, 9, .inr (.inl (tL [] 0)))), (h1, .inr (4, [.int 2, .int 0, .int 1, .ref h14])), (h2, .inl (k 1, 9, .inr (.inl (tL [] 0)))), (h3, .inr (3, [.ref h4, .ref h15, .ref h16, .ref h17, .ref h18, .ref h19, .ref h20, .ref h21, .int 4, .int 100, .int 1, .int 1]))] := hD
  refine lv_aload_n hx hb dX10_addUpForm_44 rfl (lv_at hl 2 rfl) ?_
  refine va_get (D := D) (ci := 7) (v := .ref h3) (C := RX10) (T := TX10) (N := 17) hx hb hU iX10 hown hK.1 hP 0 rfl rfl 5 (by decide) (hU _ w254) (fun _ h9 => h9) rfl dX10_addUpForm_45 ?_
  refine va_get (D := D) (ci := 3) (v := .ref h4) (C := RX4) (T := TX4) (N := 12) hx hb hU iX4 hown hK.1 hP 5 rfl rfl 0 (by decide) (hU _ w150) (fun _ h9 => h9) rfl dX10_addUpForm_48 ?_
  refine lv_aload_n hx hb dX10_addUpForm_51 rfl (lv_at hl 2 rfl) ?_
  refine va_get (D := D) (ci := 7) (v := .ref h3) (C := RX10) (T := TX10) (N := 17) hx hb hU iX10 hown hK.1 hP 0 rfl rfl 5 (by decide) (hU _ w254) (fun _ h9 => h9) rfl dX10_addUpForm_52 ?_
  refine lv_iload_n hx hb dX10_addUpForm_55 rfl (lv_at hl 0 rfl) ?_
  refine cI (rV (q0 := 5) (ci := 3) (As := [.int 0]) (rest := [.ref h4, .int 0, .ref h4]) (wc := [(h3, .inr (3, [.ref h4, .ref h15, .ref h16, .ref h17, .ref h18, .ref h19, .ref h20, .ref h21, .int 4, .int 100, .int 1, .int 1]))]) hx hb hml hown hU hK hP hD rfl rfl [5] rfl (by decide) (cX4_start_2 l D k _ h3 h4 h15 h16 h17 h18 h19 h20 h21) w505 w574 w503 w504 w66 hdX4_start ⟨rfl, rfl⟩ ⟨Nat.le_of_ble_eq_true rfl, Nat.le_of_ble_eq_true rfl⟩ rfl hl.1 (Nat.le_of_ble_eq_true rfl) dX10_addUpForm_56 ⟨Nat.le_of_ble_eq_true rfl, Nat.le_of_ble_eq_true rfl⟩) hP hD hS hA (wr := [(h0, .inr (7, [.ref h1, .ref h6, .int 0, .ref h7, .ref h8, .ref h3, .int 1, .ref h9, .int 0, .null, .ref h10, .int 0, .ref h11, .ref h12, .ref h13, .ref h2, .ref h5])), (h4, .inl (k 1, 900, .inr (.inl (tL [1, 0, 0, 1] 0)))), (h5, .inl (k 1, 9, .inr (.inl (tL [] 0)))), (h1, .inr (4, [.int 2, .int 0, .int 1, .ref h14])), (h2, .inl (k 1, 9, .inr (.inl (tL [] 0))))]) [5] [0, 1, 2, 3, 4] rfl rfl (by decide) (by decide) (fun r4 H locs hB J hS => ?_)
  obtain ⟨rfl, hP1, hD1⟩ := hB
  obtain ⟨hP, hD⟩ := J _ hP1 hD1
  have hP : va_P D cl0 [(h0, .inr (7, [.ref h1, .ref h6, .int 0, .ref h7, .ref h8, .ref h3, .int 1, .ref h9, .int 0, .null, .ref h10, .int 0, .ref h11, .ref h12, .ref h13, .ref h2, .ref h5])), (h4, .inl (k 1, 900, .inr (.inl (tL [1, 0, 0, 1] 0)))), (h5, .inl (k 1, 9, .inr (.inl (tL [] 0)))), (h1, .inr (4, [.int 2, .int 0, .int 1, .ref h14])), (h2, .inl (k 1, 9, .inr (.inl (tL [] 0)))), (h3, .inr (3, [.ref h4, .ref h15, .ref h16, .ref h17, .ref h18, .ref h19, .ref h20, .ref h21, .int 4, .int 100, .int 1, .int 1]))] H := hP
  have hD : va_D A [(h0, .inr (7, [.ref h1, .ref h6, .int 0, .ref h7, .ref h8, .ref h3, .int 1, .ref h9, .int 0, .null, .ref h10, .int 0, .ref h11, .ref h12, .ref h13, .ref h2, .ref h5])), (h4, .inl (k 1, 900, .inr (.inl (tL [1, 0, 0, 1] 0)))), (h5, .inl (k 1, 9, .inr (.inl (tL [] 0)))), (h1, .inr (4, [.int 2, .int 0, .int 1, .ref h14])), (h2, .inl (k 1, 9, .inr (.inl (tL [] 0)))), (h3, .inr (3, [.ref h4, .ref h15, .ref h16, .ref h17, .ref h18, .ref h19, .ref h20, .ref h21, .int 4, .int 100, .int 1, .int 1]))] := hD
  refine lv_aload_n hx hb dX10_addUpForm_59 rfl (lv_at hl 2 rfl) ?_
  refine va_get (D := D) (ci := 7) (v := .ref h5) (C := RX10) (T := TX10) (N := 17) hx hb hU iX10 hown hK.1 hP 0 rfl rfl 16 (by decide) (hU _ w265) (fun _ h9 => h9) rfl dX10_addUpForm_60 ?_
  refine lv_aload_n hx hb dX10_addUpForm_63 rfl (lv_at hl 2 rfl) ?_
  refine va_get (D := D) (ci := 7) (v := .ref h1) (C := RX10) (T := TX10) (N := 17) hx hb hU iX10 hown hK.1 hP 0 rfl rfl 0 (by decide) (hU _ w249) (fun _ h9 => h9) rfl dX10_addUpForm_64 ?_
  refine va_get (D := D) (ci := 4) (v := .int 2) (C := RX5) (T := TX5) (N := 4) hx hb hU iX5 hown hK.1 hP 3 rfl rfl 0 (by decide) (hU _ w93) (fun _ h9 => h9) rfl dX10_addUpForm_67 ?_
  refine cV (rS (As := [.ref h4, .int 0, .ref h4, .int 0, .ref h5, .int 2]) (rest := []) (wc := [(h4, .inl (k 1, 900, .inr (.inl (tL [1, 0, 0, 1] 0)))), (h5, .inl (k 1, 9, .inr (.inl (tL [] 0))))]) hx hb hml hown hU hK hP hD [1, 2] rfl (by decide) (cX7_multiplyTurned_1 l D k _ h4 h5) w620 w618 w619 w74 hdX7_multiplyTurned ⟨rfl, rfl⟩ ⟨Nat.le_of_ble_eq_true rfl, Nat.le_of_ble_eq_true rfl⟩ rfl hl.1 (Nat.le_of_ble_eq_true rfl) dX10_addUpForm_70 ⟨Nat.le_of_ble_eq_true rfl, Nat.le_of_ble_eq_true rfl⟩) hP hD hS hA (wr := [(h0, .inr (7, [.ref h1, .ref h6, .int 0, .ref h7, .ref h8, .ref h3, .int 1, .ref h9, .int 0, .null, .ref h10, .int 0, .ref h11, .ref h12, .ref h13, .ref h2, .ref h5])), (h1, .inr (4, [.int 2, .int 0, .int 1, .ref h14])), (h2, .inl (k 1, 9, .inr (.inl (tL [] 0)))), (h3, .inr (3, [.ref h4, .ref h15, .ref h16, .ref h17, .ref h18, .ref h19, .ref h20, .ref h21, .int 4, .int 100, .int 1, .int 1]))]) [1, 2] [0, 3, 4, 5] rfl rfl (by decide) (by decide) (fun H locs hB J hS => ?_)
  obtain ⟨hP1, hD1⟩ := hB
  obtain ⟨hP, hD⟩ := J _ hP1 hD1
  have hP : va_P D cl0 [(h0, .inr (7, [.ref h1, .ref h6, .int 0, .ref h7, .ref h8, .ref h3, .int 1, .ref h9, .int 0, .null, .ref h10, .int 0, .ref h11, .ref h12, .ref h13, .ref h2, .ref h5])), (h1, .inr (4, [.int 2, .int 0, .int 1, .ref h14])), (h2, .inl (k 1, 9, .inr (.inl (tL [] 0)))), (h3, .inr (3, [.ref h4, .ref h15, .ref h16, .ref h17, .ref h18, .ref h19, .ref h20, .ref h21, .int 4, .int 100, .int 1, .int 1])), (h5, .inl (k 1, 9, .inr (.inl (tL [1, 0, 0, 1] 0)))), (h4, .inl (k 1, 900, .inr (.inl (tL [1, 0, 0, 1] 0))))] H := hP
  have hD : va_D A [(h0, .inr (7, [.ref h1, .ref h6, .int 0, .ref h7, .ref h8, .ref h3, .int 1, .ref h9, .int 0, .null, .ref h10, .int 0, .ref h11, .ref h12, .ref h13, .ref h2, .ref h5])), (h1, .inr (4, [.int 2, .int 0, .int 1, .ref h14])), (h2, .inl (k 1, 9, .inr (.inl (tL [] 0)))), (h3, .inr (3, [.ref h4, .ref h15, .ref h16, .ref h17, .ref h18, .ref h19, .ref h20, .ref h21, .int 4, .int 100, .int 1, .int 1])), (h5, .inl (k 1, 9, .inr (.inl (tL [1, 0, 0, 1] 0)))), (h4, .inl (k 1, 900, .inr (.inl (tL [1, 0, 0, 1] 0))))] := hD
  refine lv_iconst (v := 0) hx hb dX10_addUpForm_73 (by decide) ?_
  refine lv_istore_n (lv' := [(3, .int 0), (2, .int 0), (1, .int 4), (0, .ref h0)]) hx hb dX10_addUpForm_74 rfl hl (by decide) rfl (fun ls hl => ?_)
  refine lv_iload_n hx hb dX10_addUpForm_75 rfl (lv_at hl 0 rfl) ?_
  refine lv_iload_n hx hb dX10_addUpForm_76 rfl (lv_at hl 2 rfl) ?_
  refine lv_icmp_ge (tgt := 135) hx hb dX10_addUpForm_77 (by decide) (fun cc => absurd cc (by decide +kernel)) (fun _ => ?_)
  refine lv_aload_n hx hb dX10_addUpForm_80 rfl (lv_at hl 3 rfl) ?_
  refine va_get (D := D) (ci := 7) (v := .ref h2) (C := RX10) (T := TX10) (N := 17) hx hb hU iX10 hown hK.1 hP 0 rfl rfl 15 (by decide) (hU _ w264) (fun _ h9 => h9) rfl dX10_addUpForm_81 ?_
  refine lv_iload_n hx hb dX10_addUpForm_84 rfl (lv_at hl 0 rfl) ?_
  refine ld_l (j := 0) (v := 0) hx hb hK hP 2 rfl (by decide +kernel) rfl dX10_addUpForm_85 ?_
  refine lv_aload_n hx hb dX10_addUpForm_86 rfl (lv_at hl 3 rfl) ?_
  refine va_get (D := D) (ci := 7) (v := .ref h5) (C := RX10) (T := TX10) (N := 17) hx hb hU iX10 hown hK.1 hP 0 rfl rfl 16 (by decide) (hU _ w265) (fun _ h9 => h9) rfl dX10_addUpForm_87 ?_
  refine lv_iload_n hx hb dX10_addUpForm_90 rfl (lv_at hl 0 rfl) ?_
  refine ld_l (j := 0) (v := 1) hx hb hK hP 4 rfl (by decide +kernel) rfl dX10_addUpForm_91 ?_
  refine lv_ladd hx hb dX10_addUpForm_92 (sv_l (v := 1) (by decide +kernel) ?_)
  refine lv_lstore (lv' := [(4, .long 1), (3, .int 0), (2, .int 0), (1, .int 4), (0, .ref h0)]) hx hb dX10_addUpForm_93 hl (by decide) rfl (fun ls hl => ?_)
  refine lv_aload_n hx hb dX10_addUpForm_95 rfl (lv_at hl 4 rfl) ?_
  refine va_get (D := D) (ci := 7) (v := .ref h2) (C := RX10) (T := TX10) (N := 17) hx hb hU iX10 hown hK.1 hP 0 rfl rfl 15 (by decide) (hU _ w264) (fun _ h9 => h9) rfl dX10_addUpForm_96 ?_
  refine lv_iload_n hx hb dX10_addUpForm_99 rfl (lv_at hl 1 rfl) ?_
  refine ld_l (j := 0) (v := 0) hx hb hK hP 2 rfl (by decide +kernel) rfl dX10_addUpForm_100 ?_
  refine lv_lload hx hb dX10_addUpForm_101 (lv_at hl 0 rfl) ?_
  refine lv_lxor hx hb dX10_addUpForm_103 (sv_l (v := 1) (by decide +kernel) ?_)
  refine lv_aload_n hx hb dX10_addUpForm_104 rfl (lv_at hl 4 rfl) ?_
  refine va_get (D := D) (ci := 7) (v := .ref h5) (C := RX10) (T := TX10) (N := 17) hx hb hU iX10 hown hK.1 hP 0 rfl rfl 16 (by decide) (hU _ w265) (fun _ h9 => h9) rfl dX10_addUpForm_105 ?_
  refine lv_iload_n hx hb dX10_addUpForm_108 rfl (lv_at hl 1 rfl) ?_
  refine ld_l (j := 0) (v := 1) hx hb hK hP 4 rfl (by decide +kernel) rfl dX10_addUpForm_109 ?_
  refine lv_lload hx hb dX10_addUpForm_110 (lv_at hl 0 rfl) ?_
  refine lv_lxor hx hb dX10_addUpForm_112 (sv_l (v := 0) (by decide +kernel) ?_)
  refine lv_land hx hb dX10_addUpForm_113 (sv_l (v := 0) (by decide +kernel) ?_)
  refine lv_lconst (v := 0) hx hb dX10_addUpForm_114 (by decide) ?_
  refine W.lcmp hx hb dX10_addUpForm_115 (sv_i (v := 0) (by decide +kernel) ?_)
  refine lv_if_ge (tgt := 121) hx hb dX10_addUpForm_116 (by decide) (fun _ => ?_) (fun cc => absurd (by decide +kernel) cc)
  refine lv_aload_n hx hb dX10_addUpForm_121 rfl (lv_at hl 4 rfl) ?_
  refine va_get (D := D) (ci := 7) (v := .ref h2) (C := RX10) (T := TX10) (N := 17) hx hb hU iX10 hown hK.1 hP 0 rfl rfl 15 (by decide) (hU _ w264) (fun _ h9 => h9) rfl dX10_addUpForm_122 ?_
  refine lv_iload_n hx hb dX10_addUpForm_125 rfl (lv_at hl 1 rfl) ?_
  refine lv_lload hx hb dX10_addUpForm_126 (lv_at hl 0 rfl) ?_
  refine st_l (j := 0) (g := tL [1] 0) hx hb hK hP hD hS 2 rfl (by decide +kernel) upd_tL dX10_addUpForm_128 (fun H locs hP hD hS => ?_)
  have hP : va_P D cl0 [(h0, .inr (7, [.ref h1, .ref h6, .int 0, .ref h7, .ref h8, .ref h3, .int 1, .ref h9, .int 0, .null, .ref h10, .int 0, .ref h11, .ref h12, .ref h13, .ref h2, .ref h5])), (h1, .inr (4, [.int 2, .int 0, .int 1, .ref h14])), (h2, .inl (k 1, 9, .inr (.inl (tL [1] 0)))), (h3, .inr (3, [.ref h4, .ref h15, .ref h16, .ref h17, .ref h18, .ref h19, .ref h20, .ref h21, .int 4, .int 100, .int 1, .int 1])), (h5, .inl (k 1, 9, .inr (.inl (tL [1, 0, 0, 1] 0)))), (h4, .inl (k 1, 900, .inr (.inl (tL [1, 0, 0, 1] 0))))] H := hP
  have hD : va_D A [(h0, .inr (7, [.ref h1, .ref h6, .int 0, .ref h7, .ref h8, .ref h3, .int 1, .ref h9, .int 0, .null, .ref h10, .int 0, .ref h11, .ref h12, .ref h13, .ref h2, .ref h5])), (h1, .inr (4, [.int 2, .int 0, .int 1, .ref h14])), (h2, .inl (k 1, 9, .inr (.inl (tL [1] 0)))), (h3, .inr (3, [.ref h4, .ref h15, .ref h16, .ref h17, .ref h18, .ref h19, .ref h20, .ref h21, .int 4, .int 100, .int 1, .int 1])), (h5, .inl (k 1, 9, .inr (.inl (tL [1, 0, 0, 1] 0)))), (h4, .inl (k 1, 900, .inr (.inl (tL [1, 0, 0, 1] 0))))] := hD
  refine lv_iinc (v := 1) (lv' := [(3, .int 1), (4, .long 1), (2, .int 0), (1, .int 4), (0, .ref h0)]) hx hb dX10_addUpForm_129 hl (k := 1) rfl (by decide) (by decide) rfl (fun ls hl => ?_)
  refine lv_goto (tgt := 75) hx hb dX10_addUpForm_132 (by decide) ?_
  refine lv_iload_n hx hb dX10_addUpForm_75 rfl (lv_at hl 0 rfl) ?_
  refine lv_iload_n hx hb dX10_addUpForm_76 rfl (lv_at hl 3 rfl) ?_
  refine lv_icmp_ge (tgt := 135) hx hb dX10_addUpForm_77 (by decide) (fun cc => absurd cc (by decide +kernel)) (fun _ => ?_)
  refine lv_aload_n hx hb dX10_addUpForm_80 rfl (lv_at hl 4 rfl) ?_
  refine va_get (D := D) (ci := 7) (v := .ref h2) (C := RX10) (T := TX10) (N := 17) hx hb hU iX10 hown hK.1 hP 0 rfl rfl 15 (by decide) (hU _ w264) (fun _ h9 => h9) rfl dX10_addUpForm_81 ?_
  refine lv_iload_n hx hb dX10_addUpForm_84 rfl (lv_at hl 0 rfl) ?_
  refine ld_l (j := 1) (v := 0) hx hb hK hP 2 rfl (by decide +kernel) rfl dX10_addUpForm_85 ?_
  refine lv_aload_n hx hb dX10_addUpForm_86 rfl (lv_at hl 4 rfl) ?_
  refine va_get (D := D) (ci := 7) (v := .ref h5) (C := RX10) (T := TX10) (N := 17) hx hb hU iX10 hown hK.1 hP 0 rfl rfl 16 (by decide) (hU _ w265) (fun _ h9 => h9) rfl dX10_addUpForm_87 ?_
  refine lv_iload_n hx hb dX10_addUpForm_90 rfl (lv_at hl 0 rfl) ?_
  refine ld_l (j := 1) (v := 0) hx hb hK hP 4 rfl (by decide +kernel) rfl dX10_addUpForm_91 ?_
  refine lv_ladd hx hb dX10_addUpForm_92 (sv_l (v := 0) (by decide +kernel) ?_)
  refine lv_lstore (lv' := [(4, .long 0), (3, .int 1), (2, .int 0), (1, .int 4), (0, .ref h0)]) hx hb dX10_addUpForm_93 hl (by decide) rfl (fun ls hl => ?_)
  refine lv_aload_n hx hb dX10_addUpForm_95 rfl (lv_at hl 4 rfl) ?_
  refine va_get (D := D) (ci := 7) (v := .ref h2) (C := RX10) (T := TX10) (N := 17) hx hb hU iX10 hown hK.1 hP 0 rfl rfl 15 (by decide) (hU _ w264) (fun _ h9 => h9) rfl dX10_addUpForm_96 ?_
  refine lv_iload_n hx hb dX10_addUpForm_99 rfl (lv_at hl 1 rfl) ?_
  refine ld_l (j := 1) (v := 0) hx hb hK hP 2 rfl (by decide +kernel) rfl dX10_addUpForm_100 ?_
  refine lv_lload hx hb dX10_addUpForm_101 (lv_at hl 0 rfl) ?_
  refine lv_lxor hx hb dX10_addUpForm_103 (sv_l (v := 0) (by decide +kernel) ?_)
  refine lv_aload_n hx hb dX10_addUpForm_104 rfl (lv_at hl 4 rfl) ?_
  refine va_get (D := D) (ci := 7) (v := .ref h5) (C := RX10) (T := TX10) (N := 17) hx hb hU iX10 hown hK.1 hP 0 rfl rfl 16 (by decide) (hU _ w265) (fun _ h9 => h9) rfl dX10_addUpForm_105 ?_
  refine lv_iload_n hx hb dX10_addUpForm_108 rfl (lv_at hl 1 rfl) ?_
  refine ld_l (j := 1) (v := 0) hx hb hK hP 4 rfl (by decide +kernel) rfl dX10_addUpForm_109 ?_
  refine lv_lload hx hb dX10_addUpForm_110 (lv_at hl 0 rfl) ?_
  refine lv_lxor hx hb dX10_addUpForm_112 (sv_l (v := 0) (by decide +kernel) ?_)
  refine lv_land hx hb dX10_addUpForm_113 (sv_l (v := 0) (by decide +kernel) ?_)
  refine lv_lconst (v := 0) hx hb dX10_addUpForm_114 (by decide) ?_
  refine W.lcmp hx hb dX10_addUpForm_115 (sv_i (v := 0) (by decide +kernel) ?_)
  refine lv_if_ge (tgt := 121) hx hb dX10_addUpForm_116 (by decide) (fun _ => ?_) (fun cc => absurd (by decide +kernel) cc)
  refine lv_aload_n hx hb dX10_addUpForm_121 rfl (lv_at hl 4 rfl) ?_
  refine va_get (D := D) (ci := 7) (v := .ref h2) (C := RX10) (T := TX10) (N := 17) hx hb hU iX10 hown hK.1 hP 0 rfl rfl 15 (by decide) (hU _ w264) (fun _ h9 => h9) rfl dX10_addUpForm_122 ?_
  refine lv_iload_n hx hb dX10_addUpForm_125 rfl (lv_at hl 1 rfl) ?_
  refine lv_lload hx hb dX10_addUpForm_126 (lv_at hl 0 rfl) ?_
  refine st_l (j := 1) (g := tL [1, 0] 0) hx hb hK hP hD hS 2 rfl (by decide +kernel) upd_tL dX10_addUpForm_128 (fun H locs hP hD hS => ?_)
  have hP : va_P D cl0 [(h0, .inr (7, [.ref h1, .ref h6, .int 0, .ref h7, .ref h8, .ref h3, .int 1, .ref h9, .int 0, .null, .ref h10, .int 0, .ref h11, .ref h12, .ref h13, .ref h2, .ref h5])), (h1, .inr (4, [.int 2, .int 0, .int 1, .ref h14])), (h2, .inl (k 1, 9, .inr (.inl (tL [1, 0] 0)))), (h3, .inr (3, [.ref h4, .ref h15, .ref h16, .ref h17, .ref h18, .ref h19, .ref h20, .ref h21, .int 4, .int 100, .int 1, .int 1])), (h5, .inl (k 1, 9, .inr (.inl (tL [1, 0, 0, 1] 0)))), (h4, .inl (k 1, 900, .inr (.inl (tL [1, 0, 0, 1] 0))))] H := hP
  have hD : va_D A [(h0, .inr (7, [.ref h1, .ref h6, .int 0, .ref h7, .ref h8, .ref h3, .int 1, .ref h9, .int 0, .null, .ref h10, .int 0, .ref h11, .ref h12, .ref h13, .ref h2, .ref h5])), (h1, .inr (4, [.int 2, .int 0, .int 1, .ref h14])), (h2, .inl (k 1, 9, .inr (.inl (tL [1, 0] 0)))), (h3, .inr (3, [.ref h4, .ref h15, .ref h16, .ref h17, .ref h18, .ref h19, .ref h20, .ref h21, .int 4, .int 100, .int 1, .int 1])), (h5, .inl (k 1, 9, .inr (.inl (tL [1, 0, 0, 1] 0)))), (h4, .inl (k 1, 900, .inr (.inl (tL [1, 0, 0, 1] 0))))] := hD
  refine lv_iinc (v := 2) (lv' := [(3, .int 2), (4, .long 0), (2, .int 0), (1, .int 4), (0, .ref h0)]) hx hb dX10_addUpForm_129 hl (k := 1) rfl (by decide) (by decide) rfl (fun ls hl => ?_)
  refine lv_goto (tgt := 75) hx hb dX10_addUpForm_132 (by decide) ?_
  refine lv_iload_n hx hb dX10_addUpForm_75 rfl (lv_at hl 0 rfl) ?_
  refine lv_iload_n hx hb dX10_addUpForm_76 rfl (lv_at hl 3 rfl) ?_
  refine lv_icmp_ge (tgt := 135) hx hb dX10_addUpForm_77 (by decide) (fun cc => absurd cc (by decide +kernel)) (fun _ => ?_)
  refine lv_aload_n hx hb dX10_addUpForm_80 rfl (lv_at hl 4 rfl) ?_
  refine va_get (D := D) (ci := 7) (v := .ref h2) (C := RX10) (T := TX10) (N := 17) hx hb hU iX10 hown hK.1 hP 0 rfl rfl 15 (by decide) (hU _ w264) (fun _ h9 => h9) rfl dX10_addUpForm_81 ?_
  refine lv_iload_n hx hb dX10_addUpForm_84 rfl (lv_at hl 0 rfl) ?_
  refine ld_l (j := 2) (v := 0) hx hb hK hP 2 rfl (by decide +kernel) rfl dX10_addUpForm_85 ?_
  refine lv_aload_n hx hb dX10_addUpForm_86 rfl (lv_at hl 4 rfl) ?_
  refine va_get (D := D) (ci := 7) (v := .ref h5) (C := RX10) (T := TX10) (N := 17) hx hb hU iX10 hown hK.1 hP 0 rfl rfl 16 (by decide) (hU _ w265) (fun _ h9 => h9) rfl dX10_addUpForm_87 ?_
  refine lv_iload_n hx hb dX10_addUpForm_90 rfl (lv_at hl 0 rfl) ?_
  refine ld_l (j := 2) (v := 0) hx hb hK hP 4 rfl (by decide +kernel) rfl dX10_addUpForm_91 ?_
  refine lv_ladd hx hb dX10_addUpForm_92 (sv_l (v := 0) (by decide +kernel) ?_)
  refine lv_lstore (lv' := [(4, .long 0), (3, .int 2), (2, .int 0), (1, .int 4), (0, .ref h0)]) hx hb dX10_addUpForm_93 hl (by decide) rfl (fun ls hl => ?_)
  refine lv_aload_n hx hb dX10_addUpForm_95 rfl (lv_at hl 4 rfl) ?_
  refine va_get (D := D) (ci := 7) (v := .ref h2) (C := RX10) (T := TX10) (N := 17) hx hb hU iX10 hown hK.1 hP 0 rfl rfl 15 (by decide) (hU _ w264) (fun _ h9 => h9) rfl dX10_addUpForm_96 ?_
  refine lv_iload_n hx hb dX10_addUpForm_99 rfl (lv_at hl 1 rfl) ?_
  refine ld_l (j := 2) (v := 0) hx hb hK hP 2 rfl (by decide +kernel) rfl dX10_addUpForm_100 ?_
  refine lv_lload hx hb dX10_addUpForm_101 (lv_at hl 0 rfl) ?_
  refine lv_lxor hx hb dX10_addUpForm_103 (sv_l (v := 0) (by decide +kernel) ?_)
  refine lv_aload_n hx hb dX10_addUpForm_104 rfl (lv_at hl 4 rfl) ?_
  refine va_get (D := D) (ci := 7) (v := .ref h5) (C := RX10) (T := TX10) (N := 17) hx hb hU iX10 hown hK.1 hP 0 rfl rfl 16 (by decide) (hU _ w265) (fun _ h9 => h9) rfl dX10_addUpForm_105 ?_
  refine lv_iload_n hx hb dX10_addUpForm_108 rfl (lv_at hl 1 rfl) ?_
  refine ld_l (j := 2) (v := 0) hx hb hK hP 4 rfl (by decide +kernel) rfl dX10_addUpForm_109 ?_
  refine lv_lload hx hb dX10_addUpForm_110 (lv_at hl 0 rfl) ?_
  refine lv_lxor hx hb dX10_addUpForm_112 (sv_l (v := 0) (by decide +kernel) ?_)
  refine lv_land hx hb dX10_addUpForm_113 (sv_l (v := 0) (by decide +kernel) ?_)
  refine lv_lconst (v := 0) hx hb dX10_addUpForm_114 (by decide) ?_
  refine W.lcmp hx hb dX10_addUpForm_115 (sv_i (v := 0) (by decide +kernel) ?_)
  refine lv_if_ge (tgt := 121) hx hb dX10_addUpForm_116 (by decide) (fun _ => ?_) (fun cc => absurd (by decide +kernel) cc)
  refine lv_aload_n hx hb dX10_addUpForm_121 rfl (lv_at hl 4 rfl) ?_
  refine va_get (D := D) (ci := 7) (v := .ref h2) (C := RX10) (T := TX10) (N := 17) hx hb hU iX10 hown hK.1 hP 0 rfl rfl 15 (by decide) (hU _ w264) (fun _ h9 => h9) rfl dX10_addUpForm_122 ?_
  refine lv_iload_n hx hb dX10_addUpForm_125 rfl (lv_at hl 1 rfl) ?_
  refine lv_lload hx hb dX10_addUpForm_126 (lv_at hl 0 rfl) ?_
  refine st_l (j := 2) (g := tL [1, 0, 0] 0) hx hb hK hP hD hS 2 rfl (by decide +kernel) upd_tL dX10_addUpForm_128 (fun H locs hP hD hS => ?_)
  have hP : va_P D cl0 [(h0, .inr (7, [.ref h1, .ref h6, .int 0, .ref h7, .ref h8, .ref h3, .int 1, .ref h9, .int 0, .null, .ref h10, .int 0, .ref h11, .ref h12, .ref h13, .ref h2, .ref h5])), (h1, .inr (4, [.int 2, .int 0, .int 1, .ref h14])), (h2, .inl (k 1, 9, .inr (.inl (tL [1, 0, 0] 0)))), (h3, .inr (3, [.ref h4, .ref h15, .ref h16, .ref h17, .ref h18, .ref h19, .ref h20, .ref h21, .int 4, .int 100, .int 1, .int 1])), (h5, .inl (k 1, 9, .inr (.inl (tL [1, 0, 0, 1] 0)))), (h4, .inl (k 1, 900, .inr (.inl (tL [1, 0, 0, 1] 0))))] H := hP
  have hD : va_D A [(h0, .inr (7, [.ref h1, .ref h6, .int 0, .ref h7, .ref h8, .ref h3, .int 1, .ref h9, .int 0, .null, .ref h10, .int 0, .ref h11, .ref h12, .ref h13, .ref h2, .ref h5])), (h1, .inr (4, [.int 2, .int 0, .int 1, .ref h14])), (h2, .inl (k 1, 9, .inr (.inl (tL [1, 0, 0] 0)))), (h3, .inr (3, [.ref h4, .ref h15, .ref h16, .ref h17, .ref h18, .ref h19, .ref h20, .ref h21, .int 4, .int 100, .int 1, .int 1])), (h5, .inl (k 1, 9, .inr (.inl (tL [1, 0, 0, 1] 0)))), (h4, .inl (k 1, 900, .inr (.inl (tL [1, 0, 0, 1] 0))))] := hD
  refine lv_iinc (v := 3) (lv' := [(3, .int 3), (4, .long 0), (2, .int 0), (1, .int 4), (0, .ref h0)]) hx hb dX10_addUpForm_129 hl (k := 1) rfl (by decide) (by decide) rfl (fun ls hl => ?_)
  refine lv_goto (tgt := 75) hx hb dX10_addUpForm_132 (by decide) ?_
  refine lv_iload_n hx hb dX10_addUpForm_75 rfl (lv_at hl 0 rfl) ?_
  refine lv_iload_n hx hb dX10_addUpForm_76 rfl (lv_at hl 3 rfl) ?_
  refine lv_icmp_ge (tgt := 135) hx hb dX10_addUpForm_77 (by decide) (fun cc => absurd cc (by decide +kernel)) (fun _ => ?_)
  refine lv_aload_n hx hb dX10_addUpForm_80 rfl (lv_at hl 4 rfl) ?_
  refine va_get (D := D) (ci := 7) (v := .ref h2) (C := RX10) (T := TX10) (N := 17) hx hb hU iX10 hown hK.1 hP 0 rfl rfl 15 (by decide) (hU _ w264) (fun _ h9 => h9) rfl dX10_addUpForm_81 ?_
  refine lv_iload_n hx hb dX10_addUpForm_84 rfl (lv_at hl 0 rfl) ?_
  refine ld_l (j := 3) (v := 0) hx hb hK hP 2 rfl (by decide +kernel) rfl dX10_addUpForm_85 ?_
  refine lv_aload_n hx hb dX10_addUpForm_86 rfl (lv_at hl 4 rfl) ?_
  refine va_get (D := D) (ci := 7) (v := .ref h5) (C := RX10) (T := TX10) (N := 17) hx hb hU iX10 hown hK.1 hP 0 rfl rfl 16 (by decide) (hU _ w265) (fun _ h9 => h9) rfl dX10_addUpForm_87 ?_
  refine lv_iload_n hx hb dX10_addUpForm_90 rfl (lv_at hl 0 rfl) ?_
  refine ld_l (j := 3) (v := 1) hx hb hK hP 4 rfl (by decide +kernel) rfl dX10_addUpForm_91 ?_
  refine lv_ladd hx hb dX10_addUpForm_92 (sv_l (v := 1) (by decide +kernel) ?_)
  refine lv_lstore (lv' := [(4, .long 1), (3, .int 3), (2, .int 0), (1, .int 4), (0, .ref h0)]) hx hb dX10_addUpForm_93 hl (by decide) rfl (fun ls hl => ?_)
  refine lv_aload_n hx hb dX10_addUpForm_95 rfl (lv_at hl 4 rfl) ?_
  refine va_get (D := D) (ci := 7) (v := .ref h2) (C := RX10) (T := TX10) (N := 17) hx hb hU iX10 hown hK.1 hP 0 rfl rfl 15 (by decide) (hU _ w264) (fun _ h9 => h9) rfl dX10_addUpForm_96 ?_
  refine lv_iload_n hx hb dX10_addUpForm_99 rfl (lv_at hl 1 rfl) ?_
  refine ld_l (j := 3) (v := 0) hx hb hK hP 2 rfl (by decide +kernel) rfl dX10_addUpForm_100 ?_
  refine lv_lload hx hb dX10_addUpForm_101 (lv_at hl 0 rfl) ?_
  refine lv_lxor hx hb dX10_addUpForm_103 (sv_l (v := 1) (by decide +kernel) ?_)
  refine lv_aload_n hx hb dX10_addUpForm_104 rfl (lv_at hl 4 rfl) ?_
  refine va_get (D := D) (ci := 7) (v := .ref h5) (C := RX10) (T := TX10) (N := 17) hx hb hU iX10 hown hK.1 hP 0 rfl rfl 16 (by decide) (hU _ w265) (fun _ h9 => h9) rfl dX10_addUpForm_105 ?_
  refine lv_iload_n hx hb dX10_addUpForm_108 rfl (lv_at hl 1 rfl) ?_
  refine ld_l (j := 3) (v := 1) hx hb hK hP 4 rfl (by decide +kernel) rfl dX10_addUpForm_109 ?_
  refine lv_lload hx hb dX10_addUpForm_110 (lv_at hl 0 rfl) ?_
  refine lv_lxor hx hb dX10_addUpForm_112 (sv_l (v := 0) (by decide +kernel) ?_)
  refine lv_land hx hb dX10_addUpForm_113 (sv_l (v := 0) (by decide +kernel) ?_)
  refine lv_lconst (v := 0) hx hb dX10_addUpForm_114 (by decide) ?_
  refine W.lcmp hx hb dX10_addUpForm_115 (sv_i (v := 0) (by decide +kernel) ?_)
  refine lv_if_ge (tgt := 121) hx hb dX10_addUpForm_116 (by decide) (fun _ => ?_) (fun cc => absurd (by decide +kernel) cc)
  refine lv_aload_n hx hb dX10_addUpForm_121 rfl (lv_at hl 4 rfl) ?_
  refine va_get (D := D) (ci := 7) (v := .ref h2) (C := RX10) (T := TX10) (N := 17) hx hb hU iX10 hown hK.1 hP 0 rfl rfl 15 (by decide) (hU _ w264) (fun _ h9 => h9) rfl dX10_addUpForm_122 ?_
  refine lv_iload_n hx hb dX10_addUpForm_125 rfl (lv_at hl 1 rfl) ?_
  refine lv_lload hx hb dX10_addUpForm_126 (lv_at hl 0 rfl) ?_
  refine st_l (j := 3) (g := tL [1, 0, 0, 1] 0) hx hb hK hP hD hS 2 rfl (by decide +kernel) upd_tL dX10_addUpForm_128 (fun H locs hP hD hS => ?_)
  have hP : va_P D cl0 [(h0, .inr (7, [.ref h1, .ref h6, .int 0, .ref h7, .ref h8, .ref h3, .int 1, .ref h9, .int 0, .null, .ref h10, .int 0, .ref h11, .ref h12, .ref h13, .ref h2, .ref h5])), (h1, .inr (4, [.int 2, .int 0, .int 1, .ref h14])), (h2, .inl (k 1, 9, .inr (.inl (tL [1, 0, 0, 1] 0)))), (h3, .inr (3, [.ref h4, .ref h15, .ref h16, .ref h17, .ref h18, .ref h19, .ref h20, .ref h21, .int 4, .int 100, .int 1, .int 1])), (h5, .inl (k 1, 9, .inr (.inl (tL [1, 0, 0, 1] 0)))), (h4, .inl (k 1, 900, .inr (.inl (tL [1, 0, 0, 1] 0))))] H := hP
  have hD : va_D A [(h0, .inr (7, [.ref h1, .ref h6, .int 0, .ref h7, .ref h8, .ref h3, .int 1, .ref h9, .int 0, .null, .ref h10, .int 0, .ref h11, .ref h12, .ref h13, .ref h2, .ref h5])), (h1, .inr (4, [.int 2, .int 0, .int 1, .ref h14])), (h2, .inl (k 1, 9, .inr (.inl (tL [1, 0, 0, 1] 0)))), (h3, .inr (3, [.ref h4, .ref h15, .ref h16, .ref h17, .ref h18, .ref h19, .ref h20, .ref h21, .int 4, .int 100, .int 1, .int 1])), (h5, .inl (k 1, 9, .inr (.inl (tL [1, 0, 0, 1] 0)))), (h4, .inl (k 1, 900, .inr (.inl (tL [1, 0, 0, 1] 0))))] := hD
  refine lv_iinc (v := 4) (lv' := [(3, .int 4), (4, .long 1), (2, .int 0), (1, .int 4), (0, .ref h0)]) hx hb dX10_addUpForm_129 hl (k := 1) rfl (by decide) (by decide) rfl (fun ls hl => ?_)
  refine lv_goto (tgt := 75) hx hb dX10_addUpForm_132 (by decide) ?_
  refine lv_iload_n hx hb dX10_addUpForm_75 rfl (lv_at hl 0 rfl) ?_
  refine lv_iload_n hx hb dX10_addUpForm_76 rfl (lv_at hl 3 rfl) ?_
  refine lv_icmp_ge (tgt := 135) hx hb dX10_addUpForm_77 (by decide) (fun _ => ?_) (fun cc => absurd (by decide +kernel) cc)
  refine lv_iinc (v := 1) (lv' := [(2, .int 1), (3, .int 4), (4, .long 1), (1, .int 4), (0, .ref h0)]) hx hb dX10_addUpForm_135 hl (k := 2) rfl (by decide) (by decide) rfl (fun ls hl => ?_)
  refine lv_goto (tgt := 18) hx hb dX10_addUpForm_138 (by decide) ?_
  refine lv_iload_n hx hb dX10_addUpForm_18 rfl (lv_at hl 0 rfl) ?_
  refine lv_aload_n hx hb dX10_addUpForm_19 rfl (lv_at hl 4 rfl) ?_
  refine va_get (D := D) (ci := 7) (v := .ref h3) (C := RX10) (T := TX10) (N := 17) hx hb hU iX10 hown hK.1 hP 0 rfl rfl 5 (by decide) (hU _ w254) (fun _ h9 => h9) rfl dX10_addUpForm_20 ?_
  refine va_get (D := D) (ci := 3) (v := .int 1) (C := RX4) (T := TX4) (N := 12) hx hb hU iX4 hown hK.1 hP 3 rfl rfl 10 (by decide) (hU _ w166) (fun _ h9 => h9) rfl dX10_addUpForm_23 ?_
  refine lv_icmp_ge (tgt := 141) hx hb dX10_addUpForm_26 (by decide) (fun _ => ?_) (fun cc => absurd (by decide +kernel) cc)
  refine lv_iconst (v := 1) hx hb dX10_addUpForm_141 (by decide) ?_
  exact retZ (v := 1) hx hb hr hlocks hS (⟨rfl, hP, hD⟩) dX10_addUpForm_142 (by decide +kernel)
abbrev BJ9_abs_067f4_1 (D : va_G) (k : Nat → ClassId) (A : Nat → Prop) (r : Int64) (H : Heap) : Prop := 1 = r ∧ va_P D cl0 [] H ∧ va_D A []
set_option maxHeartbeats 4000000 in
set_option maxRecDepth 100000 in
theorem cJ9_abs_067f4_1 (l : Launch) (D : va_G) (k : Nat → ClassId) (sz : Nat) : Met l yJ9_abs_067f4 (Cond.code yJ9_abs_067f4 cJ9_abs_067f4 2 (some .long) :: uw) ({ frames := 0, cells := 0, slots := 0, locals := 0 }) (pC D k sz [.long 1] []) (qL (BJ9_abs_067f4_1 D k  (va_A [] sz)) (va_A [] sz)) 0 0 (va_A [] sz) := by
  refine beginF_ (Qc := fun A => qL (BJ9_abs_067f4_1 D k  A) A) (by decide +kernel) (Nat.le_of_ble_eq_true rfl) ?_
  intro p e s m below meth c ls A hx hb hr hml hown hlocks hin hU hK hsz hP hD hS hA hl
  have hl : lv_has ls 2 [(0, .long 1)] := hl
  clear hsz
  refine lv_lload_n hx hb dJ9_abs_067f4_0 rfl (lv_at hl 0 rfl) ?_
  refine lv_lconst (v := 0) hx hb dJ9_abs_067f4_1 (by decide) ?_
  refine W.lcmp hx hb dJ9_abs_067f4_2 (sv_i (v := 1) (by decide +kernel) ?_)
  refine lv_if_ge (tgt := 11) hx hb dJ9_abs_067f4_3 (by decide) (fun _ => ?_) (fun cc => absurd (by decide +kernel) cc)
  refine lv_lload_n hx hb dJ9_abs_067f4_11 rfl (lv_at hl 0 rfl) ?_
  exact retL (v := 1) hx hb hr hlocks hS (⟨rfl, hP, hD⟩) dJ9_abs_067f4_12
abbrev BX7_commonDivisor_1 (D : va_G) (k : Nat → ClassId) (h0 : Nat) (A : Nat → Prop) (r : Int64) (H : Heap) : Prop := 1 = r ∧ va_P D cl0 [(h0, .inl (k 1, 9, .inr (.inl (tL [1, 0, 0, 1] 0))))] H ∧ va_D A [(h0, .inl (k 1, 9, .inr (.inl (tL [1, 0, 0, 1] 0))))]
set_option maxHeartbeats 4000000 in
set_option maxRecDepth 100000 in
theorem cX7_commonDivisor_1 (l : Launch) (D : va_G) (k : Nat → ClassId) (sz : Nat) (h0 : Nat) : Met l yX7_commonDivisor (Cond.code yX7_commonDivisor cX7_commonDivisor 10 (some .long) :: uw) ({ frames := 1, cells := 0, slots := 0, locals := 21 }) (pC D k sz [.ref h0, .int 4] [(h0, .inl (k 1, 9, .inr (.inl (tL [1, 0, 0, 1] 0))))]) (qL (BX7_commonDivisor_1 D k h0 (va_A [(h0, .inl (k 1, 9, .inr (.inl (tL [1, 0, 0, 1] 0))))] sz)) (va_A [(h0, .inl (k 1, 9, .inr (.inl (tL [1, 0, 0, 1] 0))))] sz)) 0 0 (va_A [(h0, .inl (k 1, 9, .inr (.inl (tL [1, 0, 0, 1] 0))))] sz) := by
  refine begin_ (Qc := fun A => qL (BX7_commonDivisor_1 D k h0 A) A) (by decide) (Nat.le_of_ble_eq_true rfl) ?_
  intro p e s m below meth c ls A hx hb hr hml hown hlocks hin hU hK hsz hP hD hS hA hl
  have hl : lv_has ls 10 [(0, .ref h0), (1, .int 4)] := hl
  clear hsz
  refine lv_lconst (v := 0) hx hb dX7_commonDivisor_0 (by decide) ?_
  refine lv_lstore_n (lv' := [(2, .long 0), (0, .ref h0), (1, .int 4)]) hx hb dX7_commonDivisor_1 rfl hl (by decide) rfl (fun ls hl => ?_)
  refine lv_iconst (v := 0) hx hb dX7_commonDivisor_2 (by decide) ?_
  refine lv_istore (lv' := [(4, .int 0), (2, .long 0), (0, .ref h0), (1, .int 4)]) hx hb dX7_commonDivisor_3 hl (by decide) rfl (fun ls hl => ?_)
  refine lv_iload hx hb dX7_commonDivisor_5 (lv_at hl 0 rfl) ?_
  refine lv_iload_n hx hb dX7_commonDivisor_7 rfl (lv_at hl 3 rfl) ?_
  refine lv_icmp_ge (tgt := 60) hx hb dX7_commonDivisor_8 (by decide) (fun cc => absurd cc (by decide +kernel)) (fun _ => ?_)
  refine lv_aload_n hx hb dX7_commonDivisor_11 rfl (lv_at hl 2 rfl) ?_
  refine lv_iload hx hb dX7_commonDivisor_12 (lv_at hl 0 rfl) ?_
  refine ld_l (j := 0) (v := 1) hx hb hK hP 0 rfl (by decide +kernel) rfl dX7_commonDivisor_14 ?_
  refine lv_lstore (lv' := [(5, .long 1), (4, .int 0), (2, .long 0), (0, .ref h0), (1, .int 4)]) hx hb dX7_commonDivisor_15 hl (by decide) rfl (fun ls hl => ?_)
  refine lv_iconst (v := 0) hx hb dX7_commonDivisor_17 (by decide) ?_
  refine lv_istore (lv' := [(7, .int 0), (5, .long 1), (4, .int 0), (2, .long 0), (0, .ref h0), (1, .int 4)]) hx hb dX7_commonDivisor_18 hl (by decide) rfl (fun ls hl => ?_)
  refine lv_iload hx hb dX7_commonDivisor_20 (lv_at hl 0 rfl) ?_
  refine lv_sipush (v := 200) hx hb dX7_commonDivisor_22 (by decide) ?_
  refine lv_icmp_ge (tgt := 54) hx hb dX7_commonDivisor_25 (by decide) (fun cc => absurd cc (by decide +kernel)) (fun _ => ?_)
  refine lv_lload hx hb dX7_commonDivisor_28 (lv_at hl 1 rfl) ?_
  refine lv_lconst (v := 0) hx hb dX7_commonDivisor_30 (by decide) ?_
  refine W.lcmp hx hb dX7_commonDivisor_31 (sv_i (v := 1) (by decide +kernel) ?_)
  refine lv_if_eq (tgt := 54) hx hb dX7_commonDivisor_32 (by decide) (fun cc => absurd cc (by decide +kernel)) (fun _ => ?_)
  refine lv_lload_n hx hb dX7_commonDivisor_35 rfl (lv_at hl 3 rfl) ?_
  refine lv_lload hx hb dX7_commonDivisor_36 (lv_at hl 1 rfl) ?_
  refine lv_lrem hx hb dX7_commonDivisor_38 (by decide +kernel) (sv_l (v := 0) (by decide +kernel) ?_)
  refine lv_lstore (lv' := [(8, .long 0), (7, .int 0), (5, .long 1), (4, .int 0), (2, .long 0), (0, .ref h0), (1, .int 4)]) hx hb dX7_commonDivisor_39 hl (by decide) rfl (fun ls hl => ?_)
  refine lv_lload hx hb dX7_commonDivisor_41 (lv_at hl 2 rfl) ?_
  refine lv_lstore_n (lv' := [(2, .long 1), (8, .long 0), (7, .int 0), (5, .long 1), (4, .int 0), (0, .ref h0), (1, .int 4)]) hx hb dX7_commonDivisor_43 rfl hl (by decide) rfl (fun ls hl => ?_)
  refine lv_lload hx hb dX7_commonDivisor_44 (lv_at hl 1 rfl) ?_
  refine lv_lstore (lv' := [(5, .long 0), (2, .long 1), (8, .long 0), (7, .int 0), (4, .int 0), (0, .ref h0), (1, .int 4)]) hx hb dX7_commonDivisor_46 hl (by decide) rfl (fun ls hl => ?_)
  refine lv_iinc (v := 1) (lv' := [(7, .int 1), (5, .long 0), (2, .long 1), (8, .long 0), (4, .int 0), (0, .ref h0), (1, .int 4)]) hx hb dX7_commonDivisor_48 hl (k := 3) rfl (by decide) (by decide) rfl (fun ls hl => ?_)
  refine lv_goto (tgt := 20) hx hb dX7_commonDivisor_51 (by decide) ?_
  refine lv_iload hx hb dX7_commonDivisor_20 (lv_at hl 0 rfl) ?_
  refine lv_sipush (v := 200) hx hb dX7_commonDivisor_22 (by decide) ?_
  refine lv_icmp_ge (tgt := 54) hx hb dX7_commonDivisor_25 (by decide) (fun cc => absurd cc (by decide +kernel)) (fun _ => ?_)
  refine lv_lload hx hb dX7_commonDivisor_28 (lv_at hl 1 rfl) ?_
  refine lv_lconst (v := 0) hx hb dX7_commonDivisor_30 (by decide) ?_
  refine W.lcmp hx hb dX7_commonDivisor_31 (sv_i (v := 0) (by decide +kernel) ?_)
  refine lv_if_eq (tgt := 54) hx hb dX7_commonDivisor_32 (by decide) (fun _ => ?_) (fun cc => absurd (by decide +kernel) cc)
  refine lv_iinc (v := 1) (lv' := [(4, .int 1), (7, .int 1), (5, .long 0), (2, .long 1), (8, .long 0), (0, .ref h0), (1, .int 4)]) hx hb dX7_commonDivisor_54 hl (k := 4) rfl (by decide) (by decide) rfl (fun ls hl => ?_)
  refine lv_goto (tgt := 5) hx hb dX7_commonDivisor_57 (by decide) ?_
  refine lv_iload hx hb dX7_commonDivisor_5 (lv_at hl 0 rfl) ?_
  refine lv_iload_n hx hb dX7_commonDivisor_7 rfl (lv_at hl 6 rfl) ?_
  refine lv_icmp_ge (tgt := 60) hx hb dX7_commonDivisor_8 (by decide) (fun cc => absurd cc (by decide +kernel)) (fun _ => ?_)
  refine lv_aload_n hx hb dX7_commonDivisor_11 rfl (lv_at hl 5 rfl) ?_
  refine lv_iload hx hb dX7_commonDivisor_12 (lv_at hl 0 rfl) ?_
  refine ld_l (j := 1) (v := 0) hx hb hK hP 0 rfl (by decide +kernel) rfl dX7_commonDivisor_14 ?_
  refine lv_lstore (lv' := [(5, .long 0), (4, .int 1), (7, .int 1), (2, .long 1), (8, .long 0), (0, .ref h0), (1, .int 4)]) hx hb dX7_commonDivisor_15 hl (by decide) rfl (fun ls hl => ?_)
  refine lv_iconst (v := 0) hx hb dX7_commonDivisor_17 (by decide) ?_
  refine lv_istore (lv' := [(7, .int 0), (5, .long 0), (4, .int 1), (2, .long 1), (8, .long 0), (0, .ref h0), (1, .int 4)]) hx hb dX7_commonDivisor_18 hl (by decide) rfl (fun ls hl => ?_)
  refine lv_iload hx hb dX7_commonDivisor_20 (lv_at hl 0 rfl) ?_
  refine lv_sipush (v := 200) hx hb dX7_commonDivisor_22 (by decide) ?_
  refine lv_icmp_ge (tgt := 54) hx hb dX7_commonDivisor_25 (by decide) (fun cc => absurd cc (by decide +kernel)) (fun _ => ?_)
  refine lv_lload hx hb dX7_commonDivisor_28 (lv_at hl 1 rfl) ?_
  refine lv_lconst (v := 0) hx hb dX7_commonDivisor_30 (by decide) ?_
  refine W.lcmp hx hb dX7_commonDivisor_31 (sv_i (v := 0) (by decide +kernel) ?_)
  refine lv_if_eq (tgt := 54) hx hb dX7_commonDivisor_32 (by decide) (fun _ => ?_) (fun cc => absurd (by decide +kernel) cc)
  refine lv_iinc (v := 2) (lv' := [(4, .int 2), (7, .int 0), (5, .long 0), (2, .long 1), (8, .long 0), (0, .ref h0), (1, .int 4)]) hx hb dX7_commonDivisor_54 hl (k := 2) rfl (by decide) (by decide) rfl (fun ls hl => ?_)
  refine lv_goto (tgt := 5) hx hb dX7_commonDivisor_57 (by decide) ?_
  refine lv_iload hx hb dX7_commonDivisor_5 (lv_at hl 0 rfl) ?_
  refine lv_iload_n hx hb dX7_commonDivisor_7 rfl (lv_at hl 6 rfl) ?_
  refine lv_icmp_ge (tgt := 60) hx hb dX7_commonDivisor_8 (by decide) (fun cc => absurd cc (by decide +kernel)) (fun _ => ?_)
  refine lv_aload_n hx hb dX7_commonDivisor_11 rfl (lv_at hl 5 rfl) ?_
  refine lv_iload hx hb dX7_commonDivisor_12 (lv_at hl 0 rfl) ?_
  refine ld_l (j := 2) (v := 0) hx hb hK hP 0 rfl (by decide +kernel) rfl dX7_commonDivisor_14 ?_
  refine lv_lstore (lv' := [(5, .long 0), (4, .int 2), (7, .int 0), (2, .long 1), (8, .long 0), (0, .ref h0), (1, .int 4)]) hx hb dX7_commonDivisor_15 hl (by decide) rfl (fun ls hl => ?_)
  refine lv_iconst (v := 0) hx hb dX7_commonDivisor_17 (by decide) ?_
  refine lv_istore (lv' := [(7, .int 0), (5, .long 0), (4, .int 2), (2, .long 1), (8, .long 0), (0, .ref h0), (1, .int 4)]) hx hb dX7_commonDivisor_18 hl (by decide) rfl (fun ls hl => ?_)
  refine lv_iload hx hb dX7_commonDivisor_20 (lv_at hl 0 rfl) ?_
  refine lv_sipush (v := 200) hx hb dX7_commonDivisor_22 (by decide) ?_
  refine lv_icmp_ge (tgt := 54) hx hb dX7_commonDivisor_25 (by decide) (fun cc => absurd cc (by decide +kernel)) (fun _ => ?_)
  refine lv_lload hx hb dX7_commonDivisor_28 (lv_at hl 1 rfl) ?_
  refine lv_lconst (v := 0) hx hb dX7_commonDivisor_30 (by decide) ?_
  refine W.lcmp hx hb dX7_commonDivisor_31 (sv_i (v := 0) (by decide +kernel) ?_)
  refine lv_if_eq (tgt := 54) hx hb dX7_commonDivisor_32 (by decide) (fun _ => ?_) (fun cc => absurd (by decide +kernel) cc)
  refine lv_iinc (v := 3) (lv' := [(4, .int 3), (7, .int 0), (5, .long 0), (2, .long 1), (8, .long 0), (0, .ref h0), (1, .int 4)]) hx hb dX7_commonDivisor_54 hl (k := 2) rfl (by decide) (by decide) rfl (fun ls hl => ?_)
  refine lv_goto (tgt := 5) hx hb dX7_commonDivisor_57 (by decide) ?_
  refine lv_iload hx hb dX7_commonDivisor_5 (lv_at hl 0 rfl) ?_
  refine lv_iload_n hx hb dX7_commonDivisor_7 rfl (lv_at hl 6 rfl) ?_
  refine lv_icmp_ge (tgt := 60) hx hb dX7_commonDivisor_8 (by decide) (fun cc => absurd cc (by decide +kernel)) (fun _ => ?_)
  refine lv_aload_n hx hb dX7_commonDivisor_11 rfl (lv_at hl 5 rfl) ?_
  refine lv_iload hx hb dX7_commonDivisor_12 (lv_at hl 0 rfl) ?_
  refine ld_l (j := 3) (v := 1) hx hb hK hP 0 rfl (by decide +kernel) rfl dX7_commonDivisor_14 ?_
  refine lv_lstore (lv' := [(5, .long 1), (4, .int 3), (7, .int 0), (2, .long 1), (8, .long 0), (0, .ref h0), (1, .int 4)]) hx hb dX7_commonDivisor_15 hl (by decide) rfl (fun ls hl => ?_)
  refine lv_iconst (v := 0) hx hb dX7_commonDivisor_17 (by decide) ?_
  refine lv_istore (lv' := [(7, .int 0), (5, .long 1), (4, .int 3), (2, .long 1), (8, .long 0), (0, .ref h0), (1, .int 4)]) hx hb dX7_commonDivisor_18 hl (by decide) rfl (fun ls hl => ?_)
  refine lv_iload hx hb dX7_commonDivisor_20 (lv_at hl 0 rfl) ?_
  refine lv_sipush (v := 200) hx hb dX7_commonDivisor_22 (by decide) ?_
  refine lv_icmp_ge (tgt := 54) hx hb dX7_commonDivisor_25 (by decide) (fun cc => absurd cc (by decide +kernel)) (fun _ => ?_)
  refine lv_lload hx hb dX7_commonDivisor_28 (lv_at hl 1 rfl) ?_
  refine lv_lconst (v := 0) hx hb dX7_commonDivisor_30 (by decide) ?_
  refine W.lcmp hx hb dX7_commonDivisor_31 (sv_i (v := 1) (by decide +kernel) ?_)
  refine lv_if_eq (tgt := 54) hx hb dX7_commonDivisor_32 (by decide) (fun cc => absurd cc (by decide +kernel)) (fun _ => ?_)
  refine lv_lload_n hx hb dX7_commonDivisor_35 rfl (lv_at hl 3 rfl) ?_
  refine lv_lload hx hb dX7_commonDivisor_36 (lv_at hl 1 rfl) ?_
  refine lv_lrem hx hb dX7_commonDivisor_38 (by decide +kernel) (sv_l (v := 0) (by decide +kernel) ?_)
  refine lv_lstore (lv' := [(8, .long 0), (7, .int 0), (5, .long 1), (4, .int 3), (2, .long 1), (0, .ref h0), (1, .int 4)]) hx hb dX7_commonDivisor_39 hl (by decide) rfl (fun ls hl => ?_)
  refine lv_lload hx hb dX7_commonDivisor_41 (lv_at hl 2 rfl) ?_
  refine lv_lstore_n (lv' := [(2, .long 1), (8, .long 0), (7, .int 0), (5, .long 1), (4, .int 3), (0, .ref h0), (1, .int 4)]) hx hb dX7_commonDivisor_43 rfl hl (by decide) rfl (fun ls hl => ?_)
  refine lv_lload hx hb dX7_commonDivisor_44 (lv_at hl 1 rfl) ?_
  refine lv_lstore (lv' := [(5, .long 0), (2, .long 1), (8, .long 0), (7, .int 0), (4, .int 3), (0, .ref h0), (1, .int 4)]) hx hb dX7_commonDivisor_46 hl (by decide) rfl (fun ls hl => ?_)
  refine lv_iinc (v := 1) (lv' := [(7, .int 1), (5, .long 0), (2, .long 1), (8, .long 0), (4, .int 3), (0, .ref h0), (1, .int 4)]) hx hb dX7_commonDivisor_48 hl (k := 3) rfl (by decide) (by decide) rfl (fun ls hl => ?_)
  refine lv_goto (tgt := 20) hx hb dX7_commonDivisor_51 (by decide) ?_
  refine lv_iload hx hb dX7_commonDivisor_20 (lv_at hl 0 rfl) ?_
  refine lv_sipush (v := 200) hx hb dX7_commonDivisor_22 (by decide) ?_
  refine lv_icmp_ge (tgt := 54) hx hb dX7_commonDivisor_25 (by decide) (fun cc => absurd cc (by decide +kernel)) (fun _ => ?_)
  refine lv_lload hx hb dX7_commonDivisor_28 (lv_at hl 1 rfl) ?_
  refine lv_lconst (v := 0) hx hb dX7_commonDivisor_30 (by decide) ?_
  refine W.lcmp hx hb dX7_commonDivisor_31 (sv_i (v := 0) (by decide +kernel) ?_)
  refine lv_if_eq (tgt := 54) hx hb dX7_commonDivisor_32 (by decide) (fun _ => ?_) (fun cc => absurd (by decide +kernel) cc)
  refine lv_iinc (v := 4) (lv' := [(4, .int 4), (7, .int 1), (5, .long 0), (2, .long 1), (8, .long 0), (0, .ref h0), (1, .int 4)]) hx hb dX7_commonDivisor_54 hl (k := 4) rfl (by decide) (by decide) rfl (fun ls hl => ?_)
  refine lv_goto (tgt := 5) hx hb dX7_commonDivisor_57 (by decide) ?_
  refine lv_iload hx hb dX7_commonDivisor_5 (lv_at hl 0 rfl) ?_
  refine lv_iload_n hx hb dX7_commonDivisor_7 rfl (lv_at hl 6 rfl) ?_
  refine lv_icmp_ge (tgt := 60) hx hb dX7_commonDivisor_8 (by decide) (fun _ => ?_) (fun cc => absurd (by decide +kernel) cc)
  refine lv_lload_n hx hb dX7_commonDivisor_60 rfl (lv_at hl 3 rfl) ?_
  refine cL (rS (As := [.long 1]) (rest := []) (wc := []) hx hb hml hown hU hK hP hD [] rfl (by decide) (cJ9_abs_067f4_1 l D k _ ) w626 w624 w625 w77 hdJ9_abs_067f4 ⟨rfl, rfl⟩ ⟨Nat.le_of_ble_eq_true rfl, Nat.le_of_ble_eq_true rfl⟩ rfl hl.1 (Nat.le_of_ble_eq_true rfl) dX7_commonDivisor_61 ⟨Nat.le_of_ble_eq_true rfl, Nat.le_of_ble_eq_true rfl⟩) hP hD hS hA (wr := [(h0, .inl (k 1, 9, .inr (.inl (tL [1, 0, 0, 1] 0))))]) [] [0] rfl rfl (by decide) (by decide) (fun r1 H locs hB J hS => ?_)
  obtain ⟨rfl, hP1, hD1⟩ := hB
  obtain ⟨hP, hD⟩ := J _ hP1 hD1
  have hP : va_P D cl0 [(h0, .inl (k 1, 9, .inr (.inl (tL [1, 0, 0, 1] 0))))] H := hP
  have hD : va_D A [(h0, .inl (k 1, 9, .inr (.inl (tL [1, 0, 0, 1] 0))))] := hD
  exact retL (v := 1) hx hb hr hlocks hS (⟨rfl, hP, hD⟩) dX7_commonDivisor_64
abbrev BJ9_max_f86c9_1 (D : va_G) (k : Nat → ClassId) (A : Nat → Prop) (r : Int64) (H : Heap) : Prop := 1 = r ∧ va_P D cl0 [] H ∧ va_D A []
set_option maxHeartbeats 4000000 in
set_option maxRecDepth 100000 in
theorem cJ9_max_f86c9_1 (l : Launch) (D : va_G) (k : Nat → ClassId) (sz : Nat) : Met l yJ9_max_f86c9 (Cond.code yJ9_max_f86c9 cJ9_max_f86c9 4 (some .long) :: uw) ({ frames := 0, cells := 0, slots := 0, locals := 0 }) (pC D k sz [.long 1, .long 1] []) (qL (BJ9_max_f86c9_1 D k  (va_A [] sz)) (va_A [] sz)) 0 0 (va_A [] sz) := by
  refine beginF_ (Qc := fun A => qL (BJ9_max_f86c9_1 D k  A) A) (by decide +kernel) (Nat.le_of_ble_eq_true rfl) ?_
  intro p e s m below meth c ls A hx hb hr hml hown hlocks hin hU hK hsz hP hD hS hA hl
  have hl : lv_has ls 4 [(0, .long 1), (2, .long 1)] := hl
  clear hsz
  refine lv_lload_n hx hb dJ9_max_f86c9_0 rfl (lv_at hl 0 rfl) ?_
  refine lv_lload_n hx hb dJ9_max_f86c9_1 rfl (lv_at hl 1 rfl) ?_
  refine W.lcmp hx hb dJ9_max_f86c9_2 (sv_i (v := 0) (by decide +kernel) ?_)
  refine lv_if_lt (tgt := 10) hx hb dJ9_max_f86c9_3 (by decide) (fun cc => absurd cc (by decide +kernel)) (fun _ => ?_)
  refine lv_lload_n hx hb dJ9_max_f86c9_6 rfl (lv_at hl 0 rfl) ?_
  refine lv_goto (tgt := 11) hx hb dJ9_max_f86c9_7 (by decide) ?_
  exact retL (v := 1) hx hb hr hlocks hS (⟨rfl, hP, hD⟩) dJ9_max_f86c9_11
abbrev BX10_form_1 (D : va_G) (k : Nat → ClassId) (a0 a1 a9 a11 a12 a13 a14 a16 a17 a28 a31 a32 a3 a5 a8 a18 a27 a29 a30 a2 a15 a10 : Nat) (x0 : Int32) (x1 : Int32) (A : Nat → Prop) (r : Int64) (H : Heap) : Prop := r = F_form x0 x1
set_option maxHeartbeats 4000000 in
set_option maxRecDepth 100000 in
theorem cX10_form_1 (l : Launch) (D : va_G) (k : Nat → ClassId) (sz : Nat) (a0 a1 a9 a11 a12 a13 a14 a16 a17 a28 a31 a32 a3 a5 a8 a18 a27 a29 a30 a2 a15 a10 : Nat) (x0 : Int32) (x1 : Int32) : Met l yX10_form (Cond.code yX10_form cX10_form 5 (some .long) :: uw) ({ frames := 3, cells := 0, slots := 0, locals := 81 }) (pC D k sz [.ref a0, .int x0, .int x1] [(a0, .inr (7, [.ref a1, .ref a3, .int 0, .ref a5, .ref a8, .ref a9, .int 0, .ref a18, .int 0, .null, .ref a27, .int 0, .ref a28, .ref a29, .ref a30, .ref a31, .ref a32])), (a1, .inr (4, [.int 2, .int 0, .int 1, .ref a2])), (a9, .inr (3, [.ref a11, .ref a12, .ref a13, .ref a14, .ref a15, .ref a16, .ref a17, .ref a10, .int 0, .int 0, .int 0, .int 0])), (a11, .inl (k 1, 900, .inr (.inl (tL [] 0)))), (a12, .inl (k 0, 100, .inl (tI [] 0))), (a13, .inl (k 0, 100, .inl (tI [] 0))), (a14, .inl (k 0, 100, .inl (tI [] 0))), (a16, .inl (k 0, 256, .inl (tI [] 0))), (a17, .inl (k 0, 100, .inl (tI [] 0))), (a28, .inr (2, [.ref a1, .int 0])), (a31, .inl (k 1, 9, .inr (.inl (tL [] 0)))), (a32, .inl (k 1, 9, .inr (.inl (tL [] 0))))]) (qL (BX10_form_1 D k a0 a1 a9 a11 a12 a13 a14 a16 a17 a28 a31 a32 a3 a5 a8 a18 a27 a29 a30 a2 a15 a10 x0 x1 (va_A [(a0, .inr (7, [.ref a1, .ref a3, .int 0, .ref a5, .ref a8, .ref a9, .int 0, .ref a18, .int 0, .null, .ref a27, .int 0, .ref a28, .ref a29, .ref a30, .ref a31, .ref a32])), (a1, .inr (4, [.int 2, .int 0, .int 1, .ref a2])), (a9, .inr (3, [.ref a11, .ref a12, .ref a13, .ref a14, .ref a15, .ref a16, .ref a17, .ref a10, .int 0, .int 0, .int 0, .int 0])), (a11, .inl (k 1, 900, .inr (.inl (tL [] 0)))), (a12, .inl (k 0, 100, .inl (tI [] 0))), (a13, .inl (k 0, 100, .inl (tI [] 0))), (a14, .inl (k 0, 100, .inl (tI [] 0))), (a16, .inl (k 0, 256, .inl (tI [] 0))), (a17, .inl (k 0, 100, .inl (tI [] 0))), (a28, .inr (2, [.ref a1, .int 0])), (a31, .inl (k 1, 9, .inr (.inl (tL [] 0)))), (a32, .inl (k 1, 9, .inr (.inl (tL [] 0))))] sz)) (va_A [(a0, .inr (7, [.ref a1, .ref a3, .int 0, .ref a5, .ref a8, .ref a9, .int 0, .ref a18, .int 0, .null, .ref a27, .int 0, .ref a28, .ref a29, .ref a30, .ref a31, .ref a32])), (a1, .inr (4, [.int 2, .int 0, .int 1, .ref a2])), (a9, .inr (3, [.ref a11, .ref a12, .ref a13, .ref a14, .ref a15, .ref a16, .ref a17, .ref a10, .int 0, .int 0, .int 0, .int 0])), (a11, .inl (k 1, 900, .inr (.inl (tL [] 0)))), (a12, .inl (k 0, 100, .inl (tI [] 0))), (a13, .inl (k 0, 100, .inl (tI [] 0))), (a14, .inl (k 0, 100, .inl (tI [] 0))), (a16, .inl (k 0, 256, .inl (tI [] 0))), (a17, .inl (k 0, 100, .inl (tI [] 0))), (a28, .inr (2, [.ref a1, .int 0])), (a31, .inl (k 1, 9, .inr (.inl (tL [] 0)))), (a32, .inl (k 1, 9, .inr (.inl (tL [] 0))))] sz)) 0 0 (va_A [(a0, .inr (7, [.ref a1, .ref a3, .int 0, .ref a5, .ref a8, .ref a9, .int 0, .ref a18, .int 0, .null, .ref a27, .int 0, .ref a28, .ref a29, .ref a30, .ref a31, .ref a32])), (a1, .inr (4, [.int 2, .int 0, .int 1, .ref a2])), (a9, .inr (3, [.ref a11, .ref a12, .ref a13, .ref a14, .ref a15, .ref a16, .ref a17, .ref a10, .int 0, .int 0, .int 0, .int 0])), (a11, .inl (k 1, 900, .inr (.inl (tL [] 0)))), (a12, .inl (k 0, 100, .inl (tI [] 0))), (a13, .inl (k 0, 100, .inl (tI [] 0))), (a14, .inl (k 0, 100, .inl (tI [] 0))), (a16, .inl (k 0, 256, .inl (tI [] 0))), (a17, .inl (k 0, 100, .inl (tI [] 0))), (a28, .inr (2, [.ref a1, .int 0])), (a31, .inl (k 1, 9, .inr (.inl (tL [] 0)))), (a32, .inl (k 1, 9, .inr (.inl (tL [] 0))))] sz) := by
  refine begin_ (Qc := fun A => qL (BX10_form_1 D k a0 a1 a9 a11 a12 a13 a14 a16 a17 a28 a31 a32 a3 a5 a8 a18 a27 a29 a30 a2 a15 a10 x0 x1 A) A) (by decide) (Nat.le_of_ble_eq_true rfl) ?_
  intro p e s m below meth c ls A hx hb hr hml hown hlocks hin hU hK hsz hP hD hS hA hl
  have hl : lv_has ls 5 [(0, .ref a0), (1, .int x0), (2, .int x1)] := hl
  clear hsz
  refine lv_aload_n hx hb dX10_form_0 rfl (lv_at hl 0 rfl) ?_
  refine va_get (D := D) (ci := 7) (v := .ref a1) (C := RX10) (T := TX10) (N := 17) hx hb hU iX10 hown hK.1 hP 0 rfl rfl 0 (by decide) (hU _ w249) (fun _ h9 => h9) rfl dX10_form_1 ?_
  refine lv_iload_n hx hb dX10_form_4 rfl (lv_at hl 1 rfl) ?_
  refine lv_iload_n hx hb dX10_form_5 rfl (lv_at hl 2 rfl) ?_
  refine cI (rV (q0 := 1) (ci := 4) (As := [.int x0, .int x1]) (rest := []) (wc := [(a1, .inr (4, [.int 2, .int 0, .int 1, .ref a2]))]) hx hb hml hown hU hK hP hD rfl rfl [1] rfl (by decide) (cX5_isPlace_1 l D k _ a1 a2 (x0) (x1)) w319 w316 w317 w318 w64 hdX5_isPlace ⟨rfl, rfl⟩ ⟨Nat.le_of_ble_eq_true rfl, Nat.le_of_ble_eq_true rfl⟩ rfl hl.1 (Nat.le_of_ble_eq_true rfl) dX10_form_6 ⟨Nat.le_of_ble_eq_true rfl, Nat.le_of_ble_eq_true rfl⟩) hP hD hS hA (wr := [(a0, .inr (7, [.ref a1, .ref a3, .int 0, .ref a5, .ref a8, .ref a9, .int 0, .ref a18, .int 0, .null, .ref a27, .int 0, .ref a28, .ref a29, .ref a30, .ref a31, .ref a32])), (a9, .inr (3, [.ref a11, .ref a12, .ref a13, .ref a14, .ref a15, .ref a16, .ref a17, .ref a10, .int 0, .int 0, .int 0, .int 0])), (a11, .inl (k 1, 900, .inr (.inl (tL [] 0)))), (a12, .inl (k 0, 100, .inl (tI [] 0))), (a13, .inl (k 0, 100, .inl (tI [] 0))), (a14, .inl (k 0, 100, .inl (tI [] 0))), (a16, .inl (k 0, 256, .inl (tI [] 0))), (a17, .inl (k 0, 100, .inl (tI [] 0))), (a28, .inr (2, [.ref a1, .int 0])), (a31, .inl (k 1, 9, .inr (.inl (tL [] 0)))), (a32, .inl (k 1, 9, .inr (.inl (tL [] 0))))]) [1] [0, 2, 3, 4, 5, 6, 7, 8, 9, 10, 11] rfl rfl (by decide) (by decide) (fun r1 H locs hB J hS => ?_)
  rcases hB with ⟨c_2, rfl, hP1, hD1⟩ | ⟨c_3, c_4, rfl, hP1, hD1⟩ | ⟨c_5, c_6, c_7, rfl, hP1, hD1⟩ | ⟨c_8, c_9, c_10, c_11, rfl, hP1, hD1⟩ | ⟨c_12, c_13, c_14, c_15, rfl, hP1, hD1⟩
  · skip
    obtain ⟨hP, hD⟩ := J _ hP1 hD1
    have hP : va_P D cl0 [(a0, .inr (7, [.ref a1, .ref a3, .int 0, .ref a5, .ref a8, .ref a9, .int 0, .ref a18, .int 0, .null, .ref a27, .int 0, .ref a28, .ref a29, .ref a30, .ref a31, .ref a32])), (a9, .inr (3, [.ref a11, .ref a12, .ref a13, .ref a14, .ref a15, .ref a16, .ref a17, .ref a10, .int 0, .int 0, .int 0, .int 0])), (a11, .inl (k 1, 900, .inr (.inl (tL [] 0)))), (a12, .inl (k 0, 100, .inl (tI [] 0))), (a13, .inl (k 0, 100, .inl (tI [] 0))), (a14, .inl (k 0, 100, .inl (tI [] 0))), (a16, .inl (k 0, 256, .inl (tI [] 0))), (a17, .inl (k 0, 100, .inl (tI [] 0))), (a28, .inr (2, [.ref a1, .int 0])), (a31, .inl (k 1, 9, .inr (.inl (tL [] 0)))), (a32, .inl (k 1, 9, .inr (.inl (tL [] 0)))), (a1, .inr (4, [.int 2, .int 0, .int 1, .ref a2]))] H := hP
    have hD : va_D A [(a0, .inr (7, [.ref a1, .ref a3, .int 0, .ref a5, .ref a8, .ref a9, .int 0, .ref a18, .int 0, .null, .ref a27, .int 0, .ref a28, .ref a29, .ref a30, .ref a31, .ref a32])), (a9, .inr (3, [.ref a11, .ref a12, .ref a13, .ref a14, .ref a15, .ref a16, .ref a17, .ref a10, .int 0, .int 0, .int 0, .int 0])), (a11, .inl (k 1, 900, .inr (.inl (tL [] 0)))), (a12, .inl (k 0, 100, .inl (tI [] 0))), (a13, .inl (k 0, 100, .inl (tI [] 0))), (a14, .inl (k 0, 100, .inl (tI [] 0))), (a16, .inl (k 0, 256, .inl (tI [] 0))), (a17, .inl (k 0, 100, .inl (tI [] 0))), (a28, .inr (2, [.ref a1, .int 0])), (a31, .inl (k 1, 9, .inr (.inl (tL [] 0)))), (a32, .inl (k 1, 9, .inr (.inl (tL [] 0)))), (a1, .inr (4, [.int 2, .int 0, .int 1, .ref a2]))] := hD
    refine lv_if_ne (tgt := 17) hx hb dX10_form_9 (by decide) (fun cc => absurd (by decide +kernel) cc) (fun _ => ?_)
    refine lv_iconst (v := (-1)) hx hb dX10_form_12 (by decide) ?_
    refine cL (rS (As := [.int (-1)]) (rest := []) (wc := []) hx hb hml hown hU hK hP hD [] rfl (by decide) (cX10_asLong_1 l D k _ ) w572 w570 w571 w63 hdX10_asLong ⟨rfl, rfl⟩ ⟨Nat.le_of_ble_eq_true rfl, Nat.le_of_ble_eq_true rfl⟩ rfl hl.1 (Nat.le_of_ble_eq_true rfl) dX10_form_13 ⟨Nat.le_of_ble_eq_true rfl, Nat.le_of_ble_eq_true rfl⟩) hP hD hS hA (wr := [(a0, .inr (7, [.ref a1, .ref a3, .int 0, .ref a5, .ref a8, .ref a9, .int 0, .ref a18, .int 0, .null, .ref a27, .int 0, .ref a28, .ref a29, .ref a30, .ref a31, .ref a32])), (a9, .inr (3, [.ref a11, .ref a12, .ref a13, .ref a14, .ref a15, .ref a16, .ref a17, .ref a10, .int 0, .int 0, .int 0, .int 0])), (a11, .inl (k 1, 900, .inr (.inl (tL [] 0)))), (a12, .inl (k 0, 100, .inl (tI [] 0))), (a13, .inl (k 0, 100, .inl (tI [] 0))), (a14, .inl (k 0, 100, .inl (tI [] 0))), (a16, .inl (k 0, 256, .inl (tI [] 0))), (a17, .inl (k 0, 100, .inl (tI [] 0))), (a28, .inr (2, [.ref a1, .int 0])), (a31, .inl (k 1, 9, .inr (.inl (tL [] 0)))), (a32, .inl (k 1, 9, .inr (.inl (tL [] 0)))), (a1, .inr (4, [.int 2, .int 0, .int 1, .ref a2]))]) [] [0, 1, 2, 3, 4, 5, 6, 7, 8, 9, 10, 11] rfl rfl (by decide) (by decide) (fun r16 H locs hB J hS => ?_)
    obtain ⟨rfl, hP1, hD1⟩ := hB
    obtain ⟨hP, hD⟩ := J _ hP1 hD1
    have hP : va_P D cl0 [(a0, .inr (7, [.ref a1, .ref a3, .int 0, .ref a5, .ref a8, .ref a9, .int 0, .ref a18, .int 0, .null, .ref a27, .int 0, .ref a28, .ref a29, .ref a30, .ref a31, .ref a32])), (a9, .inr (3, [.ref a11, .ref a12, .ref a13, .ref a14, .ref a15, .ref a16, .ref a17, .ref a10, .int 0, .int 0, .int 0, .int 0])), (a11, .inl (k 1, 900, .inr (.inl (tL [] 0)))), (a12, .inl (k 0, 100, .inl (tI [] 0))), (a13, .inl (k 0, 100, .inl (tI [] 0))), (a14, .inl (k 0, 100, .inl (tI [] 0))), (a16, .inl (k 0, 256, .inl (tI [] 0))), (a17, .inl (k 0, 100, .inl (tI [] 0))), (a28, .inr (2, [.ref a1, .int 0])), (a31, .inl (k 1, 9, .inr (.inl (tL [] 0)))), (a32, .inl (k 1, 9, .inr (.inl (tL [] 0)))), (a1, .inr (4, [.int 2, .int 0, .int 1, .ref a2]))] H := hP
    have hD : va_D A [(a0, .inr (7, [.ref a1, .ref a3, .int 0, .ref a5, .ref a8, .ref a9, .int 0, .ref a18, .int 0, .null, .ref a27, .int 0, .ref a28, .ref a29, .ref a30, .ref a31, .ref a32])), (a9, .inr (3, [.ref a11, .ref a12, .ref a13, .ref a14, .ref a15, .ref a16, .ref a17, .ref a10, .int 0, .int 0, .int 0, .int 0])), (a11, .inl (k 1, 900, .inr (.inl (tL [] 0)))), (a12, .inl (k 0, 100, .inl (tI [] 0))), (a13, .inl (k 0, 100, .inl (tI [] 0))), (a14, .inl (k 0, 100, .inl (tI [] 0))), (a16, .inl (k 0, 256, .inl (tI [] 0))), (a17, .inl (k 0, 100, .inl (tI [] 0))), (a28, .inr (2, [.ref a1, .int 0])), (a31, .inl (k 1, 9, .inr (.inl (tL [] 0)))), (a32, .inl (k 1, 9, .inr (.inl (tL [] 0)))), (a1, .inr (4, [.int 2, .int 0, .int 1, .ref a2]))] := hD
    exact retL (v := (-4000000000000000001)) hx hb hr hlocks hS (show ((-4000000000000000001) : Int64) = F_form x0 x1 by first | decide +kernel | (have f0 := cv_lt (x := x0.toInt) (y := 0) c_2 rfl (by decide +kernel); unfold F_form; (repeat (first | rw [if_pos (by omega)] | rw [if_neg (by omega)])))) dX10_form_16
  · skip
    obtain ⟨hP, hD⟩ := J _ hP1 hD1
    have hP : va_P D cl0 [(a0, .inr (7, [.ref a1, .ref a3, .int 0, .ref a5, .ref a8, .ref a9, .int 0, .ref a18, .int 0, .null, .ref a27, .int 0, .ref a28, .ref a29, .ref a30, .ref a31, .ref a32])), (a9, .inr (3, [.ref a11, .ref a12, .ref a13, .ref a14, .ref a15, .ref a16, .ref a17, .ref a10, .int 0, .int 0, .int 0, .int 0])), (a11, .inl (k 1, 900, .inr (.inl (tL [] 0)))), (a12, .inl (k 0, 100, .inl (tI [] 0))), (a13, .inl (k 0, 100, .inl (tI [] 0))), (a14, .inl (k 0, 100, .inl (tI [] 0))), (a16, .inl (k 0, 256, .inl (tI [] 0))), (a17, .inl (k 0, 100, .inl (tI [] 0))), (a28, .inr (2, [.ref a1, .int 0])), (a31, .inl (k 1, 9, .inr (.inl (tL [] 0)))), (a32, .inl (k 1, 9, .inr (.inl (tL [] 0)))), (a1, .inr (4, [.int 2, .int 0, .int 1, .ref a2]))] H := hP
    have hD : va_D A [(a0, .inr (7, [.ref a1, .ref a3, .int 0, .ref a5, .ref a8, .ref a9, .int 0, .ref a18, .int 0, .null, .ref a27, .int 0, .ref a28, .ref a29, .ref a30, .ref a31, .ref a32])), (a9, .inr (3, [.ref a11, .ref a12, .ref a13, .ref a14, .ref a15, .ref a16, .ref a17, .ref a10, .int 0, .int 0, .int 0, .int 0])), (a11, .inl (k 1, 900, .inr (.inl (tL [] 0)))), (a12, .inl (k 0, 100, .inl (tI [] 0))), (a13, .inl (k 0, 100, .inl (tI [] 0))), (a14, .inl (k 0, 100, .inl (tI [] 0))), (a16, .inl (k 0, 256, .inl (tI [] 0))), (a17, .inl (k 0, 100, .inl (tI [] 0))), (a28, .inr (2, [.ref a1, .int 0])), (a31, .inl (k 1, 9, .inr (.inl (tL [] 0)))), (a32, .inl (k 1, 9, .inr (.inl (tL [] 0)))), (a1, .inr (4, [.int 2, .int 0, .int 1, .ref a2]))] := hD
    refine lv_if_ne (tgt := 17) hx hb dX10_form_9 (by decide) (fun cc => absurd (by decide +kernel) cc) (fun _ => ?_)
    refine lv_iconst (v := (-1)) hx hb dX10_form_12 (by decide) ?_
    refine cL (rS (As := [.int (-1)]) (rest := []) (wc := []) hx hb hml hown hU hK hP hD [] rfl (by decide) (cX10_asLong_1 l D k _ ) w572 w570 w571 w63 hdX10_asLong ⟨rfl, rfl⟩ ⟨Nat.le_of_ble_eq_true rfl, Nat.le_of_ble_eq_true rfl⟩ rfl hl.1 (Nat.le_of_ble_eq_true rfl) dX10_form_13 ⟨Nat.le_of_ble_eq_true rfl, Nat.le_of_ble_eq_true rfl⟩) hP hD hS hA (wr := [(a0, .inr (7, [.ref a1, .ref a3, .int 0, .ref a5, .ref a8, .ref a9, .int 0, .ref a18, .int 0, .null, .ref a27, .int 0, .ref a28, .ref a29, .ref a30, .ref a31, .ref a32])), (a9, .inr (3, [.ref a11, .ref a12, .ref a13, .ref a14, .ref a15, .ref a16, .ref a17, .ref a10, .int 0, .int 0, .int 0, .int 0])), (a11, .inl (k 1, 900, .inr (.inl (tL [] 0)))), (a12, .inl (k 0, 100, .inl (tI [] 0))), (a13, .inl (k 0, 100, .inl (tI [] 0))), (a14, .inl (k 0, 100, .inl (tI [] 0))), (a16, .inl (k 0, 256, .inl (tI [] 0))), (a17, .inl (k 0, 100, .inl (tI [] 0))), (a28, .inr (2, [.ref a1, .int 0])), (a31, .inl (k 1, 9, .inr (.inl (tL [] 0)))), (a32, .inl (k 1, 9, .inr (.inl (tL [] 0)))), (a1, .inr (4, [.int 2, .int 0, .int 1, .ref a2]))]) [] [0, 1, 2, 3, 4, 5, 6, 7, 8, 9, 10, 11] rfl rfl (by decide) (by decide) (fun r17 H locs hB J hS => ?_)
    obtain ⟨rfl, hP1, hD1⟩ := hB
    obtain ⟨hP, hD⟩ := J _ hP1 hD1
    have hP : va_P D cl0 [(a0, .inr (7, [.ref a1, .ref a3, .int 0, .ref a5, .ref a8, .ref a9, .int 0, .ref a18, .int 0, .null, .ref a27, .int 0, .ref a28, .ref a29, .ref a30, .ref a31, .ref a32])), (a9, .inr (3, [.ref a11, .ref a12, .ref a13, .ref a14, .ref a15, .ref a16, .ref a17, .ref a10, .int 0, .int 0, .int 0, .int 0])), (a11, .inl (k 1, 900, .inr (.inl (tL [] 0)))), (a12, .inl (k 0, 100, .inl (tI [] 0))), (a13, .inl (k 0, 100, .inl (tI [] 0))), (a14, .inl (k 0, 100, .inl (tI [] 0))), (a16, .inl (k 0, 256, .inl (tI [] 0))), (a17, .inl (k 0, 100, .inl (tI [] 0))), (a28, .inr (2, [.ref a1, .int 0])), (a31, .inl (k 1, 9, .inr (.inl (tL [] 0)))), (a32, .inl (k 1, 9, .inr (.inl (tL [] 0)))), (a1, .inr (4, [.int 2, .int 0, .int 1, .ref a2]))] H := hP
    have hD : va_D A [(a0, .inr (7, [.ref a1, .ref a3, .int 0, .ref a5, .ref a8, .ref a9, .int 0, .ref a18, .int 0, .null, .ref a27, .int 0, .ref a28, .ref a29, .ref a30, .ref a31, .ref a32])), (a9, .inr (3, [.ref a11, .ref a12, .ref a13, .ref a14, .ref a15, .ref a16, .ref a17, .ref a10, .int 0, .int 0, .int 0, .int 0])), (a11, .inl (k 1, 900, .inr (.inl (tL [] 0)))), (a12, .inl (k 0, 100, .inl (tI [] 0))), (a13, .inl (k 0, 100, .inl (tI [] 0))), (a14, .inl (k 0, 100, .inl (tI [] 0))), (a16, .inl (k 0, 256, .inl (tI [] 0))), (a17, .inl (k 0, 100, .inl (tI [] 0))), (a28, .inr (2, [.ref a1, .int 0])), (a31, .inl (k 1, 9, .inr (.inl (tL [] 0)))), (a32, .inl (k 1, 9, .inr (.inl (tL [] 0)))), (a1, .inr (4, [.int 2, .int 0, .int 1, .ref a2]))] := hD
    exact retL (v := (-4000000000000000001)) hx hb hr hlocks hS (show ((-4000000000000000001) : Int64) = F_form x0 x1 by first | decide +kernel | (have f0 := cv_nlt (x := x0.toInt) (y := 0) c_3 rfl (by decide +kernel); have f1 := cv_le (x := 2) (y := x0.toInt) c_4 (by decide +kernel) rfl; unfold F_form; (repeat (first | rw [if_pos (by omega)] | rw [if_neg (by omega)])))) dX10_form_16
  · skip
    obtain ⟨hP, hD⟩ := J _ hP1 hD1
    have hP : va_P D cl0 [(a0, .inr (7, [.ref a1, .ref a3, .int 0, .ref a5, .ref a8, .ref a9, .int 0, .ref a18, .int 0, .null, .ref a27, .int 0, .ref a28, .ref a29, .ref a30, .ref a31, .ref a32])), (a9, .inr (3, [.ref a11, .ref a12, .ref a13, .ref a14, .ref a15, .ref a16, .ref a17, .ref a10, .int 0, .int 0, .int 0, .int 0])), (a11, .inl (k 1, 900, .inr (.inl (tL [] 0)))), (a12, .inl (k 0, 100, .inl (tI [] 0))), (a13, .inl (k 0, 100, .inl (tI [] 0))), (a14, .inl (k 0, 100, .inl (tI [] 0))), (a16, .inl (k 0, 256, .inl (tI [] 0))), (a17, .inl (k 0, 100, .inl (tI [] 0))), (a28, .inr (2, [.ref a1, .int 0])), (a31, .inl (k 1, 9, .inr (.inl (tL [] 0)))), (a32, .inl (k 1, 9, .inr (.inl (tL [] 0)))), (a1, .inr (4, [.int 2, .int 0, .int 1, .ref a2]))] H := hP
    have hD : va_D A [(a0, .inr (7, [.ref a1, .ref a3, .int 0, .ref a5, .ref a8, .ref a9, .int 0, .ref a18, .int 0, .null, .ref a27, .int 0, .ref a28, .ref a29, .ref a30, .ref a31, .ref a32])), (a9, .inr (3, [.ref a11, .ref a12, .ref a13, .ref a14, .ref a15, .ref a16, .ref a17, .ref a10, .int 0, .int 0, .int 0, .int 0])), (a11, .inl (k 1, 900, .inr (.inl (tL [] 0)))), (a12, .inl (k 0, 100, .inl (tI [] 0))), (a13, .inl (k 0, 100, .inl (tI [] 0))), (a14, .inl (k 0, 100, .inl (tI [] 0))), (a16, .inl (k 0, 256, .inl (tI [] 0))), (a17, .inl (k 0, 100, .inl (tI [] 0))), (a28, .inr (2, [.ref a1, .int 0])), (a31, .inl (k 1, 9, .inr (.inl (tL [] 0)))), (a32, .inl (k 1, 9, .inr (.inl (tL [] 0)))), (a1, .inr (4, [.int 2, .int 0, .int 1, .ref a2]))] := hD
    refine lv_if_ne (tgt := 17) hx hb dX10_form_9 (by decide) (fun cc => absurd (by decide +kernel) cc) (fun _ => ?_)
    refine lv_iconst (v := (-1)) hx hb dX10_form_12 (by decide) ?_
    refine cL (rS (As := [.int (-1)]) (rest := []) (wc := []) hx hb hml hown hU hK hP hD [] rfl (by decide) (cX10_asLong_1 l D k _ ) w572 w570 w571 w63 hdX10_asLong ⟨rfl, rfl⟩ ⟨Nat.le_of_ble_eq_true rfl, Nat.le_of_ble_eq_true rfl⟩ rfl hl.1 (Nat.le_of_ble_eq_true rfl) dX10_form_13 ⟨Nat.le_of_ble_eq_true rfl, Nat.le_of_ble_eq_true rfl⟩) hP hD hS hA (wr := [(a0, .inr (7, [.ref a1, .ref a3, .int 0, .ref a5, .ref a8, .ref a9, .int 0, .ref a18, .int 0, .null, .ref a27, .int 0, .ref a28, .ref a29, .ref a30, .ref a31, .ref a32])), (a9, .inr (3, [.ref a11, .ref a12, .ref a13, .ref a14, .ref a15, .ref a16, .ref a17, .ref a10, .int 0, .int 0, .int 0, .int 0])), (a11, .inl (k 1, 900, .inr (.inl (tL [] 0)))), (a12, .inl (k 0, 100, .inl (tI [] 0))), (a13, .inl (k 0, 100, .inl (tI [] 0))), (a14, .inl (k 0, 100, .inl (tI [] 0))), (a16, .inl (k 0, 256, .inl (tI [] 0))), (a17, .inl (k 0, 100, .inl (tI [] 0))), (a28, .inr (2, [.ref a1, .int 0])), (a31, .inl (k 1, 9, .inr (.inl (tL [] 0)))), (a32, .inl (k 1, 9, .inr (.inl (tL [] 0)))), (a1, .inr (4, [.int 2, .int 0, .int 1, .ref a2]))]) [] [0, 1, 2, 3, 4, 5, 6, 7, 8, 9, 10, 11] rfl rfl (by decide) (by decide) (fun r18 H locs hB J hS => ?_)
    obtain ⟨rfl, hP1, hD1⟩ := hB
    obtain ⟨hP, hD⟩ := J _ hP1 hD1
    have hP : va_P D cl0 [(a0, .inr (7, [.ref a1, .ref a3, .int 0, .ref a5, .ref a8, .ref a9, .int 0, .ref a18, .int 0, .null, .ref a27, .int 0, .ref a28, .ref a29, .ref a30, .ref a31, .ref a32])), (a9, .inr (3, [.ref a11, .ref a12, .ref a13, .ref a14, .ref a15, .ref a16, .ref a17, .ref a10, .int 0, .int 0, .int 0, .int 0])), (a11, .inl (k 1, 900, .inr (.inl (tL [] 0)))), (a12, .inl (k 0, 100, .inl (tI [] 0))), (a13, .inl (k 0, 100, .inl (tI [] 0))), (a14, .inl (k 0, 100, .inl (tI [] 0))), (a16, .inl (k 0, 256, .inl (tI [] 0))), (a17, .inl (k 0, 100, .inl (tI [] 0))), (a28, .inr (2, [.ref a1, .int 0])), (a31, .inl (k 1, 9, .inr (.inl (tL [] 0)))), (a32, .inl (k 1, 9, .inr (.inl (tL [] 0)))), (a1, .inr (4, [.int 2, .int 0, .int 1, .ref a2]))] H := hP
    have hD : va_D A [(a0, .inr (7, [.ref a1, .ref a3, .int 0, .ref a5, .ref a8, .ref a9, .int 0, .ref a18, .int 0, .null, .ref a27, .int 0, .ref a28, .ref a29, .ref a30, .ref a31, .ref a32])), (a9, .inr (3, [.ref a11, .ref a12, .ref a13, .ref a14, .ref a15, .ref a16, .ref a17, .ref a10, .int 0, .int 0, .int 0, .int 0])), (a11, .inl (k 1, 900, .inr (.inl (tL [] 0)))), (a12, .inl (k 0, 100, .inl (tI [] 0))), (a13, .inl (k 0, 100, .inl (tI [] 0))), (a14, .inl (k 0, 100, .inl (tI [] 0))), (a16, .inl (k 0, 256, .inl (tI [] 0))), (a17, .inl (k 0, 100, .inl (tI [] 0))), (a28, .inr (2, [.ref a1, .int 0])), (a31, .inl (k 1, 9, .inr (.inl (tL [] 0)))), (a32, .inl (k 1, 9, .inr (.inl (tL [] 0)))), (a1, .inr (4, [.int 2, .int 0, .int 1, .ref a2]))] := hD
    exact retL (v := (-4000000000000000001)) hx hb hr hlocks hS (show ((-4000000000000000001) : Int64) = F_form x0 x1 by first | decide +kernel | (have f0 := cv_nlt (x := x0.toInt) (y := 0) c_5 rfl (by decide +kernel); have f1 := cv_nle (x := 2) (y := x0.toInt) c_6 (by decide +kernel) rfl; have f2 := cv_lt (x := x1.toInt) (y := 0) c_7 rfl (by decide +kernel); unfold F_form; (repeat (first | rw [if_pos (by omega)] | rw [if_neg (by omega)])))) dX10_form_16
  · skip
    obtain ⟨hP, hD⟩ := J _ hP1 hD1
    have hP : va_P D cl0 [(a0, .inr (7, [.ref a1, .ref a3, .int 0, .ref a5, .ref a8, .ref a9, .int 0, .ref a18, .int 0, .null, .ref a27, .int 0, .ref a28, .ref a29, .ref a30, .ref a31, .ref a32])), (a9, .inr (3, [.ref a11, .ref a12, .ref a13, .ref a14, .ref a15, .ref a16, .ref a17, .ref a10, .int 0, .int 0, .int 0, .int 0])), (a11, .inl (k 1, 900, .inr (.inl (tL [] 0)))), (a12, .inl (k 0, 100, .inl (tI [] 0))), (a13, .inl (k 0, 100, .inl (tI [] 0))), (a14, .inl (k 0, 100, .inl (tI [] 0))), (a16, .inl (k 0, 256, .inl (tI [] 0))), (a17, .inl (k 0, 100, .inl (tI [] 0))), (a28, .inr (2, [.ref a1, .int 0])), (a31, .inl (k 1, 9, .inr (.inl (tL [] 0)))), (a32, .inl (k 1, 9, .inr (.inl (tL [] 0)))), (a1, .inr (4, [.int 2, .int 0, .int 1, .ref a2]))] H := hP
    have hD : va_D A [(a0, .inr (7, [.ref a1, .ref a3, .int 0, .ref a5, .ref a8, .ref a9, .int 0, .ref a18, .int 0, .null, .ref a27, .int 0, .ref a28, .ref a29, .ref a30, .ref a31, .ref a32])), (a9, .inr (3, [.ref a11, .ref a12, .ref a13, .ref a14, .ref a15, .ref a16, .ref a17, .ref a10, .int 0, .int 0, .int 0, .int 0])), (a11, .inl (k 1, 900, .inr (.inl (tL [] 0)))), (a12, .inl (k 0, 100, .inl (tI [] 0))), (a13, .inl (k 0, 100, .inl (tI [] 0))), (a14, .inl (k 0, 100, .inl (tI [] 0))), (a16, .inl (k 0, 256, .inl (tI [] 0))), (a17, .inl (k 0, 100, .inl (tI [] 0))), (a28, .inr (2, [.ref a1, .int 0])), (a31, .inl (k 1, 9, .inr (.inl (tL [] 0)))), (a32, .inl (k 1, 9, .inr (.inl (tL [] 0)))), (a1, .inr (4, [.int 2, .int 0, .int 1, .ref a2]))] := hD
    refine lv_if_ne (tgt := 17) hx hb dX10_form_9 (by decide) (fun cc => absurd (by decide +kernel) cc) (fun _ => ?_)
    refine lv_iconst (v := (-1)) hx hb dX10_form_12 (by decide) ?_
    refine cL (rS (As := [.int (-1)]) (rest := []) (wc := []) hx hb hml hown hU hK hP hD [] rfl (by decide) (cX10_asLong_1 l D k _ ) w572 w570 w571 w63 hdX10_asLong ⟨rfl, rfl⟩ ⟨Nat.le_of_ble_eq_true rfl, Nat.le_of_ble_eq_true rfl⟩ rfl hl.1 (Nat.le_of_ble_eq_true rfl) dX10_form_13 ⟨Nat.le_of_ble_eq_true rfl, Nat.le_of_ble_eq_true rfl⟩) hP hD hS hA (wr := [(a0, .inr (7, [.ref a1, .ref a3, .int 0, .ref a5, .ref a8, .ref a9, .int 0, .ref a18, .int 0, .null, .ref a27, .int 0, .ref a28, .ref a29, .ref a30, .ref a31, .ref a32])), (a9, .inr (3, [.ref a11, .ref a12, .ref a13, .ref a14, .ref a15, .ref a16, .ref a17, .ref a10, .int 0, .int 0, .int 0, .int 0])), (a11, .inl (k 1, 900, .inr (.inl (tL [] 0)))), (a12, .inl (k 0, 100, .inl (tI [] 0))), (a13, .inl (k 0, 100, .inl (tI [] 0))), (a14, .inl (k 0, 100, .inl (tI [] 0))), (a16, .inl (k 0, 256, .inl (tI [] 0))), (a17, .inl (k 0, 100, .inl (tI [] 0))), (a28, .inr (2, [.ref a1, .int 0])), (a31, .inl (k 1, 9, .inr (.inl (tL [] 0)))), (a32, .inl (k 1, 9, .inr (.inl (tL [] 0)))), (a1, .inr (4, [.int 2, .int 0, .int 1, .ref a2]))]) [] [0, 1, 2, 3, 4, 5, 6, 7, 8, 9, 10, 11] rfl rfl (by decide) (by decide) (fun r19 H locs hB J hS => ?_)
    obtain ⟨rfl, hP1, hD1⟩ := hB
    obtain ⟨hP, hD⟩ := J _ hP1 hD1
    have hP : va_P D cl0 [(a0, .inr (7, [.ref a1, .ref a3, .int 0, .ref a5, .ref a8, .ref a9, .int 0, .ref a18, .int 0, .null, .ref a27, .int 0, .ref a28, .ref a29, .ref a30, .ref a31, .ref a32])), (a9, .inr (3, [.ref a11, .ref a12, .ref a13, .ref a14, .ref a15, .ref a16, .ref a17, .ref a10, .int 0, .int 0, .int 0, .int 0])), (a11, .inl (k 1, 900, .inr (.inl (tL [] 0)))), (a12, .inl (k 0, 100, .inl (tI [] 0))), (a13, .inl (k 0, 100, .inl (tI [] 0))), (a14, .inl (k 0, 100, .inl (tI [] 0))), (a16, .inl (k 0, 256, .inl (tI [] 0))), (a17, .inl (k 0, 100, .inl (tI [] 0))), (a28, .inr (2, [.ref a1, .int 0])), (a31, .inl (k 1, 9, .inr (.inl (tL [] 0)))), (a32, .inl (k 1, 9, .inr (.inl (tL [] 0)))), (a1, .inr (4, [.int 2, .int 0, .int 1, .ref a2]))] H := hP
    have hD : va_D A [(a0, .inr (7, [.ref a1, .ref a3, .int 0, .ref a5, .ref a8, .ref a9, .int 0, .ref a18, .int 0, .null, .ref a27, .int 0, .ref a28, .ref a29, .ref a30, .ref a31, .ref a32])), (a9, .inr (3, [.ref a11, .ref a12, .ref a13, .ref a14, .ref a15, .ref a16, .ref a17, .ref a10, .int 0, .int 0, .int 0, .int 0])), (a11, .inl (k 1, 900, .inr (.inl (tL [] 0)))), (a12, .inl (k 0, 100, .inl (tI [] 0))), (a13, .inl (k 0, 100, .inl (tI [] 0))), (a14, .inl (k 0, 100, .inl (tI [] 0))), (a16, .inl (k 0, 256, .inl (tI [] 0))), (a17, .inl (k 0, 100, .inl (tI [] 0))), (a28, .inr (2, [.ref a1, .int 0])), (a31, .inl (k 1, 9, .inr (.inl (tL [] 0)))), (a32, .inl (k 1, 9, .inr (.inl (tL [] 0)))), (a1, .inr (4, [.int 2, .int 0, .int 1, .ref a2]))] := hD
    exact retL (v := (-4000000000000000001)) hx hb hr hlocks hS (show ((-4000000000000000001) : Int64) = F_form x0 x1 by first | decide +kernel | (have f0 := cv_nlt (x := x0.toInt) (y := 0) c_8 rfl (by decide +kernel); have f1 := cv_nle (x := 2) (y := x0.toInt) c_9 (by decide +kernel) rfl; have f2 := cv_nlt (x := x1.toInt) (y := 0) c_10 rfl (by decide +kernel); have f3 := cv_le (x := 2) (y := x1.toInt) c_11 (by decide +kernel) rfl; unfold F_form; (repeat (first | rw [if_pos (by omega)] | rw [if_neg (by omega)])))) dX10_form_16
  · skip
    obtain ⟨hP, hD⟩ := J _ hP1 hD1
    have hP : va_P D cl0 [(a0, .inr (7, [.ref a1, .ref a3, .int 0, .ref a5, .ref a8, .ref a9, .int 0, .ref a18, .int 0, .null, .ref a27, .int 0, .ref a28, .ref a29, .ref a30, .ref a31, .ref a32])), (a9, .inr (3, [.ref a11, .ref a12, .ref a13, .ref a14, .ref a15, .ref a16, .ref a17, .ref a10, .int 0, .int 0, .int 0, .int 0])), (a11, .inl (k 1, 900, .inr (.inl (tL [] 0)))), (a12, .inl (k 0, 100, .inl (tI [] 0))), (a13, .inl (k 0, 100, .inl (tI [] 0))), (a14, .inl (k 0, 100, .inl (tI [] 0))), (a16, .inl (k 0, 256, .inl (tI [] 0))), (a17, .inl (k 0, 100, .inl (tI [] 0))), (a28, .inr (2, [.ref a1, .int 0])), (a31, .inl (k 1, 9, .inr (.inl (tL [] 0)))), (a32, .inl (k 1, 9, .inr (.inl (tL [] 0)))), (a1, .inr (4, [.int 2, .int 0, .int 1, .ref a2]))] H := hP
    have hD : va_D A [(a0, .inr (7, [.ref a1, .ref a3, .int 0, .ref a5, .ref a8, .ref a9, .int 0, .ref a18, .int 0, .null, .ref a27, .int 0, .ref a28, .ref a29, .ref a30, .ref a31, .ref a32])), (a9, .inr (3, [.ref a11, .ref a12, .ref a13, .ref a14, .ref a15, .ref a16, .ref a17, .ref a10, .int 0, .int 0, .int 0, .int 0])), (a11, .inl (k 1, 900, .inr (.inl (tL [] 0)))), (a12, .inl (k 0, 100, .inl (tI [] 0))), (a13, .inl (k 0, 100, .inl (tI [] 0))), (a14, .inl (k 0, 100, .inl (tI [] 0))), (a16, .inl (k 0, 256, .inl (tI [] 0))), (a17, .inl (k 0, 100, .inl (tI [] 0))), (a28, .inr (2, [.ref a1, .int 0])), (a31, .inl (k 1, 9, .inr (.inl (tL [] 0)))), (a32, .inl (k 1, 9, .inr (.inl (tL [] 0)))), (a1, .inr (4, [.int 2, .int 0, .int 1, .ref a2]))] := hD
    refine lv_if_ne (tgt := 17) hx hb dX10_form_9 (by decide) (fun _ => ?_) (fun cc => absurd cc (by decide +kernel))
    refine lv_aload_n hx hb dX10_form_17 rfl (lv_at hl 0 rfl) ?_
    refine cV (rV (q0 := 0) (ci := 7) (As := []) (rest := []) (wc := [(a0, .inr (7, [.ref a1, .ref a3, .int 0, .ref a5, .ref a8, .ref a9, .int 0, .ref a18, .int 0, .null, .ref a27, .int 0, .ref a28, .ref a29, .ref a30, .ref a31, .ref a32])), (a1, .inr (4, [.int 2, .int 0, .int 1, .ref a2])), (a31, .inl (k 1, 9, .inr (.inl (tL [] 0)))), (a9, .inr (3, [.ref a11, .ref a12, .ref a13, .ref a14, .ref a15, .ref a16, .ref a17, .ref a10, .int 0, .int 0, .int 0, .int 0])), (a16, .inl (k 0, 256, .inl (tI [] 0))), (a11, .inl (k 1, 900, .inr (.inl (tL [] 0)))), (a12, .inl (k 0, 100, .inl (tI [] 0))), (a13, .inl (k 0, 100, .inl (tI [] 0))), (a14, .inl (k 0, 100, .inl (tI [] 0))), (a17, .inl (k 0, 100, .inl (tI [] 0))), (a28, .inr (2, [.ref a1, .int 0]))]) hx hb hml hown hU hK hP hD rfl rfl [0, 11, 9, 1, 6, 2, 3, 4, 5, 7, 8] rfl (by decide) (cX10_listAll_1 l D k _ a0 a1 a31 a9 a16 a11 a12 a13 a14 a17 a28 a3 a5 a8 a18 a27 a29 a30 a32 a2 a15 a10) w492 w489 w491 w10 w63 hdX10_listAll ⟨rfl, rfl⟩ ⟨Nat.le_of_ble_eq_true rfl, Nat.le_of_ble_eq_true rfl⟩ rfl hl.1 (Nat.le_of_ble_eq_true rfl) dX10_form_18 ⟨Nat.le_of_ble_eq_true rfl, Nat.le_of_ble_eq_true rfl⟩) hP hD hS hA (wr := [(a32, .inl (k 1, 9, .inr (.inl (tL [] 0))))]) [0, 11, 9, 1, 6, 2, 3, 4, 5, 7, 8] [10] rfl rfl (by decide) (by decide) (fun H locs hB J hS => ?_)
    obtain ⟨hP1, hD1⟩ := hB
    obtain ⟨hP, hD⟩ := J _ hP1 hD1
    have hP : va_P D cl0 [(a32, .inl (k 1, 9, .inr (.inl (tL [] 0)))), (a0, .inr (7, [.ref a1, .ref a3, .int 0, .ref a5, .ref a8, .ref a9, .int 1, .ref a18, .int 0, .null, .ref a27, .int 0, .ref a28, .ref a29, .ref a30, .ref a31, .ref a32])), (a28, .inr (2, [.ref a1, .int 0])), (a1, .inr (4, [.int 2, .int 0, .int 1, .ref a2])), (a11, .inl (k 1, 900, .inr (.inl (tL [1, 0, 0, 1] 0)))), (a12, .inl (k 0, 100, .inl (tI [(-3)] 0))), (a13, .inl (k 0, 100, .inl (tI [(-3)] 0))), (a14, .inl (k 0, 100, .inl (tI [0] 0))), (a17, .inl (k 0, 100, .inl (tI [(-1)] 0))), (a31, .inl (k 1, 9, .inr (.inl (tL [1, 0, 0, 1] 0)))), (a16, .inl (k 0, 256, .inl (tI [(-1), (-1), (-1), (-1), (-1), (-1), (-1), (-1), (-1), (-1), (-1), (-1), (-1), (-1), (-1), (-1), (-1), (-1), 0] (-1)))), (a9, .inr (3, [.ref a11, .ref a12, .ref a13, .ref a14, .ref a15, .ref a16, .ref a17, .ref a10, .int 4, .int 100, .int 1, .int 1]))] H := hP
    have hD : va_D A [(a32, .inl (k 1, 9, .inr (.inl (tL [] 0)))), (a0, .inr (7, [.ref a1, .ref a3, .int 0, .ref a5, .ref a8, .ref a9, .int 1, .ref a18, .int 0, .null, .ref a27, .int 0, .ref a28, .ref a29, .ref a30, .ref a31, .ref a32])), (a28, .inr (2, [.ref a1, .int 0])), (a1, .inr (4, [.int 2, .int 0, .int 1, .ref a2])), (a11, .inl (k 1, 900, .inr (.inl (tL [1, 0, 0, 1] 0)))), (a12, .inl (k 0, 100, .inl (tI [(-3)] 0))), (a13, .inl (k 0, 100, .inl (tI [(-3)] 0))), (a14, .inl (k 0, 100, .inl (tI [0] 0))), (a17, .inl (k 0, 100, .inl (tI [(-1)] 0))), (a31, .inl (k 1, 9, .inr (.inl (tL [1, 0, 0, 1] 0)))), (a16, .inl (k 0, 256, .inl (tI [(-1), (-1), (-1), (-1), (-1), (-1), (-1), (-1), (-1), (-1), (-1), (-1), (-1), (-1), (-1), (-1), (-1), (-1), 0] (-1)))), (a9, .inr (3, [.ref a11, .ref a12, .ref a13, .ref a14, .ref a15, .ref a16, .ref a17, .ref a10, .int 4, .int 100, .int 1, .int 1]))] := hD
    refine lv_aload_n hx hb dX10_form_21 rfl (lv_at hl 0 rfl) ?_
    refine va_get (D := D) (ci := 7) (v := .ref a9) (C := RX10) (T := TX10) (N := 17) hx hb hU iX10 hown hK.1 hP 1 rfl rfl 5 (by decide) (hU _ w254) (fun _ h9 => h9) rfl dX10_form_22 ?_
    refine va_get (D := D) (ci := 3) (v := .int 1) (C := RX4) (T := TX4) (N := 12) hx hb hU iX4 hown hK.1 hP 11 rfl rfl 11 (by decide) (hU _ w168) (fun _ h9 => h9) rfl dX10_form_25 ?_
    refine lv_if_ne (tgt := 37) hx hb dX10_form_28 (by decide) (fun _ => ?_) (fun cc => absurd cc (by decide +kernel))
    refine lv_aload_n hx hb dX10_form_37 rfl (lv_at hl 0 rfl) ?_
    refine cI (rV (q0 := 1) (ci := 7) (As := []) (rest := []) (wc := [(a0, .inr (7, [.ref a1, .ref a3, .int 0, .ref a5, .ref a8, .ref a9, .int 1, .ref a18, .int 0, .null, .ref a27, .int 0, .ref a28, .ref a29, .ref a30, .ref a31, .ref a32])), (a1, .inr (4, [.int 2, .int 0, .int 1, .ref a2])), (a31, .inl (k 1, 9, .inr (.inl (tL [1, 0, 0, 1] 0)))), (a9, .inr (3, [.ref a11, .ref a12, .ref a13, .ref a14, .ref a15, .ref a16, .ref a17, .ref a10, .int 4, .int 100, .int 1, .int 1])), (a11, .inl (k 1, 900, .inr (.inl (tL [1, 0, 0, 1] 0)))), (a32, .inl (k 1, 9, .inr (.inl (tL [] 0))))]) hx hb hml hown hU hK hP hD rfl rfl [1, 3, 9, 11, 4, 0] rfl (by decide) (cX10_addUpForm_1 l D k _ a0 a1 a31 a9 a11 a32 a3 a5 a8 a18 a27 a28 a29 a30 a2 a12 a13 a14 a15 a16 a17 a10) w616 w613 w615 w17 w63 hdX10_addUpForm ⟨rfl, rfl⟩ ⟨Nat.le_of_ble_eq_true rfl, Nat.le_of_ble_eq_true rfl⟩ rfl hl.1 (Nat.le_of_ble_eq_true rfl) dX10_form_38 ⟨Nat.le_of_ble_eq_true rfl, Nat.le_of_ble_eq_true rfl⟩) hP hD hS hA (wr := [(a28, .inr (2, [.ref a1, .int 0])), (a12, .inl (k 0, 100, .inl (tI [(-3)] 0))), (a13, .inl (k 0, 100, .inl (tI [(-3)] 0))), (a14, .inl (k 0, 100, .inl (tI [0] 0))), (a17, .inl (k 0, 100, .inl (tI [(-1)] 0))), (a16, .inl (k 0, 256, .inl (tI [(-1), (-1), (-1), (-1), (-1), (-1), (-1), (-1), (-1), (-1), (-1), (-1), (-1), (-1), (-1), (-1), (-1), (-1), 0] (-1))))]) [1, 3, 9, 11, 4, 0] [2, 5, 6, 7, 8, 10] rfl rfl (by decide) (by decide) (fun r21 H locs hB J hS => ?_)
    obtain ⟨rfl, hP1, hD1⟩ := hB
    obtain ⟨hP, hD⟩ := J _ hP1 hD1
    have hP : va_P D cl0 [(a28, .inr (2, [.ref a1, .int 0])), (a12, .inl (k 0, 100, .inl (tI [(-3)] 0))), (a13, .inl (k 0, 100, .inl (tI [(-3)] 0))), (a14, .inl (k 0, 100, .inl (tI [0] 0))), (a17, .inl (k 0, 100, .inl (tI [(-1)] 0))), (a16, .inl (k 0, 256, .inl (tI [(-1), (-1), (-1), (-1), (-1), (-1), (-1), (-1), (-1), (-1), (-1), (-1), (-1), (-1), (-1), (-1), (-1), (-1), 0] (-1)))), (a0, .inr (7, [.ref a1, .ref a3, .int 0, .ref a5, .ref a8, .ref a9, .int 1, .ref a18, .int 0, .null, .ref a27, .int 0, .ref a28, .ref a29, .ref a30, .ref a31, .ref a32])), (a1, .inr (4, [.int 2, .int 0, .int 1, .ref a2])), (a31, .inl (k 1, 9, .inr (.inl (tL [1, 0, 0, 1] 0)))), (a9, .inr (3, [.ref a11, .ref a12, .ref a13, .ref a14, .ref a15, .ref a16, .ref a17, .ref a10, .int 4, .int 100, .int 1, .int 1])), (a32, .inl (k 1, 9, .inr (.inl (tL [1, 0, 0, 1] 0)))), (a11, .inl (k 1, 900, .inr (.inl (tL [1, 0, 0, 1] 0))))] H := hP
    have hD : va_D A [(a28, .inr (2, [.ref a1, .int 0])), (a12, .inl (k 0, 100, .inl (tI [(-3)] 0))), (a13, .inl (k 0, 100, .inl (tI [(-3)] 0))), (a14, .inl (k 0, 100, .inl (tI [0] 0))), (a17, .inl (k 0, 100, .inl (tI [(-1)] 0))), (a16, .inl (k 0, 256, .inl (tI [(-1), (-1), (-1), (-1), (-1), (-1), (-1), (-1), (-1), (-1), (-1), (-1), (-1), (-1), (-1), (-1), (-1), (-1), 0] (-1)))), (a0, .inr (7, [.ref a1, .ref a3, .int 0, .ref a5, .ref a8, .ref a9, .int 1, .ref a18, .int 0, .null, .ref a27, .int 0, .ref a28, .ref a29, .ref a30, .ref a31, .ref a32])), (a1, .inr (4, [.int 2, .int 0, .int 1, .ref a2])), (a31, .inl (k 1, 9, .inr (.inl (tL [1, 0, 0, 1] 0)))), (a9, .inr (3, [.ref a11, .ref a12, .ref a13, .ref a14, .ref a15, .ref a16, .ref a17, .ref a10, .int 4, .int 100, .int 1, .int 1])), (a32, .inl (k 1, 9, .inr (.inl (tL [1, 0, 0, 1] 0)))), (a11, .inl (k 1, 900, .inr (.inl (tL [1, 0, 0, 1] 0))))] := hD
    refine lv_if_ne (tgt := 50) hx hb dX10_form_41 (by decide) (fun _ => ?_) (fun cc => absurd cc (by decide +kernel))
    refine lv_aload_n hx hb dX10_form_50 rfl (lv_at hl 0 rfl) ?_
    refine va_get (D := D) (ci := 7) (v := .ref a31) (C := RX10) (T := TX10) (N := 17) hx hb hU iX10 hown hK.1 hP 6 rfl rfl 15 (by decide) (hU _ w264) (fun _ h9 => h9) rfl dX10_form_51 ?_
    refine lv_aload_n hx hb dX10_form_54 rfl (lv_at hl 0 rfl) ?_
    refine va_get (D := D) (ci := 7) (v := .ref a1) (C := RX10) (T := TX10) (N := 17) hx hb hU iX10 hown hK.1 hP 6 rfl rfl 0 (by decide) (hU _ w249) (fun _ h9 => h9) rfl dX10_form_55 ?_
    refine cI (rV (q0 := 7) (ci := 4) (As := []) (rest := [.ref a31]) (wc := [(a1, .inr (4, [.int 2, .int 0, .int 1, .ref a2]))]) hx hb hml hown hU hK hP hD rfl rfl [7] rfl (by decide) (cX5_cellCount_1 l D k _ a1 a2) w385 w382 w383 w384 w64 hdX5_cellCount ⟨rfl, rfl⟩ ⟨Nat.le_of_ble_eq_true rfl, Nat.le_of_ble_eq_true rfl⟩ rfl hl.1 (Nat.le_of_ble_eq_true rfl) dX10_form_58 ⟨Nat.le_of_ble_eq_true rfl, Nat.le_of_ble_eq_true rfl⟩) hP hD hS hA (wr := [(a28, .inr (2, [.ref a1, .int 0])), (a12, .inl (k 0, 100, .inl (tI [(-3)] 0))), (a13, .inl (k 0, 100, .inl (tI [(-3)] 0))), (a14, .inl (k 0, 100, .inl (tI [0] 0))), (a17, .inl (k 0, 100, .inl (tI [(-1)] 0))), (a16, .inl (k 0, 256, .inl (tI [(-1), (-1), (-1), (-1), (-1), (-1), (-1), (-1), (-1), (-1), (-1), (-1), (-1), (-1), (-1), (-1), (-1), (-1), 0] (-1)))), (a0, .inr (7, [.ref a1, .ref a3, .int 0, .ref a5, .ref a8, .ref a9, .int 1, .ref a18, .int 0, .null, .ref a27, .int 0, .ref a28, .ref a29, .ref a30, .ref a31, .ref a32])), (a31, .inl (k 1, 9, .inr (.inl (tL [1, 0, 0, 1] 0)))), (a9, .inr (3, [.ref a11, .ref a12, .ref a13, .ref a14, .ref a15, .ref a16, .ref a17, .ref a10, .int 4, .int 100, .int 1, .int 1])), (a32, .inl (k 1, 9, .inr (.inl (tL [1, 0, 0, 1] 0)))), (a11, .inl (k 1, 900, .inr (.inl (tL [1, 0, 0, 1] 0))))]) [7] [0, 1, 2, 3, 4, 5, 6, 8, 9, 10, 11] rfl rfl (by decide) (by decide) (fun r22 H locs hB J hS => ?_)
    obtain ⟨rfl, hP1, hD1⟩ := hB
    obtain ⟨hP, hD⟩ := J _ hP1 hD1
    have hP : va_P D cl0 [(a28, .inr (2, [.ref a1, .int 0])), (a12, .inl (k 0, 100, .inl (tI [(-3)] 0))), (a13, .inl (k 0, 100, .inl (tI [(-3)] 0))), (a14, .inl (k 0, 100, .inl (tI [0] 0))), (a17, .inl (k 0, 100, .inl (tI [(-1)] 0))), (a16, .inl (k 0, 256, .inl (tI [(-1), (-1), (-1), (-1), (-1), (-1), (-1), (-1), (-1), (-1), (-1), (-1), (-1), (-1), (-1), (-1), (-1), (-1), 0] (-1)))), (a0, .inr (7, [.ref a1, .ref a3, .int 0, .ref a5, .ref a8, .ref a9, .int 1, .ref a18, .int 0, .null, .ref a27, .int 0, .ref a28, .ref a29, .ref a30, .ref a31, .ref a32])), (a31, .inl (k 1, 9, .inr (.inl (tL [1, 0, 0, 1] 0)))), (a9, .inr (3, [.ref a11, .ref a12, .ref a13, .ref a14, .ref a15, .ref a16, .ref a17, .ref a10, .int 4, .int 100, .int 1, .int 1])), (a32, .inl (k 1, 9, .inr (.inl (tL [1, 0, 0, 1] 0)))), (a11, .inl (k 1, 900, .inr (.inl (tL [1, 0, 0, 1] 0)))), (a1, .inr (4, [.int 2, .int 0, .int 1, .ref a2]))] H := hP
    have hD : va_D A [(a28, .inr (2, [.ref a1, .int 0])), (a12, .inl (k 0, 100, .inl (tI [(-3)] 0))), (a13, .inl (k 0, 100, .inl (tI [(-3)] 0))), (a14, .inl (k 0, 100, .inl (tI [0] 0))), (a17, .inl (k 0, 100, .inl (tI [(-1)] 0))), (a16, .inl (k 0, 256, .inl (tI [(-1), (-1), (-1), (-1), (-1), (-1), (-1), (-1), (-1), (-1), (-1), (-1), (-1), (-1), (-1), (-1), (-1), (-1), 0] (-1)))), (a0, .inr (7, [.ref a1, .ref a3, .int 0, .ref a5, .ref a8, .ref a9, .int 1, .ref a18, .int 0, .null, .ref a27, .int 0, .ref a28, .ref a29, .ref a30, .ref a31, .ref a32])), (a31, .inl (k 1, 9, .inr (.inl (tL [1, 0, 0, 1] 0)))), (a9, .inr (3, [.ref a11, .ref a12, .ref a13, .ref a14, .ref a15, .ref a16, .ref a17, .ref a10, .int 4, .int 100, .int 1, .int 1])), (a32, .inl (k 1, 9, .inr (.inl (tL [1, 0, 0, 1] 0)))), (a11, .inl (k 1, 900, .inr (.inl (tL [1, 0, 0, 1] 0)))), (a1, .inr (4, [.int 2, .int 0, .int 1, .ref a2]))] := hD
    refine cL (rS (As := [.ref a31, .int 4]) (rest := []) (wc := [(a31, .inl (k 1, 9, .inr (.inl (tL [1, 0, 0, 1] 0))))]) hx hb hml hown hU hK hP hD [7] rfl (by decide) (cX7_commonDivisor_1 l D k _ a31) w623 w621 w622 w74 hdX7_commonDivisor ⟨rfl, rfl⟩ ⟨Nat.le_of_ble_eq_true rfl, Nat.le_of_ble_eq_true rfl⟩ rfl hl.1 (Nat.le_of_ble_eq_true rfl) dX10_form_61 ⟨Nat.le_of_ble_eq_true rfl, Nat.le_of_ble_eq_true rfl⟩) hP hD hS hA (wr := [(a28, .inr (2, [.ref a1, .int 0])), (a12, .inl (k 0, 100, .inl (tI [(-3)] 0))), (a13, .inl (k 0, 100, .inl (tI [(-3)] 0))), (a14, .inl (k 0, 100, .inl (tI [0] 0))), (a17, .inl (k 0, 100, .inl (tI [(-1)] 0))), (a16, .inl (k 0, 256, .inl (tI [(-1), (-1), (-1), (-1), (-1), (-1), (-1), (-1), (-1), (-1), (-1), (-1), (-1), (-1), (-1), (-1), (-1), (-1), 0] (-1)))), (a0, .inr (7, [.ref a1, .ref a3, .int 0, .ref a5, .ref a8, .ref a9, .int 1, .ref a18, .int 0, .null, .ref a27, .int 0, .ref a28, .ref a29, .ref a30, .ref a31, .ref a32])), (a9, .inr (3, [.ref a11, .ref a12, .ref a13, .ref a14, .ref a15, .ref a16, .ref a17, .ref a10, .int 4, .int 100, .int 1, .int 1])), (a32, .inl (k 1, 9, .inr (.inl (tL [1, 0, 0, 1] 0)))), (a11, .inl (k 1, 900, .inr (.inl (tL [1, 0, 0, 1] 0)))), (a1, .inr (4, [.int 2, .int 0, .int 1, .ref a2]))]) [7] [0, 1, 2, 3, 4, 5, 6, 8, 9, 10, 11] rfl rfl (by decide) (by decide) (fun r23 H locs hB J hS => ?_)
    obtain ⟨rfl, hP1, hD1⟩ := hB
    obtain ⟨hP, hD⟩ := J _ hP1 hD1
    have hP : va_P D cl0 [(a28, .inr (2, [.ref a1, .int 0])), (a12, .inl (k 0, 100, .inl (tI [(-3)] 0))), (a13, .inl (k 0, 100, .inl (tI [(-3)] 0))), (a14, .inl (k 0, 100, .inl (tI [0] 0))), (a17, .inl (k 0, 100, .inl (tI [(-1)] 0))), (a16, .inl (k 0, 256, .inl (tI [(-1), (-1), (-1), (-1), (-1), (-1), (-1), (-1), (-1), (-1), (-1), (-1), (-1), (-1), (-1), (-1), (-1), (-1), 0] (-1)))), (a0, .inr (7, [.ref a1, .ref a3, .int 0, .ref a5, .ref a8, .ref a9, .int 1, .ref a18, .int 0, .null, .ref a27, .int 0, .ref a28, .ref a29, .ref a30, .ref a31, .ref a32])), (a9, .inr (3, [.ref a11, .ref a12, .ref a13, .ref a14, .ref a15, .ref a16, .ref a17, .ref a10, .int 4, .int 100, .int 1, .int 1])), (a32, .inl (k 1, 9, .inr (.inl (tL [1, 0, 0, 1] 0)))), (a11, .inl (k 1, 900, .inr (.inl (tL [1, 0, 0, 1] 0)))), (a1, .inr (4, [.int 2, .int 0, .int 1, .ref a2])), (a31, .inl (k 1, 9, .inr (.inl (tL [1, 0, 0, 1] 0))))] H := hP
    have hD : va_D A [(a28, .inr (2, [.ref a1, .int 0])), (a12, .inl (k 0, 100, .inl (tI [(-3)] 0))), (a13, .inl (k 0, 100, .inl (tI [(-3)] 0))), (a14, .inl (k 0, 100, .inl (tI [0] 0))), (a17, .inl (k 0, 100, .inl (tI [(-1)] 0))), (a16, .inl (k 0, 256, .inl (tI [(-1), (-1), (-1), (-1), (-1), (-1), (-1), (-1), (-1), (-1), (-1), (-1), (-1), (-1), (-1), (-1), (-1), (-1), 0] (-1)))), (a0, .inr (7, [.ref a1, .ref a3, .int 0, .ref a5, .ref a8, .ref a9, .int 1, .ref a18, .int 0, .null, .ref a27, .int 0, .ref a28, .ref a29, .ref a30, .ref a31, .ref a32])), (a9, .inr (3, [.ref a11, .ref a12, .ref a13, .ref a14, .ref a15, .ref a16, .ref a17, .ref a10, .int 4, .int 100, .int 1, .int 1])), (a32, .inl (k 1, 9, .inr (.inl (tL [1, 0, 0, 1] 0)))), (a11, .inl (k 1, 900, .inr (.inl (tL [1, 0, 0, 1] 0)))), (a1, .inr (4, [.int 2, .int 0, .int 1, .ref a2])), (a31, .inl (k 1, 9, .inr (.inl (tL [1, 0, 0, 1] 0))))] := hD
    refine lv_lstore_n (lv' := [(3, .long 1), (0, .ref a0), (1, .int x0), (2, .int x1)]) hx hb dX10_form_64 rfl hl (by decide) rfl (fun ls hl => ?_)
    refine lv_aload_n hx hb dX10_form_65 rfl (lv_at hl 1 rfl) ?_
    refine va_get (D := D) (ci := 7) (v := .ref a31) (C := RX10) (T := TX10) (N := 17) hx hb hU iX10 hown hK.1 hP 6 rfl rfl 15 (by decide) (hU _ w264) (fun _ h9 => h9) rfl dX10_form_66 ?_
    refine lv_iload_n hx hb dX10_form_69 rfl (lv_at hl 2 rfl) ?_
    refine lv_aload_n hx hb dX10_form_70 rfl (lv_at hl 1 rfl) ?_
    refine va_get (D := D) (ci := 7) (v := .ref a1) (C := RX10) (T := TX10) (N := 17) hx hb hU iX10 hown hK.1 hP 6 rfl rfl 0 (by decide) (hU _ w249) (fun _ h9 => h9) rfl dX10_form_71 ?_
    refine va_get (D := D) (ci := 4) (v := .int 2) (C := RX5) (T := TX5) (N := 4) hx hb hU iX5 hown hK.1 hP 10 rfl rfl 0 (by decide) (hU _ w93) (fun _ h9 => h9) rfl dX10_form_74 ?_
    refine lv_imul hx hb dX10_form_77 ?_
    refine lv_iload_n hx hb dX10_form_78 rfl (lv_at hl 3 rfl) ?_
    refine lv_iadd hx hb dX10_form_79 ?_
    have hsp : x0.toInt = 0 ∨ x0.toInt = 1 := by
      have f0 := cv_nlt (x := x0.toInt) (y := 0) c_12 rfl (by decide +kernel)
      have f1 := cv_nle (x := 2) (y := x0.toInt) c_13 (by decide +kernel) rfl
      have f2 := cv_nlt (x := x1.toInt) (y := 0) c_14 rfl (by decide +kernel)
      have f3 := cv_nle (x := 2) (y := x1.toInt) c_15 (by decide +kernel) rfl
      omega
    rcases hsp with hsp | hsp
    · skip
      obtain rfl : x0 = 0 := eq32 hsp (by decide +kernel)
      have hsp : x1.toInt = 0 ∨ x1.toInt = 1 := by
        have f2 := cv_nlt (x := x1.toInt) (y := 0) c_14 rfl (by decide +kernel)
        have f3 := cv_nle (x := 2) (y := x1.toInt) c_15 (by decide +kernel) rfl
        have g_0 : (0 : Int32).toInt = 0 := (by decide +kernel)
        omega
      rcases hsp with hsp | hsp
      · skip
        obtain rfl : x1 = 0 := eq32 hsp (by decide +kernel)
        refine sv_i (v := 0) (by decide +kernel) ?_
        refine ld_l (j := 0) (v := 1) hx hb hK hP 11 rfl (by decide +kernel) rfl dX10_form_80 ?_
        refine lv_lconst (v := 1) hx hb dX10_form_81 (by decide) ?_
        refine lv_lload_n hx hb dX10_form_82 rfl (lv_at hl 0 rfl) ?_
        refine cL (rS (As := [.long 1, .long 1]) (rest := [.long 1]) (wc := []) hx hb hml hown hU hK hP hD [] rfl (by decide) (cJ9_max_f86c9_1 l D k _ ) w629 w627 w628 w77 hdJ9_max_f86c9 ⟨rfl, rfl⟩ ⟨Nat.le_of_ble_eq_true rfl, Nat.le_of_ble_eq_true rfl⟩ rfl hl.1 (Nat.le_of_ble_eq_true rfl) dX10_form_83 ⟨Nat.le_of_ble_eq_true rfl, Nat.le_of_ble_eq_true rfl⟩) hP hD hS hA (wr := [(a28, .inr (2, [.ref a1, .int 0])), (a12, .inl (k 0, 100, .inl (tI [(-3)] 0))), (a13, .inl (k 0, 100, .inl (tI [(-3)] 0))), (a14, .inl (k 0, 100, .inl (tI [0] 0))), (a17, .inl (k 0, 100, .inl (tI [(-1)] 0))), (a16, .inl (k 0, 256, .inl (tI [(-1), (-1), (-1), (-1), (-1), (-1), (-1), (-1), (-1), (-1), (-1), (-1), (-1), (-1), (-1), (-1), (-1), (-1), 0] (-1)))), (a0, .inr (7, [.ref a1, .ref a3, .int 0, .ref a5, .ref a8, .ref a9, .int 1, .ref a18, .int 0, .null, .ref a27, .int 0, .ref a28, .ref a29, .ref a30, .ref a31, .ref a32])), (a9, .inr (3, [.ref a11, .ref a12, .ref a13, .ref a14, .ref a15, .ref a16, .ref a17, .ref a10, .int 4, .int 100, .int 1, .int 1])), (a32, .inl (k 1, 9, .inr (.inl (tL [1, 0, 0, 1] 0)))), (a11, .inl (k 1, 900, .inr (.inl (tL [1, 0, 0, 1] 0)))), (a1, .inr (4, [.int 2, .int 0, .int 1, .ref a2])), (a31, .inl (k 1, 9, .inr (.inl (tL [1, 0, 0, 1] 0))))]) [] [0, 1, 2, 3, 4, 5, 6, 7, 8, 9, 10, 11] rfl rfl (by decide) (by decide) (fun r24 H locs hB J hS => ?_)
        obtain ⟨rfl, hP1, hD1⟩ := hB
        obtain ⟨hP, hD⟩ := J _ hP1 hD1
        have hP : va_P D cl0 [(a28, .inr (2, [.ref a1, .int 0])), (a12, .inl (k 0, 100, .inl (tI [(-3)] 0))), (a13, .inl (k 0, 100, .inl (tI [(-3)] 0))), (a14, .inl (k 0, 100, .inl (tI [0] 0))), (a17, .inl (k 0, 100, .inl (tI [(-1)] 0))), (a16, .inl (k 0, 256, .inl (tI [(-1), (-1), (-1), (-1), (-1), (-1), (-1), (-1), (-1), (-1), (-1), (-1), (-1), (-1), (-1), (-1), (-1), (-1), 0] (-1)))), (a0, .inr (7, [.ref a1, .ref a3, .int 0, .ref a5, .ref a8, .ref a9, .int 1, .ref a18, .int 0, .null, .ref a27, .int 0, .ref a28, .ref a29, .ref a30, .ref a31, .ref a32])), (a9, .inr (3, [.ref a11, .ref a12, .ref a13, .ref a14, .ref a15, .ref a16, .ref a17, .ref a10, .int 4, .int 100, .int 1, .int 1])), (a32, .inl (k 1, 9, .inr (.inl (tL [1, 0, 0, 1] 0)))), (a11, .inl (k 1, 900, .inr (.inl (tL [1, 0, 0, 1] 0)))), (a1, .inr (4, [.int 2, .int 0, .int 1, .ref a2])), (a31, .inl (k 1, 9, .inr (.inl (tL [1, 0, 0, 1] 0))))] H := hP
        have hD : va_D A [(a28, .inr (2, [.ref a1, .int 0])), (a12, .inl (k 0, 100, .inl (tI [(-3)] 0))), (a13, .inl (k 0, 100, .inl (tI [(-3)] 0))), (a14, .inl (k 0, 100, .inl (tI [0] 0))), (a17, .inl (k 0, 100, .inl (tI [(-1)] 0))), (a16, .inl (k 0, 256, .inl (tI [(-1), (-1), (-1), (-1), (-1), (-1), (-1), (-1), (-1), (-1), (-1), (-1), (-1), (-1), (-1), (-1), (-1), (-1), 0] (-1)))), (a0, .inr (7, [.ref a1, .ref a3, .int 0, .ref a5, .ref a8, .ref a9, .int 1, .ref a18, .int 0, .null, .ref a27, .int 0, .ref a28, .ref a29, .ref a30, .ref a31, .ref a32])), (a9, .inr (3, [.ref a11, .ref a12, .ref a13, .ref a14, .ref a15, .ref a16, .ref a17, .ref a10, .int 4, .int 100, .int 1, .int 1])), (a32, .inl (k 1, 9, .inr (.inl (tL [1, 0, 0, 1] 0)))), (a11, .inl (k 1, 900, .inr (.inl (tL [1, 0, 0, 1] 0)))), (a1, .inr (4, [.int 2, .int 0, .int 1, .ref a2])), (a31, .inl (k 1, 9, .inr (.inl (tL [1, 0, 0, 1] 0))))] := hD
        refine lv_ldiv hx hb dX10_form_86 (by decide +kernel) (sv_l (v := 1) (by decide +kernel) ?_)
        exact retL (v := 1) hx hb hr hlocks hS (show (1 : Int64) = F_form 0 0 by first | decide +kernel | (have g_0 : (0 : Int32).toInt = 0 := (by decide +kernel); unfold F_form; (repeat (first | rw [if_pos (by omega)] | rw [if_neg (by omega)])))) dX10_form_87
      · skip
        obtain rfl : x1 = 1 := eq32 hsp (by decide +kernel)
        refine sv_i (v := 1) (by decide +kernel) ?_
        refine ld_l (j := 1) (v := 0) hx hb hK hP 11 rfl (by decide +kernel) rfl dX10_form_80 ?_
        refine lv_lconst (v := 1) hx hb dX10_form_81 (by decide) ?_
        refine lv_lload_n hx hb dX10_form_82 rfl (lv_at hl 0 rfl) ?_
        refine cL (rS (As := [.long 1, .long 1]) (rest := [.long 0]) (wc := []) hx hb hml hown hU hK hP hD [] rfl (by decide) (cJ9_max_f86c9_1 l D k _ ) w629 w627 w628 w77 hdJ9_max_f86c9 ⟨rfl, rfl⟩ ⟨Nat.le_of_ble_eq_true rfl, Nat.le_of_ble_eq_true rfl⟩ rfl hl.1 (Nat.le_of_ble_eq_true rfl) dX10_form_83 ⟨Nat.le_of_ble_eq_true rfl, Nat.le_of_ble_eq_true rfl⟩) hP hD hS hA (wr := [(a28, .inr (2, [.ref a1, .int 0])), (a12, .inl (k 0, 100, .inl (tI [(-3)] 0))), (a13, .inl (k 0, 100, .inl (tI [(-3)] 0))), (a14, .inl (k 0, 100, .inl (tI [0] 0))), (a17, .inl (k 0, 100, .inl (tI [(-1)] 0))), (a16, .inl (k 0, 256, .inl (tI [(-1), (-1), (-1), (-1), (-1), (-1), (-1), (-1), (-1), (-1), (-1), (-1), (-1), (-1), (-1), (-1), (-1), (-1), 0] (-1)))), (a0, .inr (7, [.ref a1, .ref a3, .int 0, .ref a5, .ref a8, .ref a9, .int 1, .ref a18, .int 0, .null, .ref a27, .int 0, .ref a28, .ref a29, .ref a30, .ref a31, .ref a32])), (a9, .inr (3, [.ref a11, .ref a12, .ref a13, .ref a14, .ref a15, .ref a16, .ref a17, .ref a10, .int 4, .int 100, .int 1, .int 1])), (a32, .inl (k 1, 9, .inr (.inl (tL [1, 0, 0, 1] 0)))), (a11, .inl (k 1, 900, .inr (.inl (tL [1, 0, 0, 1] 0)))), (a1, .inr (4, [.int 2, .int 0, .int 1, .ref a2])), (a31, .inl (k 1, 9, .inr (.inl (tL [1, 0, 0, 1] 0))))]) [] [0, 1, 2, 3, 4, 5, 6, 7, 8, 9, 10, 11] rfl rfl (by decide) (by decide) (fun r25 H locs hB J hS => ?_)
        obtain ⟨rfl, hP1, hD1⟩ := hB
        obtain ⟨hP, hD⟩ := J _ hP1 hD1
        have hP : va_P D cl0 [(a28, .inr (2, [.ref a1, .int 0])), (a12, .inl (k 0, 100, .inl (tI [(-3)] 0))), (a13, .inl (k 0, 100, .inl (tI [(-3)] 0))), (a14, .inl (k 0, 100, .inl (tI [0] 0))), (a17, .inl (k 0, 100, .inl (tI [(-1)] 0))), (a16, .inl (k 0, 256, .inl (tI [(-1), (-1), (-1), (-1), (-1), (-1), (-1), (-1), (-1), (-1), (-1), (-1), (-1), (-1), (-1), (-1), (-1), (-1), 0] (-1)))), (a0, .inr (7, [.ref a1, .ref a3, .int 0, .ref a5, .ref a8, .ref a9, .int 1, .ref a18, .int 0, .null, .ref a27, .int 0, .ref a28, .ref a29, .ref a30, .ref a31, .ref a32])), (a9, .inr (3, [.ref a11, .ref a12, .ref a13, .ref a14, .ref a15, .ref a16, .ref a17, .ref a10, .int 4, .int 100, .int 1, .int 1])), (a32, .inl (k 1, 9, .inr (.inl (tL [1, 0, 0, 1] 0)))), (a11, .inl (k 1, 900, .inr (.inl (tL [1, 0, 0, 1] 0)))), (a1, .inr (4, [.int 2, .int 0, .int 1, .ref a2])), (a31, .inl (k 1, 9, .inr (.inl (tL [1, 0, 0, 1] 0))))] H := hP
        have hD : va_D A [(a28, .inr (2, [.ref a1, .int 0])), (a12, .inl (k 0, 100, .inl (tI [(-3)] 0))), (a13, .inl (k 0, 100, .inl (tI [(-3)] 0))), (a14, .inl (k 0, 100, .inl (tI [0] 0))), (a17, .inl (k 0, 100, .inl (tI [(-1)] 0))), (a16, .inl (k 0, 256, .inl (tI [(-1), (-1), (-1), (-1), (-1), (-1), (-1), (-1), (-1), (-1), (-1), (-1), (-1), (-1), (-1), (-1), (-1), (-1), 0] (-1)))), (a0, .inr (7, [.ref a1, .ref a3, .int 0, .ref a5, .ref a8, .ref a9, .int 1, .ref a18, .int 0, .null, .ref a27, .int 0, .ref a28, .ref a29, .ref a30, .ref a31, .ref a32])), (a9, .inr (3, [.ref a11, .ref a12, .ref a13, .ref a14, .ref a15, .ref a16, .ref a17, .ref a10, .int 4, .int 100, .int 1, .int 1])), (a32, .inl (k 1, 9, .inr (.inl (tL [1, 0, 0, 1] 0)))), (a11, .inl (k 1, 900, .inr (.inl (tL [1, 0, 0, 1] 0)))), (a1, .inr (4, [.int 2, .int 0, .int 1, .ref a2])), (a31, .inl (k 1, 9, .inr (.inl (tL [1, 0, 0, 1] 0))))] := hD
        refine lv_ldiv hx hb dX10_form_86 (by decide +kernel) (sv_l (v := 0) (by decide +kernel) ?_)
        exact retL (v := 0) hx hb hr hlocks hS (show (0 : Int64) = F_form 0 1 by first | decide +kernel | (have g_0 : (0 : Int32).toInt = 0 := (by decide +kernel); have g_1 : (1 : Int32).toInt = 1 := (by decide +kernel); unfold F_form; (repeat (first | rw [if_pos (by omega)] | rw [if_neg (by omega)])))) dX10_form_87
    · skip
      obtain rfl : x0 = 1 := eq32 hsp (by decide +kernel)
      have hsp : x1.toInt = 0 ∨ x1.toInt = 1 := by
        have f2 := cv_nlt (x := x1.toInt) (y := 0) c_14 rfl (by decide +kernel)
        have f3 := cv_nle (x := 2) (y := x1.toInt) c_15 (by decide +kernel) rfl
        have g_1 : (1 : Int32).toInt = 1 := (by decide +kernel)
        omega
      rcases hsp with hsp | hsp
      · skip
        obtain rfl : x1 = 0 := eq32 hsp (by decide +kernel)
        refine sv_i (v := 2) (by decide +kernel) ?_
        refine ld_l (j := 2) (v := 0) hx hb hK hP 11 rfl (by decide +kernel) rfl dX10_form_80 ?_
        refine lv_lconst (v := 1) hx hb dX10_form_81 (by decide) ?_
        refine lv_lload_n hx hb dX10_form_82 rfl (lv_at hl 0 rfl) ?_
        refine cL (rS (As := [.long 1, .long 1]) (rest := [.long 0]) (wc := []) hx hb hml hown hU hK hP hD [] rfl (by decide) (cJ9_max_f86c9_1 l D k _ ) w629 w627 w628 w77 hdJ9_max_f86c9 ⟨rfl, rfl⟩ ⟨Nat.le_of_ble_eq_true rfl, Nat.le_of_ble_eq_true rfl⟩ rfl hl.1 (Nat.le_of_ble_eq_true rfl) dX10_form_83 ⟨Nat.le_of_ble_eq_true rfl, Nat.le_of_ble_eq_true rfl⟩) hP hD hS hA (wr := [(a28, .inr (2, [.ref a1, .int 0])), (a12, .inl (k 0, 100, .inl (tI [(-3)] 0))), (a13, .inl (k 0, 100, .inl (tI [(-3)] 0))), (a14, .inl (k 0, 100, .inl (tI [0] 0))), (a17, .inl (k 0, 100, .inl (tI [(-1)] 0))), (a16, .inl (k 0, 256, .inl (tI [(-1), (-1), (-1), (-1), (-1), (-1), (-1), (-1), (-1), (-1), (-1), (-1), (-1), (-1), (-1), (-1), (-1), (-1), 0] (-1)))), (a0, .inr (7, [.ref a1, .ref a3, .int 0, .ref a5, .ref a8, .ref a9, .int 1, .ref a18, .int 0, .null, .ref a27, .int 0, .ref a28, .ref a29, .ref a30, .ref a31, .ref a32])), (a9, .inr (3, [.ref a11, .ref a12, .ref a13, .ref a14, .ref a15, .ref a16, .ref a17, .ref a10, .int 4, .int 100, .int 1, .int 1])), (a32, .inl (k 1, 9, .inr (.inl (tL [1, 0, 0, 1] 0)))), (a11, .inl (k 1, 900, .inr (.inl (tL [1, 0, 0, 1] 0)))), (a1, .inr (4, [.int 2, .int 0, .int 1, .ref a2])), (a31, .inl (k 1, 9, .inr (.inl (tL [1, 0, 0, 1] 0))))]) [] [0, 1, 2, 3, 4, 5, 6, 7, 8, 9, 10, 11] rfl rfl (by decide) (by decide) (fun r26 H locs hB J hS => ?_)
        obtain ⟨rfl, hP1, hD1⟩ := hB
        obtain ⟨hP, hD⟩ := J _ hP1 hD1
        have hP : va_P D cl0 [(a28, .inr (2, [.ref a1, .int 0])), (a12, .inl (k 0, 100, .inl (tI [(-3)] 0))), (a13, .inl (k 0, 100, .inl (tI [(-3)] 0))), (a14, .inl (k 0, 100, .inl (tI [0] 0))), (a17, .inl (k 0, 100, .inl (tI [(-1)] 0))), (a16, .inl (k 0, 256, .inl (tI [(-1), (-1), (-1), (-1), (-1), (-1), (-1), (-1), (-1), (-1), (-1), (-1), (-1), (-1), (-1), (-1), (-1), (-1), 0] (-1)))), (a0, .inr (7, [.ref a1, .ref a3, .int 0, .ref a5, .ref a8, .ref a9, .int 1, .ref a18, .int 0, .null, .ref a27, .int 0, .ref a28, .ref a29, .ref a30, .ref a31, .ref a32])), (a9, .inr (3, [.ref a11, .ref a12, .ref a13, .ref a14, .ref a15, .ref a16, .ref a17, .ref a10, .int 4, .int 100, .int 1, .int 1])), (a32, .inl (k 1, 9, .inr (.inl (tL [1, 0, 0, 1] 0)))), (a11, .inl (k 1, 900, .inr (.inl (tL [1, 0, 0, 1] 0)))), (a1, .inr (4, [.int 2, .int 0, .int 1, .ref a2])), (a31, .inl (k 1, 9, .inr (.inl (tL [1, 0, 0, 1] 0))))] H := hP
        have hD : va_D A [(a28, .inr (2, [.ref a1, .int 0])), (a12, .inl (k 0, 100, .inl (tI [(-3)] 0))), (a13, .inl (k 0, 100, .inl (tI [(-3)] 0))), (a14, .inl (k 0, 100, .inl (tI [0] 0))), (a17, .inl (k 0, 100, .inl (tI [(-1)] 0))), (a16, .inl (k 0, 256, .inl (tI [(-1), (-1), (-1), (-1), (-1), (-1), (-1), (-1), (-1), (-1), (-1), (-1), (-1), (-1), (-1), (-1), (-1), (-1), 0] (-1)))), (a0, .inr (7, [.ref a1, .ref a3, .int 0, .ref a5, .ref a8, .ref a9, .int 1, .ref a18, .int 0, .null, .ref a27, .int 0, .ref a28, .ref a29, .ref a30, .ref a31, .ref a32])), (a9, .inr (3, [.ref a11, .ref a12, .ref a13, .ref a14, .ref a15, .ref a16, .ref a17, .ref a10, .int 4, .int 100, .int 1, .int 1])), (a32, .inl (k 1, 9, .inr (.inl (tL [1, 0, 0, 1] 0)))), (a11, .inl (k 1, 900, .inr (.inl (tL [1, 0, 0, 1] 0)))), (a1, .inr (4, [.int 2, .int 0, .int 1, .ref a2])), (a31, .inl (k 1, 9, .inr (.inl (tL [1, 0, 0, 1] 0))))] := hD
        refine lv_ldiv hx hb dX10_form_86 (by decide +kernel) (sv_l (v := 0) (by decide +kernel) ?_)
        exact retL (v := 0) hx hb hr hlocks hS (show (0 : Int64) = F_form 1 0 by first | decide +kernel | (have g_0 : (0 : Int32).toInt = 0 := (by decide +kernel); have g_1 : (1 : Int32).toInt = 1 := (by decide +kernel); unfold F_form; (repeat (first | rw [if_pos (by omega)] | rw [if_neg (by omega)])))) dX10_form_87
      · skip
        obtain rfl : x1 = 1 := eq32 hsp (by decide +kernel)
        refine sv_i (v := 3) (by decide +kernel) ?_
        refine ld_l (j := 3) (v := 1) hx hb hK hP 11 rfl (by decide +kernel) rfl dX10_form_80 ?_
        refine lv_lconst (v := 1) hx hb dX10_form_81 (by decide) ?_
        refine lv_lload_n hx hb dX10_form_82 rfl (lv_at hl 0 rfl) ?_
        refine cL (rS (As := [.long 1, .long 1]) (rest := [.long 1]) (wc := []) hx hb hml hown hU hK hP hD [] rfl (by decide) (cJ9_max_f86c9_1 l D k _ ) w629 w627 w628 w77 hdJ9_max_f86c9 ⟨rfl, rfl⟩ ⟨Nat.le_of_ble_eq_true rfl, Nat.le_of_ble_eq_true rfl⟩ rfl hl.1 (Nat.le_of_ble_eq_true rfl) dX10_form_83 ⟨Nat.le_of_ble_eq_true rfl, Nat.le_of_ble_eq_true rfl⟩) hP hD hS hA (wr := [(a28, .inr (2, [.ref a1, .int 0])), (a12, .inl (k 0, 100, .inl (tI [(-3)] 0))), (a13, .inl (k 0, 100, .inl (tI [(-3)] 0))), (a14, .inl (k 0, 100, .inl (tI [0] 0))), (a17, .inl (k 0, 100, .inl (tI [(-1)] 0))), (a16, .inl (k 0, 256, .inl (tI [(-1), (-1), (-1), (-1), (-1), (-1), (-1), (-1), (-1), (-1), (-1), (-1), (-1), (-1), (-1), (-1), (-1), (-1), 0] (-1)))), (a0, .inr (7, [.ref a1, .ref a3, .int 0, .ref a5, .ref a8, .ref a9, .int 1, .ref a18, .int 0, .null, .ref a27, .int 0, .ref a28, .ref a29, .ref a30, .ref a31, .ref a32])), (a9, .inr (3, [.ref a11, .ref a12, .ref a13, .ref a14, .ref a15, .ref a16, .ref a17, .ref a10, .int 4, .int 100, .int 1, .int 1])), (a32, .inl (k 1, 9, .inr (.inl (tL [1, 0, 0, 1] 0)))), (a11, .inl (k 1, 900, .inr (.inl (tL [1, 0, 0, 1] 0)))), (a1, .inr (4, [.int 2, .int 0, .int 1, .ref a2])), (a31, .inl (k 1, 9, .inr (.inl (tL [1, 0, 0, 1] 0))))]) [] [0, 1, 2, 3, 4, 5, 6, 7, 8, 9, 10, 11] rfl rfl (by decide) (by decide) (fun r27 H locs hB J hS => ?_)
        obtain ⟨rfl, hP1, hD1⟩ := hB
        obtain ⟨hP, hD⟩ := J _ hP1 hD1
        have hP : va_P D cl0 [(a28, .inr (2, [.ref a1, .int 0])), (a12, .inl (k 0, 100, .inl (tI [(-3)] 0))), (a13, .inl (k 0, 100, .inl (tI [(-3)] 0))), (a14, .inl (k 0, 100, .inl (tI [0] 0))), (a17, .inl (k 0, 100, .inl (tI [(-1)] 0))), (a16, .inl (k 0, 256, .inl (tI [(-1), (-1), (-1), (-1), (-1), (-1), (-1), (-1), (-1), (-1), (-1), (-1), (-1), (-1), (-1), (-1), (-1), (-1), 0] (-1)))), (a0, .inr (7, [.ref a1, .ref a3, .int 0, .ref a5, .ref a8, .ref a9, .int 1, .ref a18, .int 0, .null, .ref a27, .int 0, .ref a28, .ref a29, .ref a30, .ref a31, .ref a32])), (a9, .inr (3, [.ref a11, .ref a12, .ref a13, .ref a14, .ref a15, .ref a16, .ref a17, .ref a10, .int 4, .int 100, .int 1, .int 1])), (a32, .inl (k 1, 9, .inr (.inl (tL [1, 0, 0, 1] 0)))), (a11, .inl (k 1, 900, .inr (.inl (tL [1, 0, 0, 1] 0)))), (a1, .inr (4, [.int 2, .int 0, .int 1, .ref a2])), (a31, .inl (k 1, 9, .inr (.inl (tL [1, 0, 0, 1] 0))))] H := hP
        have hD : va_D A [(a28, .inr (2, [.ref a1, .int 0])), (a12, .inl (k 0, 100, .inl (tI [(-3)] 0))), (a13, .inl (k 0, 100, .inl (tI [(-3)] 0))), (a14, .inl (k 0, 100, .inl (tI [0] 0))), (a17, .inl (k 0, 100, .inl (tI [(-1)] 0))), (a16, .inl (k 0, 256, .inl (tI [(-1), (-1), (-1), (-1), (-1), (-1), (-1), (-1), (-1), (-1), (-1), (-1), (-1), (-1), (-1), (-1), (-1), (-1), 0] (-1)))), (a0, .inr (7, [.ref a1, .ref a3, .int 0, .ref a5, .ref a8, .ref a9, .int 1, .ref a18, .int 0, .null, .ref a27, .int 0, .ref a28, .ref a29, .ref a30, .ref a31, .ref a32])), (a9, .inr (3, [.ref a11, .ref a12, .ref a13, .ref a14, .ref a15, .ref a16, .ref a17, .ref a10, .int 4, .int 100, .int 1, .int 1])), (a32, .inl (k 1, 9, .inr (.inl (tL [1, 0, 0, 1] 0)))), (a11, .inl (k 1, 900, .inr (.inl (tL [1, 0, 0, 1] 0)))), (a1, .inr (4, [.int 2, .int 0, .int 1, .ref a2])), (a31, .inl (k 1, 9, .inr (.inl (tL [1, 0, 0, 1] 0))))] := hD
        refine lv_ldiv hx hb dX10_form_86 (by decide +kernel) (sv_l (v := 1) (by decide +kernel) ?_)
        exact retL (v := 1) hx hb hr hlocks hS (show (1 : Int64) = F_form 1 1 by first | decide +kernel | (have g_1 : (1 : Int32).toInt = 1 := (by decide +kernel); unfold F_form; (repeat (first | rw [if_pos (by omega)] | rw [if_neg (by omega)])))) dX10_form_87
