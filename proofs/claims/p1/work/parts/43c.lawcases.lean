set_option maxHeartbeats 4000000 in
set_option maxRecDepth 100000 in
theorem law_still {p : Program} {e : Env} {s : State} {m : MethodId} {below : List Frame} {meth : Method} {c : Code} (l : Launch) {b : Nat} {xs : Nat → Int32} (C0 : lw_At p s m meth c b 6 xs) {D : va_G} {k : Nat → ClassId} (hK : kX D k s) {A : Nat → Prop} (hA : ∀ q, s.heap.size ≤ q → A q) (hA' : ∀ q, A q → s.heap.size ≤ q) (hbA : ¬ A b) (qx qm : Nat → Nat) {H : Heap} {locs : List Loc} {ls : Array Slot} (hP : va_P D cl0 (XW k qx ++ MW k qm) H) (hD : va_D A (XW k qx ++ MW k qm)) (hS : va_S A s.heap H locs) (hl : lv_has ls 4 [(3, .int 0), (2, .ref (qm 0)), (1, .ref (qx 0)), (0, .ref b)]) : W p l e room_1 s m #[Value.ref b] below meth c H locs 63 17884 (lw_Z below #[Value.ref b] s) (F0 m 897 ls []) := by
  obtain ⟨hx, hb, hr, hml, hown, hts, hX, hbl, hlocks, hgv⟩ := id C0
  have hU : ∀ w ∈ uw, w.before #[Value.ref b] s = true := fun w h => hts w (List.mem_filter.mp h).1
  refine lv_aload_n hx hb dL_law_897 rfl (lv_at hl 2 rfl) ?_
  refine lv_aload_n hx hb dL_law_898 rfl (lv_at hl 3 rfl) ?_
  refine lv_iload_n hx hb dL_law_899 rfl (lv_at hl 0 rfl) ?_
  refine lv_iconst (v := 1) hx hb dL_law_900 (by decide) ?_
  refine lv_iadd hx hb dL_law_901 (sv_i (v := 1) (by decide +kernel) ?_)
  refine va_sld hx hb hX hbl hbA hS (ix_in (j := 1) (by decide +kernel)).1 dL_law_902 (sv_i (v := xs 1) (by rw [(ix_in (j := 1) (n := 6) (by decide +kernel)).2]) ?_)
  refine lv_aload_n hx hb dL_law_903 rfl (lv_at hl 3 rfl) ?_
  refine lv_iload_n hx hb dL_law_904 rfl (lv_at hl 0 rfl) ?_
  refine lv_iconst (v := 2) hx hb dL_law_905 (by decide) ?_
  refine lv_iadd hx hb dL_law_906 (sv_i (v := 2) (by decide +kernel) ?_)
  refine va_sld hx hb hX hbl hbA hS (ix_in (j := 2) (by decide +kernel)).1 dL_law_907 (sv_i (v := xs 2) (by rw [(ix_in (j := 2) (n := 6) (by decide +kernel)).2]) ?_)
  refine lv_aload_n hx hb dL_law_908 rfl (lv_at hl 3 rfl) ?_
  refine lv_iload_n hx hb dL_law_909 rfl (lv_at hl 0 rfl) ?_
  refine lv_iconst (v := 3) hx hb dL_law_910 (by decide) ?_
  refine lv_iadd hx hb dL_law_911 (sv_i (v := 3) (by decide +kernel) ?_)
  refine va_sld hx hb hX hbl hbA hS (ix_in (j := 3) (by decide +kernel)).1 dL_law_912 (sv_i (v := xs 3) (by rw [(ix_in (j := 3) (n := 6) (by decide +kernel)).2]) ?_)
  refine cI (rV (q0 := 0) (ci := 7) (As := [.int (xs 1), .int (xs 2), .int (xs 3)]) (rest := []) (wc := [((qx 0), .inr (7, [.ref (qx 1), .ref (qx 3), .int 0, .ref (qx 5), .ref (qx 8), .ref (qx 9), .int 0, .ref (qx 18), .int 0, .null, .ref (qx 27), .int 0, .ref (qx 28), .ref (qx 29), .ref (qx 30), .ref (qx 31), .ref (qx 32)])), ((qx 1), .inr (4, [.int 2, .int 0, .int 1, .ref (qx 2)])), ((qx 9), .inr (3, [.ref (qx 11), .ref (qx 12), .ref (qx 13), .ref (qx 14), .ref (qx 15), .ref (qx 16), .ref (qx 17), .ref (qx 10), .int 0, .int 0, .int 0, .int 0])), ((qx 11), .inl (k 1, 900, .inr (.inl (tL [] 0)))), ((qx 12), .inl (k 0, 100, .inl (tI [] 0))), ((qx 13), .inl (k 0, 100, .inl (tI [] 0))), ((qx 14), .inl (k 0, 100, .inl (tI [] 0))), ((qx 16), .inl (k 0, 256, .inl (tI [] 0))), ((qx 17), .inl (k 0, 100, .inl (tI [] 0))), ((qx 28), .inr (2, [.ref (qx 1), .int 0])), ((qx 31), .inl (k 1, 9, .inr (.inl (tL [] 0)))), ((qx 32), .inl (k 1, 9, .inr (.inl (tL [] 0))))]) hx hb hml hown hU hK hP hD rfl rfl [0, 1, 9, 11, 12, 13, 14, 16, 17, 28, 31, 32] rfl (by decide) (cX10_still_1 l D k _ (qx 0) (qx 1) (qx 9) (qx 11) (qx 12) (qx 13) (qx 14) (qx 16) (qx 17) (qx 28) (qx 31) (qx 32) (qx 3) (qx 5) (qx 8) (qx 18) (qx 27) (qx 29) (qx 30) (qx 2) (qx 15) (qx 10) ((xs 1)) ((xs 2)) ((xs 3))) w711 w708 w709 w710 w63 hdX10_still ⟨rfl, rfl⟩ ⟨Nat.le_of_ble_eq_true rfl, Nat.le_of_ble_eq_true rfl⟩ rfl hl.1 (Nat.le_of_ble_eq_true rfl) dL_law_913 ⟨Nat.le_of_ble_eq_true rfl, Nat.le_of_ble_eq_true rfl⟩) hP hD hS hA (wr := MW k qm) [0, 1, 9, 11, 12, 13, 14, 16, 17, 28, 31, 32] [41, 42, 43, 44, 45, 46, 47, 48, 49, 50, 51, 52, 53, 54, 55, 56, 57, 58, 59, 60, 61, 62] rfl rfl (by decide) (by decide) (fun r1 H locs hB J hS => ?_)
  obtain rfl := hB
  obtain ⟨hP, hD⟩ := J.nil
  refine lv_aload_n hx hb dL_law_916 rfl (lv_at hl 1 rfl) ?_
  refine lv_aload_n hx hb dL_law_917 rfl (lv_at hl 3 rfl) ?_
  refine lv_iload_n hx hb dL_law_918 rfl (lv_at hl 0 rfl) ?_
  refine lv_iconst (v := 1) hx hb dL_law_919 (by decide) ?_
  refine lv_iadd hx hb dL_law_920 (sv_i (v := 1) (by decide +kernel) ?_)
  refine va_sld hx hb hX hbl hbA hS (ix_in (j := 1) (by decide +kernel)).1 dL_law_921 (sv_i (v := xs 1) (by rw [(ix_in (j := 1) (n := 6) (by decide +kernel)).2]) ?_)
  refine lv_aload_n hx hb dL_law_922 rfl (lv_at hl 3 rfl) ?_
  refine lv_iload_n hx hb dL_law_923 rfl (lv_at hl 0 rfl) ?_
  refine lv_iconst (v := 2) hx hb dL_law_924 (by decide) ?_
  refine lv_iadd hx hb dL_law_925 (sv_i (v := 2) (by decide +kernel) ?_)
  refine va_sld hx hb hX hbl hbA hS (ix_in (j := 2) (by decide +kernel)).1 dL_law_926 (sv_i (v := xs 2) (by rw [(ix_in (j := 2) (n := 6) (by decide +kernel)).2]) ?_)
  refine lv_aload_n hx hb dL_law_927 rfl (lv_at hl 3 rfl) ?_
  refine lv_iload_n hx hb dL_law_928 rfl (lv_at hl 0 rfl) ?_
  refine lv_iconst (v := 3) hx hb dL_law_929 (by decide) ?_
  refine lv_iadd hx hb dL_law_930 (sv_i (v := 3) (by decide +kernel) ?_)
  refine va_sld hx hb hX hbl hbA hS (ix_in (j := 3) (by decide +kernel)).1 dL_law_931 (sv_i (v := xs 3) (by rw [(ix_in (j := 3) (n := 6) (by decide +kernel)).2]) ?_)
  refine cI (rV (q0 := 0) (ci := 8) (As := [.int (xs 1), .int (xs 2), .int (xs 3)]) (rest := [.int (F_still ((xs 1)) ((xs 2)) ((xs 3)))]) (wc := [((qm 0), .inr (8, [.int 2, .int 0, .int 1, .int 0, .int 0, .int 0, .ref (qm 1), .ref (qm 2), .int 0, .int 0, .ref (qm 3), .ref (qm 4), .ref (qm 5), .ref (qm 6), .ref (qm 7), .ref (qm 8), .ref (qm 9), .int 0, .int 0, .int 0, .ref (qm 10), .ref (qm 11), .ref (qm 12), .ref (qm 13), .int 0, .int 0, .ref (qm 14), .ref (qm 15), .ref (qm 16), .ref (qm 17), .int 0, .int 0, .ref (qm 18), .ref (qm 19), .ref (qm 20), .ref (qm 21)])), ((qm 4), .inl (k 1, 9, .inr (.inl (tL [] 0)))), ((qm 10), .inl (k 1, 900, .inr (.inl (tL [] 0)))), ((qm 11), .inl (k 0, 100, .inl (tI [] 0))), ((qm 12), .inl (k 0, 100, .inl (tI [] 0))), ((qm 13), .inl (k 0, 100, .inl (tI [] 0)))]) hx hb hml hown hU hK hP hD rfl rfl [0, 4, 10, 11, 12, 13] rfl (by decide) (cX11_still_1 l D k _ (qm 0) (qm 4) (qm 10) (qm 11) (qm 12) (qm 13) (qm 1) (qm 2) (qm 3) (qm 5) (qm 6) (qm 7) (qm 8) (qm 9) (qm 14) (qm 15) (qm 16) (qm 17) (qm 18) (qm 19) (qm 20) (qm 21) ((xs 1)) ((xs 2)) ((xs 3))) w1164 w1161 w1162 w1163 w72 hdX11_still ⟨rfl, rfl⟩ ⟨Nat.le_of_ble_eq_true rfl, Nat.le_of_ble_eq_true rfl⟩ rfl hl.1 (Nat.le_of_ble_eq_true rfl) dL_law_932 ⟨Nat.le_of_ble_eq_true rfl, Nat.le_of_ble_eq_true rfl⟩) hP hD hS hA (wr := []) [0, 4, 10, 11, 12, 13] [] rfl rfl (by decide) (by decide) (fun r2 H locs hB J hS => ?_)
  obtain rfl := hB
  refine lv_icmp_eq (tgt := 1333) hx hb dL_law_935 (by decide) (fun _ => ?_) (fun cc => absurd rfl cc)
  exact law_end l C0 hA' hbA (Nat.le_of_ble_eq_true rfl) (Nat.le_of_ble_eq_true rfl) hS (lv_sub hl [0, 3] rfl)
set_option maxHeartbeats 4000000 in
set_option maxRecDepth 100000 in
theorem law_seed {p : Program} {e : Env} {s : State} {m : MethodId} {below : List Frame} {meth : Method} {c : Code} (l : Launch) {b : Nat} {xs : Nat → Int32} (C0 : lw_At p s m meth c b 6 xs) {D : va_G} {k : Nat → ClassId} (hK : kX D k s) {A : Nat → Prop} (hA : ∀ q, s.heap.size ≤ q → A q) (hA' : ∀ q, A q → s.heap.size ≤ q) (hbA : ¬ A b) (qx qm : Nat → Nat) {H : Heap} {locs : List Loc} {ls : Array Slot} (hP : va_P D cl0 (XW k qx ++ MW k qm) H) (hD : va_D A (XW k qx ++ MW k qm)) (hS : va_S A s.heap H locs) (hl : lv_has ls 4 [(3, .int 0), (2, .ref (qm 0)), (1, .ref (qx 0)), (0, .ref b)]) : W p l e room_1 s m #[Value.ref b] below meth c H locs 63 17884 (lw_Z below #[Value.ref b] s) (F0 m 940 ls []) := by
  obtain ⟨hx, hb, hr, hml, hown, hts, hX, hbl, hlocks, hgv⟩ := id C0
  have hU : ∀ w ∈ uw, w.before #[Value.ref b] s = true := fun w h => hts w (List.mem_filter.mp h).1
  refine lv_aload_n hx hb dL_law_940 rfl (lv_at hl 2 rfl) ?_
  refine lv_aload_n hx hb dL_law_941 rfl (lv_at hl 3 rfl) ?_
  refine lv_iload_n hx hb dL_law_942 rfl (lv_at hl 0 rfl) ?_
  refine lv_iconst (v := 1) hx hb dL_law_943 (by decide) ?_
  refine lv_iadd hx hb dL_law_944 (sv_i (v := 1) (by decide +kernel) ?_)
  refine va_sld hx hb hX hbl hbA hS (ix_in (j := 1) (by decide +kernel)).1 dL_law_945 (sv_i (v := xs 1) (by rw [(ix_in (j := 1) (n := 6) (by decide +kernel)).2]) ?_)
  refine cI (rV (q0 := 0) (ci := 7) (As := [.int (xs 1)]) (rest := []) (wc := [((qx 0), .inr (7, [.ref (qx 1), .ref (qx 3), .int 0, .ref (qx 5), .ref (qx 8), .ref (qx 9), .int 0, .ref (qx 18), .int 0, .null, .ref (qx 27), .int 0, .ref (qx 28), .ref (qx 29), .ref (qx 30), .ref (qx 31), .ref (qx 32)])), ((qx 1), .inr (4, [.int 2, .int 0, .int 1, .ref (qx 2)]))]) hx hb hml hown hU hK hP hD rfl rfl [0, 1] rfl (by decide) (cX10_seed_1 l D k _ (qx 0) (qx 1) (qx 3) (qx 5) (qx 8) (qx 9) (qx 18) (qx 27) (qx 28) (qx 29) (qx 30) (qx 31) (qx 32) (qx 2) ((xs 1))) w716 w713 w714 w715 w63 hdX10_seed ⟨rfl, rfl⟩ ⟨Nat.le_of_ble_eq_true rfl, Nat.le_of_ble_eq_true rfl⟩ rfl hl.1 (Nat.le_of_ble_eq_true rfl) dL_law_946 ⟨Nat.le_of_ble_eq_true rfl, Nat.le_of_ble_eq_true rfl⟩) hP hD hS hA (wr := MW k qm) [0, 1] [41, 42, 43, 44, 45, 46, 47, 48, 49, 50, 51, 52, 53, 54, 55, 56, 57, 58, 59, 60, 61, 62] rfl rfl (by decide) (by decide) (fun r1 H locs hB J hS => ?_)
  obtain rfl := hB
  obtain ⟨hP, hD⟩ := J.nil
  refine lv_aload_n hx hb dL_law_949 rfl (lv_at hl 1 rfl) ?_
  refine lv_aload_n hx hb dL_law_950 rfl (lv_at hl 3 rfl) ?_
  refine lv_iload_n hx hb dL_law_951 rfl (lv_at hl 0 rfl) ?_
  refine lv_iconst (v := 1) hx hb dL_law_952 (by decide) ?_
  refine lv_iadd hx hb dL_law_953 (sv_i (v := 1) (by decide +kernel) ?_)
  refine va_sld hx hb hX hbl hbA hS (ix_in (j := 1) (by decide +kernel)).1 dL_law_954 (sv_i (v := xs 1) (by rw [(ix_in (j := 1) (n := 6) (by decide +kernel)).2]) ?_)
  refine cI (rV (q0 := 0) (ci := 8) (As := [.int (xs 1)]) (rest := [.int (F_seed ((xs 1)))]) (wc := [((qm 0), .inr (8, [.int 2, .int 0, .int 1, .int 0, .int 0, .int 0, .ref (qm 1), .ref (qm 2), .int 0, .int 0, .ref (qm 3), .ref (qm 4), .ref (qm 5), .ref (qm 6), .ref (qm 7), .ref (qm 8), .ref (qm 9), .int 0, .int 0, .int 0, .ref (qm 10), .ref (qm 11), .ref (qm 12), .ref (qm 13), .int 0, .int 0, .ref (qm 14), .ref (qm 15), .ref (qm 16), .ref (qm 17), .int 0, .int 0, .ref (qm 18), .ref (qm 19), .ref (qm 20), .ref (qm 21)]))]) hx hb hml hown hU hK hP hD rfl rfl [0] rfl (by decide) (cX11_seed_1 l D k _ (qm 0) (qm 1) (qm 2) (qm 3) (qm 4) (qm 5) (qm 6) (qm 7) (qm 8) (qm 9) (qm 10) (qm 11) (qm 12) (qm 13) (qm 14) (qm 15) (qm 16) (qm 17) (qm 18) (qm 19) (qm 20) (qm 21) ((xs 1))) w1168 w1165 w1166 w1167 w72 hdX11_seed ⟨rfl, rfl⟩ ⟨Nat.le_of_ble_eq_true rfl, Nat.le_of_ble_eq_true rfl⟩ rfl hl.1 (Nat.le_of_ble_eq_true rfl) dL_law_955 ⟨Nat.le_of_ble_eq_true rfl, Nat.le_of_ble_eq_true rfl⟩) hP hD hS hA (wr := []) [0] [] rfl rfl (by decide) (by decide) (fun r2 H locs hB J hS => ?_)
  obtain rfl := hB
  refine lv_icmp_eq (tgt := 1333) hx hb dL_law_958 (by decide) (fun _ => ?_) (fun cc => absurd rfl cc)
  exact law_end l C0 hA' hbA (Nat.le_of_ble_eq_true rfl) (Nat.le_of_ble_eq_true rfl) hS (lv_sub hl [0, 3] rfl)
set_option maxHeartbeats 4000000 in
set_option maxRecDepth 100000 in
theorem law_lot {p : Program} {e : Env} {s : State} {m : MethodId} {below : List Frame} {meth : Method} {c : Code} (l : Launch) {b : Nat} {xs : Nat → Int32} (C0 : lw_At p s m meth c b 6 xs) {D : va_G} {k : Nat → ClassId} (hK : kX D k s) {A : Nat → Prop} (hA : ∀ q, s.heap.size ≤ q → A q) (hA' : ∀ q, A q → s.heap.size ≤ q) (hbA : ¬ A b) (qx qm : Nat → Nat) {H : Heap} {locs : List Loc} {ls : Array Slot} (hP : va_P D cl0 (XW k qx ++ MW k qm) H) (hD : va_D A (XW k qx ++ MW k qm)) (hS : va_S A s.heap H locs) (hl : lv_has ls 4 [(3, .int 0), (2, .ref (qm 0)), (1, .ref (qx 0)), (0, .ref b)]) : W p l e room_1 s m #[Value.ref b] below meth c H locs 63 17884 (lw_Z below #[Value.ref b] s) (F0 m 963 ls []) := by
  obtain ⟨hx, hb, hr, hml, hown, hts, hX, hbl, hlocks, hgv⟩ := id C0
  have hU : ∀ w ∈ uw, w.before #[Value.ref b] s = true := fun w h => hts w (List.mem_filter.mp h).1
  refine lv_aload_n hx hb dL_law_963 rfl (lv_at hl 2 rfl) ?_
  refine lv_aload_n hx hb dL_law_964 rfl (lv_at hl 3 rfl) ?_
  refine lv_iload_n hx hb dL_law_965 rfl (lv_at hl 0 rfl) ?_
  refine lv_iconst (v := 1) hx hb dL_law_966 (by decide) ?_
  refine lv_iadd hx hb dL_law_967 (sv_i (v := 1) (by decide +kernel) ?_)
  refine va_sld hx hb hX hbl hbA hS (ix_in (j := 1) (by decide +kernel)).1 dL_law_968 (sv_i (v := xs 1) (by rw [(ix_in (j := 1) (n := 6) (by decide +kernel)).2]) ?_)
  refine cI (rV (q0 := 0) (ci := 7) (As := [.int (xs 1)]) (rest := []) (wc := [((qx 0), .inr (7, [.ref (qx 1), .ref (qx 3), .int 0, .ref (qx 5), .ref (qx 8), .ref (qx 9), .int 0, .ref (qx 18), .int 0, .null, .ref (qx 27), .int 0, .ref (qx 28), .ref (qx 29), .ref (qx 30), .ref (qx 31), .ref (qx 32)])), ((qx 1), .inr (4, [.int 2, .int 0, .int 1, .ref (qx 2)])), ((qx 2), .inl (k 1, 36, .inr (.inl (tL [] 0)))), ((qx 27), .inl (k 0, 8, .inl (tI [] 0))), ((qx 31), .inl (k 1, 9, .inr (.inl (tL [] 0))))]) hx hb hml hown hU hK hP hD rfl rfl [0, 1, 2, 27, 31] rfl (by decide) (cX10_lot_1 l D k _ (qx 0) (qx 1) (qx 2) (qx 27) (qx 31) (qx 3) (qx 5) (qx 8) (qx 9) (qx 18) (qx 28) (qx 29) (qx 30) (qx 32) ((xs 1))) w720 w717 w718 w719 w63 hdX10_lot ⟨rfl, rfl⟩ ⟨Nat.le_of_ble_eq_true rfl, Nat.le_of_ble_eq_true rfl⟩ rfl hl.1 (Nat.le_of_ble_eq_true rfl) dL_law_969 ⟨Nat.le_of_ble_eq_true rfl, Nat.le_of_ble_eq_true rfl⟩) hP hD hS hA (wr := MW k qm) [0, 1, 2, 27, 31] [41, 42, 43, 44, 45, 46, 47, 48, 49, 50, 51, 52, 53, 54, 55, 56, 57, 58, 59, 60, 61, 62] rfl rfl (by decide) (by decide) (fun r1 H locs hB J hS => ?_)
  obtain rfl := hB
  obtain ⟨hP, hD⟩ := J.nil
  refine lv_aload_n hx hb dL_law_972 rfl (lv_at hl 1 rfl) ?_
  refine lv_aload_n hx hb dL_law_973 rfl (lv_at hl 3 rfl) ?_
  refine lv_iload_n hx hb dL_law_974 rfl (lv_at hl 0 rfl) ?_
  refine lv_iconst (v := 1) hx hb dL_law_975 (by decide) ?_
  refine lv_iadd hx hb dL_law_976 (sv_i (v := 1) (by decide +kernel) ?_)
  refine va_sld hx hb hX hbl hbA hS (ix_in (j := 1) (by decide +kernel)).1 dL_law_977 (sv_i (v := xs 1) (by rw [(ix_in (j := 1) (n := 6) (by decide +kernel)).2]) ?_)
  refine cI (rV (q0 := 0) (ci := 8) (As := [.int (xs 1)]) (rest := [.int (F_lot ((xs 1)))]) (wc := [((qm 0), .inr (8, [.int 2, .int 0, .int 1, .int 0, .int 0, .int 0, .ref (qm 1), .ref (qm 2), .int 0, .int 0, .ref (qm 3), .ref (qm 4), .ref (qm 5), .ref (qm 6), .ref (qm 7), .ref (qm 8), .ref (qm 9), .int 0, .int 0, .int 0, .ref (qm 10), .ref (qm 11), .ref (qm 12), .ref (qm 13), .int 0, .int 0, .ref (qm 14), .ref (qm 15), .ref (qm 16), .ref (qm 17), .int 0, .int 0, .ref (qm 18), .ref (qm 19), .ref (qm 20), .ref (qm 21)])), ((qm 1), .inl (k 0, 36, .inl (tI [] 0))), ((qm 3), .inl (k 1, 9, .inr (.inl (tL [] 0))))]) hx hb hml hown hU hK hP hD rfl rfl [0, 1, 3] rfl (by decide) (cX11_lot_1 l D k _ (qm 0) (qm 1) (qm 3) (qm 2) (qm 4) (qm 5) (qm 6) (qm 7) (qm 8) (qm 9) (qm 10) (qm 11) (qm 12) (qm 13) (qm 14) (qm 15) (qm 16) (qm 17) (qm 18) (qm 19) (qm 20) (qm 21) ((xs 1))) w1172 w1169 w1170 w1171 w72 hdX11_lot ⟨rfl, rfl⟩ ⟨Nat.le_of_ble_eq_true rfl, Nat.le_of_ble_eq_true rfl⟩ rfl hl.1 (Nat.le_of_ble_eq_true rfl) dL_law_978 ⟨Nat.le_of_ble_eq_true rfl, Nat.le_of_ble_eq_true rfl⟩) hP hD hS hA (wr := []) [0, 1, 3] [] rfl rfl (by decide) (by decide) (fun r2 H locs hB J hS => ?_)
  obtain rfl := hB
  refine lv_icmp_eq (tgt := 1333) hx hb dL_law_981 (by decide) (fun _ => ?_) (fun cc => absurd rfl cc)
  exact law_end l C0 hA' hbA (Nat.le_of_ble_eq_true rfl) (Nat.le_of_ble_eq_true rfl) hS (lv_sub hl [0, 3] rfl)
set_option maxHeartbeats 4000000 in
set_option maxRecDepth 100000 in
theorem law_sheet {p : Program} {e : Env} {s : State} {m : MethodId} {below : List Frame} {meth : Method} {c : Code} (l : Launch) {b : Nat} {xs : Nat → Int32} (C0 : lw_At p s m meth c b 6 xs) {D : va_G} {k : Nat → ClassId} (hK : kX D k s) {A : Nat → Prop} (hA : ∀ q, s.heap.size ≤ q → A q) (hA' : ∀ q, A q → s.heap.size ≤ q) (hbA : ¬ A b) (qx qm : Nat → Nat) {H : Heap} {locs : List Loc} {ls : Array Slot} (hP : va_P D cl0 (XW k qx ++ MW k qm) H) (hD : va_D A (XW k qx ++ MW k qm)) (hS : va_S A s.heap H locs) (hl : lv_has ls 4 [(3, .int 0), (2, .ref (qm 0)), (1, .ref (qx 0)), (0, .ref b)]) : W p l e room_1 s m #[Value.ref b] below meth c H locs 63 17884 (lw_Z below #[Value.ref b] s) (F0 m 986 ls []) := by
  obtain ⟨hx, hb, hr, hml, hown, hts, hX, hbl, hlocks, hgv⟩ := id C0
  have hU : ∀ w ∈ uw, w.before #[Value.ref b] s = true := fun w h => hts w (List.mem_filter.mp h).1
  refine lv_aload_n hx hb dL_law_986 rfl (lv_at hl 2 rfl) ?_
  refine lv_aload_n hx hb dL_law_987 rfl (lv_at hl 3 rfl) ?_
  refine lv_iload_n hx hb dL_law_988 rfl (lv_at hl 0 rfl) ?_
  refine lv_iconst (v := 1) hx hb dL_law_989 (by decide) ?_
  refine lv_iadd hx hb dL_law_990 (sv_i (v := 1) (by decide +kernel) ?_)
  refine va_sld hx hb hX hbl hbA hS (ix_in (j := 1) (by decide +kernel)).1 dL_law_991 (sv_i (v := xs 1) (by rw [(ix_in (j := 1) (n := 6) (by decide +kernel)).2]) ?_)
  refine lv_aload_n hx hb dL_law_992 rfl (lv_at hl 3 rfl) ?_
  refine lv_iload_n hx hb dL_law_993 rfl (lv_at hl 0 rfl) ?_
  refine lv_iconst (v := 2) hx hb dL_law_994 (by decide) ?_
  refine lv_iadd hx hb dL_law_995 (sv_i (v := 2) (by decide +kernel) ?_)
  refine va_sld hx hb hX hbl hbA hS (ix_in (j := 2) (by decide +kernel)).1 dL_law_996 (sv_i (v := xs 2) (by rw [(ix_in (j := 2) (n := 6) (by decide +kernel)).2]) ?_)
  refine lv_aload_n hx hb dL_law_997 rfl (lv_at hl 3 rfl) ?_
  refine lv_iload_n hx hb dL_law_998 rfl (lv_at hl 0 rfl) ?_
  refine lv_iconst (v := 3) hx hb dL_law_999 (by decide) ?_
  refine lv_iadd hx hb dL_law_1000 (sv_i (v := 3) (by decide +kernel) ?_)
  refine va_sld hx hb hX hbl hbA hS (ix_in (j := 3) (by decide +kernel)).1 dL_law_1001 (sv_i (v := xs 3) (by rw [(ix_in (j := 3) (n := 6) (by decide +kernel)).2]) ?_)
  refine cI (rV (q0 := 0) (ci := 7) (As := [.int (xs 1), .int (xs 2), .int (xs 3)]) (rest := []) (wc := [((qx 0), .inr (7, [.ref (qx 1), .ref (qx 3), .int 0, .ref (qx 5), .ref (qx 8), .ref (qx 9), .int 0, .ref (qx 18), .int 0, .null, .ref (qx 27), .int 0, .ref (qx 28), .ref (qx 29), .ref (qx 30), .ref (qx 31), .ref (qx 32)])), ((qx 8), .inl (k 3, 4, .inr (.inr (.inr (.inr (va_up (va_up (va_up (va_up (fun _ => none) 0 (some (qx 33))) 1 (some (qx 35))) 2 (some (qx 37))) 3 (some (qx 39)))))))), ((qx 33), .inr (5, [.int (-1), .int 0, .ref (qx 34)])), ((qx 34), .inl (k 1, 40, .inr (.inl (tL [] 0)))), ((qx 35), .inr (5, [.int (-1), .int 0, .ref (qx 36)])), ((qx 36), .inl (k 1, 40, .inr (.inl (tL [] 0)))), ((qx 37), .inr (5, [.int (-1), .int 0, .ref (qx 38)])), ((qx 38), .inl (k 1, 40, .inr (.inl (tL [] 0)))), ((qx 39), .inr (5, [.int (-1), .int 0, .ref (qx 40)])), ((qx 40), .inl (k 1, 40, .inr (.inl (tL [] 0))))]) hx hb hml hown hU hK hP hD rfl rfl [0, 8, 33, 34, 35, 36, 37, 38, 39, 40] rfl (by decide) (cX10_sheet_1 l D k _ (qx 0) (qx 8) (qx 33) (qx 34) (qx 35) (qx 36) (qx 37) (qx 38) (qx 39) (qx 40) (qx 1) (qx 3) (qx 5) (qx 9) (qx 18) (qx 27) (qx 28) (qx 29) (qx 30) (qx 31) (qx 32) ((xs 1)) ((xs 2)) ((xs 3))) w729 w726 w727 w728 w63 hdX10_sheet ⟨rfl, rfl⟩ ⟨Nat.le_of_ble_eq_true rfl, Nat.le_of_ble_eq_true rfl⟩ rfl hl.1 (Nat.le_of_ble_eq_true rfl) dL_law_1002 ⟨Nat.le_of_ble_eq_true rfl, Nat.le_of_ble_eq_true rfl⟩) hP hD hS hA (wr := MW k qm) [0, 8, 33, 34, 35, 36, 37, 38, 39, 40] [41, 42, 43, 44, 45, 46, 47, 48, 49, 50, 51, 52, 53, 54, 55, 56, 57, 58, 59, 60, 61, 62] rfl rfl (by decide) (by decide) (fun r1 H locs hB J hS => ?_)
  obtain rfl := hB
  obtain ⟨hP, hD⟩ := J.nil
  refine lv_aload_n hx hb dL_law_1005 rfl (lv_at hl 1 rfl) ?_
  refine lv_aload_n hx hb dL_law_1006 rfl (lv_at hl 3 rfl) ?_
  refine lv_iload_n hx hb dL_law_1007 rfl (lv_at hl 0 rfl) ?_
  refine lv_iconst (v := 1) hx hb dL_law_1008 (by decide) ?_
  refine lv_iadd hx hb dL_law_1009 (sv_i (v := 1) (by decide +kernel) ?_)
  refine va_sld hx hb hX hbl hbA hS (ix_in (j := 1) (by decide +kernel)).1 dL_law_1010 (sv_i (v := xs 1) (by rw [(ix_in (j := 1) (n := 6) (by decide +kernel)).2]) ?_)
  refine lv_aload_n hx hb dL_law_1011 rfl (lv_at hl 3 rfl) ?_
  refine lv_iload_n hx hb dL_law_1012 rfl (lv_at hl 0 rfl) ?_
  refine lv_iconst (v := 2) hx hb dL_law_1013 (by decide) ?_
  refine lv_iadd hx hb dL_law_1014 (sv_i (v := 2) (by decide +kernel) ?_)
  refine va_sld hx hb hX hbl hbA hS (ix_in (j := 2) (by decide +kernel)).1 dL_law_1015 (sv_i (v := xs 2) (by rw [(ix_in (j := 2) (n := 6) (by decide +kernel)).2]) ?_)
  refine lv_aload_n hx hb dL_law_1016 rfl (lv_at hl 3 rfl) ?_
  refine lv_iload_n hx hb dL_law_1017 rfl (lv_at hl 0 rfl) ?_
  refine lv_iconst (v := 3) hx hb dL_law_1018 (by decide) ?_
  refine lv_iadd hx hb dL_law_1019 (sv_i (v := 3) (by decide +kernel) ?_)
  refine va_sld hx hb hX hbl hbA hS (ix_in (j := 3) (by decide +kernel)).1 dL_law_1020 (sv_i (v := xs 3) (by rw [(ix_in (j := 3) (n := 6) (by decide +kernel)).2]) ?_)
  refine cI (rV (q0 := 0) (ci := 8) (As := [.int (xs 1), .int (xs 2), .int (xs 3)]) (rest := [.int (F_sheet ((xs 1)) ((xs 2)) ((xs 3)))]) (wc := [((qm 0), .inr (8, [.int 2, .int 0, .int 1, .int 0, .int 0, .int 0, .ref (qm 1), .ref (qm 2), .int 0, .int 0, .ref (qm 3), .ref (qm 4), .ref (qm 5), .ref (qm 6), .ref (qm 7), .ref (qm 8), .ref (qm 9), .int 0, .int 0, .int 0, .ref (qm 10), .ref (qm 11), .ref (qm 12), .ref (qm 13), .int 0, .int 0, .ref (qm 14), .ref (qm 15), .ref (qm 16), .ref (qm 17), .int 0, .int 0, .ref (qm 18), .ref (qm 19), .ref (qm 20), .ref (qm 21)])), ((qm 18), .inl (k 0, 4, .inl (tI [(-1), (-1), (-1), (-1)] 0))), ((qm 19), .inl (k 0, 4, .inl (tI [] 0))), ((qm 20), .inl (k 1, 160, .inr (.inl (tL [] 0))))]) hx hb hml hown hU hK hP hD rfl rfl [0, 18, 19, 20] rfl (by decide) (cX11_sheet_1 l D k _ (qm 0) (qm 18) (qm 19) (qm 20) (qm 1) (qm 2) (qm 3) (qm 4) (qm 5) (qm 6) (qm 7) (qm 8) (qm 9) (qm 10) (qm 11) (qm 12) (qm 13) (qm 14) (qm 15) (qm 16) (qm 17) (qm 21) ((xs 1)) ((xs 2)) ((xs 3))) w1182 w1179 w1180 w1181 w72 hdX11_sheet ⟨rfl, rfl⟩ ⟨Nat.le_of_ble_eq_true rfl, Nat.le_of_ble_eq_true rfl⟩ rfl hl.1 (Nat.le_of_ble_eq_true rfl) dL_law_1021 ⟨Nat.le_of_ble_eq_true rfl, Nat.le_of_ble_eq_true rfl⟩) hP hD hS hA (wr := []) [0, 18, 19, 20] [] rfl rfl (by decide) (by decide) (fun r2 H locs hB J hS => ?_)
  obtain rfl := hB
  refine lv_icmp_eq (tgt := 1333) hx hb dL_law_1024 (by decide) (fun _ => ?_) (fun cc => absurd rfl cc)
  exact law_end l C0 hA' hbA (Nat.le_of_ble_eq_true rfl) (Nat.le_of_ble_eq_true rfl) hS (lv_sub hl [0, 3] rfl)
set_option maxHeartbeats 4000000 in
set_option maxRecDepth 100000 in
theorem law_put {p : Program} {e : Env} {s : State} {m : MethodId} {below : List Frame} {meth : Method} {c : Code} (l : Launch) {b : Nat} {xs : Nat → Int32} (C0 : lw_At p s m meth c b 6 xs) {D : va_G} {k : Nat → ClassId} (hK : kX D k s) {A : Nat → Prop} (hA : ∀ q, s.heap.size ≤ q → A q) (hA' : ∀ q, A q → s.heap.size ≤ q) (hbA : ¬ A b) (qx qm : Nat → Nat) {H : Heap} {locs : List Loc} {ls : Array Slot} (hP : va_P D cl0 (XW k qx ++ MW k qm) H) (hD : va_D A (XW k qx ++ MW k qm)) (hS : va_S A s.heap H locs) (hl : lv_has ls 4 [(3, .int 0), (2, .ref (qm 0)), (1, .ref (qx 0)), (0, .ref b)]) : W p l e room_1 s m #[Value.ref b] below meth c H locs 63 17884 (lw_Z below #[Value.ref b] s) (F0 m 1029 ls []) := by
  obtain ⟨hx, hb, hr, hml, hown, hts, hX, hbl, hlocks, hgv⟩ := id C0
  have hU : ∀ w ∈ uw, w.before #[Value.ref b] s = true := fun w h => hts w (List.mem_filter.mp h).1
  refine lv_aload_n hx hb dL_law_1029 rfl (lv_at hl 2 rfl) ?_
  refine lv_aload_n hx hb dL_law_1030 rfl (lv_at hl 3 rfl) ?_
  refine lv_iload_n hx hb dL_law_1031 rfl (lv_at hl 0 rfl) ?_
  refine lv_iconst (v := 1) hx hb dL_law_1032 (by decide) ?_
  refine lv_iadd hx hb dL_law_1033 (sv_i (v := 1) (by decide +kernel) ?_)
  refine va_sld hx hb hX hbl hbA hS (ix_in (j := 1) (by decide +kernel)).1 dL_law_1034 (sv_i (v := xs 1) (by rw [(ix_in (j := 1) (n := 6) (by decide +kernel)).2]) ?_)
  refine lv_aload_n hx hb dL_law_1035 rfl (lv_at hl 3 rfl) ?_
  refine lv_iload_n hx hb dL_law_1036 rfl (lv_at hl 0 rfl) ?_
  refine lv_iconst (v := 2) hx hb dL_law_1037 (by decide) ?_
  refine lv_iadd hx hb dL_law_1038 (sv_i (v := 2) (by decide +kernel) ?_)
  refine va_sld hx hb hX hbl hbA hS (ix_in (j := 2) (by decide +kernel)).1 dL_law_1039 (sv_i (v := xs 2) (by rw [(ix_in (j := 2) (n := 6) (by decide +kernel)).2]) ?_)
  refine lv_aload_n hx hb dL_law_1040 rfl (lv_at hl 3 rfl) ?_
  refine lv_iload_n hx hb dL_law_1041 rfl (lv_at hl 0 rfl) ?_
  refine lv_iconst (v := 3) hx hb dL_law_1042 (by decide) ?_
  refine lv_iadd hx hb dL_law_1043 (sv_i (v := 3) (by decide +kernel) ?_)
  refine va_sld hx hb hX hbl hbA hS (ix_in (j := 3) (by decide +kernel)).1 dL_law_1044 (sv_i (v := xs 3) (by rw [(ix_in (j := 3) (n := 6) (by decide +kernel)).2]) ?_)
  refine lv_i2l (v := (xs 3).toInt64) hx hb dL_law_1045 rfl ?_
  refine lv_bipush (v := 32) hx hb dL_law_1046 (by decide) ?_
  refine lv_lshl (v := ((xs 3).toInt64 <<< ((32 : Int32).toInt64 &&& 63))) hx hb dL_law_1048 rfl ?_
  refine lv_aload_n hx hb dL_law_1049 rfl (lv_at hl 3 rfl) ?_
  refine lv_iload_n hx hb dL_law_1050 rfl (lv_at hl 0 rfl) ?_
  refine lv_iconst (v := 4) hx hb dL_law_1051 (by decide) ?_
  refine lv_iadd hx hb dL_law_1052 (sv_i (v := 4) (by decide +kernel) ?_)
  refine va_sld hx hb hX hbl hbA hS (ix_in (j := 4) (by decide +kernel)).1 dL_law_1053 (sv_i (v := xs 4) (by rw [(ix_in (j := 4) (n := 6) (by decide +kernel)).2]) ?_)
  refine lv_i2l (v := (xs 4).toInt64) hx hb dL_law_1054 rfl ?_
  refine lv_ldc2 hx hb hown (hU _ w1222) dL_law_1055 ?_
  refine lv_land hx hb dL_law_1058 ?_
  refine lv_lor hx hb dL_law_1059 ?_
  refine cI (rV (q0 := 0) (ci := 7) (As := [.int (xs 1), .int (xs 2), .long (((xs 3).toInt64 <<< ((32 : Int32).toInt64 &&& 63)) ||| ((xs 4).toInt64 &&& 4294967295))]) (rest := []) (wc := [((qx 0), .inr (7, [.ref (qx 1), .ref (qx 3), .int 0, .ref (qx 5), .ref (qx 8), .ref (qx 9), .int 0, .ref (qx 18), .int 0, .null, .ref (qx 27), .int 0, .ref (qx 28), .ref (qx 29), .ref (qx 30), .ref (qx 31), .ref (qx 32)])), ((qx 8), .inl (k 3, 4, .inr (.inr (.inr (.inr (va_up (va_up (va_up (va_up (fun _ => none) 0 (some (qx 33))) 1 (some (qx 35))) 2 (some (qx 37))) 3 (some (qx 39)))))))), ((qx 33), .inr (5, [.int (-1), .int 0, .ref (qx 34)])), ((qx 35), .inr (5, [.int (-1), .int 0, .ref (qx 36)])), ((qx 37), .inr (5, [.int (-1), .int 0, .ref (qx 38)])), ((qx 39), .inr (5, [.int (-1), .int 0, .ref (qx 40)]))]) hx hb hml hown hU hK hP hD rfl rfl [0, 8, 33, 35, 37, 39] rfl (by decide) (cX10_put_1 l D k _ (qx 0) (qx 8) (qx 33) (qx 35) (qx 37) (qx 39) (qx 1) (qx 3) (qx 5) (qx 9) (qx 18) (qx 27) (qx 28) (qx 29) (qx 30) (qx 31) (qx 32) (qx 34) (qx 36) (qx 38) (qx 40) ((xs 1)) ((xs 2)) ((((xs 3).toInt64 <<< ((32 : Int32).toInt64 &&& 63)) ||| ((xs 4).toInt64 &&& 4294967295)))) w741 w738 w739 w740 w63 hdX10_put ⟨rfl, rfl⟩ ⟨Nat.le_of_ble_eq_true rfl, Nat.le_of_ble_eq_true rfl⟩ rfl hl.1 (Nat.le_of_ble_eq_true rfl) dL_law_1060 ⟨Nat.le_of_ble_eq_true rfl, Nat.le_of_ble_eq_true rfl⟩) hP hD hS hA (wr := MW k qm) [0, 8, 33, 35, 37, 39] [41, 42, 43, 44, 45, 46, 47, 48, 49, 50, 51, 52, 53, 54, 55, 56, 57, 58, 59, 60, 61, 62] rfl rfl (by decide) (by decide) (fun r1 H locs hB J hS => ?_)
  obtain rfl := hB
  obtain ⟨hP, hD⟩ := J.nil
  refine lv_aload_n hx hb dL_law_1063 rfl (lv_at hl 1 rfl) ?_
  refine lv_aload_n hx hb dL_law_1064 rfl (lv_at hl 3 rfl) ?_
  refine lv_iload_n hx hb dL_law_1065 rfl (lv_at hl 0 rfl) ?_
  refine lv_iconst (v := 1) hx hb dL_law_1066 (by decide) ?_
  refine lv_iadd hx hb dL_law_1067 (sv_i (v := 1) (by decide +kernel) ?_)
  refine va_sld hx hb hX hbl hbA hS (ix_in (j := 1) (by decide +kernel)).1 dL_law_1068 (sv_i (v := xs 1) (by rw [(ix_in (j := 1) (n := 6) (by decide +kernel)).2]) ?_)
  refine lv_aload_n hx hb dL_law_1069 rfl (lv_at hl 3 rfl) ?_
  refine lv_iload_n hx hb dL_law_1070 rfl (lv_at hl 0 rfl) ?_
  refine lv_iconst (v := 2) hx hb dL_law_1071 (by decide) ?_
  refine lv_iadd hx hb dL_law_1072 (sv_i (v := 2) (by decide +kernel) ?_)
  refine va_sld hx hb hX hbl hbA hS (ix_in (j := 2) (by decide +kernel)).1 dL_law_1073 (sv_i (v := xs 2) (by rw [(ix_in (j := 2) (n := 6) (by decide +kernel)).2]) ?_)
  refine lv_aload_n hx hb dL_law_1074 rfl (lv_at hl 3 rfl) ?_
  refine lv_iload_n hx hb dL_law_1075 rfl (lv_at hl 0 rfl) ?_
  refine lv_iconst (v := 3) hx hb dL_law_1076 (by decide) ?_
  refine lv_iadd hx hb dL_law_1077 (sv_i (v := 3) (by decide +kernel) ?_)
  refine va_sld hx hb hX hbl hbA hS (ix_in (j := 3) (by decide +kernel)).1 dL_law_1078 (sv_i (v := xs 3) (by rw [(ix_in (j := 3) (n := 6) (by decide +kernel)).2]) ?_)
  refine lv_i2l (v := (xs 3).toInt64) hx hb dL_law_1079 rfl ?_
  refine lv_bipush (v := 32) hx hb dL_law_1080 (by decide) ?_
  refine lv_lshl (v := ((xs 3).toInt64 <<< ((32 : Int32).toInt64 &&& 63))) hx hb dL_law_1082 rfl ?_
  refine lv_aload_n hx hb dL_law_1083 rfl (lv_at hl 3 rfl) ?_
  refine lv_iload_n hx hb dL_law_1084 rfl (lv_at hl 0 rfl) ?_
  refine lv_iconst (v := 4) hx hb dL_law_1085 (by decide) ?_
  refine lv_iadd hx hb dL_law_1086 (sv_i (v := 4) (by decide +kernel) ?_)
  refine va_sld hx hb hX hbl hbA hS (ix_in (j := 4) (by decide +kernel)).1 dL_law_1087 (sv_i (v := xs 4) (by rw [(ix_in (j := 4) (n := 6) (by decide +kernel)).2]) ?_)
  refine lv_i2l (v := (xs 4).toInt64) hx hb dL_law_1088 rfl ?_
  refine lv_ldc2 hx hb hown (hU _ w1222) dL_law_1089 ?_
  refine lv_land hx hb dL_law_1092 ?_
  refine lv_lor hx hb dL_law_1093 ?_
  refine cI (rV (q0 := 0) (ci := 8) (As := [.int (xs 1), .int (xs 2), .long (((xs 3).toInt64 <<< ((32 : Int32).toInt64 &&& 63)) ||| ((xs 4).toInt64 &&& 4294967295))]) (rest := [.int (F_put ((xs 1)) ((xs 2)) ((((xs 3).toInt64 <<< ((32 : Int32).toInt64 &&& 63)) ||| ((xs 4).toInt64 &&& 4294967295))))]) (wc := [((qm 0), .inr (8, [.int 2, .int 0, .int 1, .int 0, .int 0, .int 0, .ref (qm 1), .ref (qm 2), .int 0, .int 0, .ref (qm 3), .ref (qm 4), .ref (qm 5), .ref (qm 6), .ref (qm 7), .ref (qm 8), .ref (qm 9), .int 0, .int 0, .int 0, .ref (qm 10), .ref (qm 11), .ref (qm 12), .ref (qm 13), .int 0, .int 0, .ref (qm 14), .ref (qm 15), .ref (qm 16), .ref (qm 17), .int 0, .int 0, .ref (qm 18), .ref (qm 19), .ref (qm 20), .ref (qm 21)])), ((qm 18), .inl (k 0, 4, .inl (tI [(-1), (-1), (-1), (-1)] 0)))]) hx hb hml hown hU hK hP hD rfl rfl [0, 18] rfl (by decide) (cX11_put_1 l D k _ (qm 0) (qm 18) (qm 1) (qm 2) (qm 3) (qm 4) (qm 5) (qm 6) (qm 7) (qm 8) (qm 9) (qm 10) (qm 11) (qm 12) (qm 13) (qm 14) (qm 15) (qm 16) (qm 17) (qm 19) (qm 20) (qm 21) ((xs 1)) ((xs 2)) ((((xs 3).toInt64 <<< ((32 : Int32).toInt64 &&& 63)) ||| ((xs 4).toInt64 &&& 4294967295)))) w1186 w1183 w1184 w1185 w72 hdX11_put ⟨rfl, rfl⟩ ⟨Nat.le_of_ble_eq_true rfl, Nat.le_of_ble_eq_true rfl⟩ rfl hl.1 (Nat.le_of_ble_eq_true rfl) dL_law_1094 ⟨Nat.le_of_ble_eq_true rfl, Nat.le_of_ble_eq_true rfl⟩) hP hD hS hA (wr := []) [0, 18] [] rfl rfl (by decide) (by decide) (fun r2 H locs hB J hS => ?_)
  obtain rfl := hB
  refine lv_icmp_eq (tgt := 1333) hx hb dL_law_1097 (by decide) (fun _ => ?_) (fun cc => absurd rfl cc)
  exact law_end l C0 hA' hbA (Nat.le_of_ble_eq_true rfl) (Nat.le_of_ble_eq_true rfl) hS (lv_sub hl [0, 3] rfl)
set_option maxHeartbeats 4000000 in
set_option maxRecDepth 100000 in
theorem law_item {p : Program} {e : Env} {s : State} {m : MethodId} {below : List Frame} {meth : Method} {c : Code} (l : Launch) {b : Nat} {xs : Nat → Int32} (C0 : lw_At p s m meth c b 6 xs) {D : va_G} {k : Nat → ClassId} (hK : kX D k s) {A : Nat → Prop} (hA : ∀ q, s.heap.size ≤ q → A q) (hA' : ∀ q, A q → s.heap.size ≤ q) (hbA : ¬ A b) (qx qm : Nat → Nat) {H : Heap} {locs : List Loc} {ls : Array Slot} (hP : va_P D cl0 (XW k qx ++ MW k qm) H) (hD : va_D A (XW k qx ++ MW k qm)) (hS : va_S A s.heap H locs) (hl : lv_has ls 4 [(3, .int 0), (2, .ref (qm 0)), (1, .ref (qx 0)), (0, .ref b)]) : W p l e room_1 s m #[Value.ref b] below meth c H locs 63 17884 (lw_Z below #[Value.ref b] s) (F0 m 1102 ls []) := by
  obtain ⟨hx, hb, hr, hml, hown, hts, hX, hbl, hlocks, hgv⟩ := id C0
  have hU : ∀ w ∈ uw, w.before #[Value.ref b] s = true := fun w h => hts w (List.mem_filter.mp h).1
  refine lv_aload_n hx hb dL_law_1102 rfl (lv_at hl 2 rfl) ?_
  refine lv_aload_n hx hb dL_law_1103 rfl (lv_at hl 3 rfl) ?_
  refine lv_iload_n hx hb dL_law_1104 rfl (lv_at hl 0 rfl) ?_
  refine lv_iconst (v := 1) hx hb dL_law_1105 (by decide) ?_
  refine lv_iadd hx hb dL_law_1106 (sv_i (v := 1) (by decide +kernel) ?_)
  refine va_sld hx hb hX hbl hbA hS (ix_in (j := 1) (by decide +kernel)).1 dL_law_1107 (sv_i (v := xs 1) (by rw [(ix_in (j := 1) (n := 6) (by decide +kernel)).2]) ?_)
  refine lv_aload_n hx hb dL_law_1108 rfl (lv_at hl 3 rfl) ?_
  refine lv_iload_n hx hb dL_law_1109 rfl (lv_at hl 0 rfl) ?_
  refine lv_iconst (v := 2) hx hb dL_law_1110 (by decide) ?_
  refine lv_iadd hx hb dL_law_1111 (sv_i (v := 2) (by decide +kernel) ?_)
  refine va_sld hx hb hX hbl hbA hS (ix_in (j := 2) (by decide +kernel)).1 dL_law_1112 (sv_i (v := xs 2) (by rw [(ix_in (j := 2) (n := 6) (by decide +kernel)).2]) ?_)
  refine lv_aload_n hx hb dL_law_1113 rfl (lv_at hl 3 rfl) ?_
  refine lv_iload_n hx hb dL_law_1114 rfl (lv_at hl 0 rfl) ?_
  refine lv_iconst (v := 3) hx hb dL_law_1115 (by decide) ?_
  refine lv_iadd hx hb dL_law_1116 (sv_i (v := 3) (by decide +kernel) ?_)
  refine va_sld hx hb hX hbl hbA hS (ix_in (j := 3) (by decide +kernel)).1 dL_law_1117 (sv_i (v := xs 3) (by rw [(ix_in (j := 3) (n := 6) (by decide +kernel)).2]) ?_)
  refine cI (rV (q0 := 0) (ci := 7) (As := [.int (xs 1), .int (xs 2), .int (xs 3)]) (rest := []) (wc := [((qx 0), .inr (7, [.ref (qx 1), .ref (qx 3), .int 0, .ref (qx 5), .ref (qx 8), .ref (qx 9), .int 0, .ref (qx 18), .int 0, .null, .ref (qx 27), .int 0, .ref (qx 28), .ref (qx 29), .ref (qx 30), .ref (qx 31), .ref (qx 32)])), ((qx 8), .inl (k 3, 4, .inr (.inr (.inr (.inr (va_up (va_up (va_up (va_up (fun _ => none) 0 (some (qx 33))) 1 (some (qx 35))) 2 (some (qx 37))) 3 (some (qx 39)))))))), ((qx 33), .inr (5, [.int (-1), .int 0, .ref (qx 34)])), ((qx 35), .inr (5, [.int (-1), .int 0, .ref (qx 36)])), ((qx 37), .inr (5, [.int (-1), .int 0, .ref (qx 38)])), ((qx 39), .inr (5, [.int (-1), .int 0, .ref (qx 40)]))]) hx hb hml hown hU hK hP hD rfl rfl [0, 8, 33, 35, 37, 39] rfl (by decide) (cX10_item_1 l D k _ (qx 0) (qx 8) (qx 33) (qx 35) (qx 37) (qx 39) (qx 1) (qx 3) (qx 5) (qx 9) (qx 18) (qx 27) (qx 28) (qx 29) (qx 30) (qx 31) (qx 32) (qx 34) (qx 36) (qx 38) (qx 40) ((xs 1)) ((xs 2)) ((xs 3))) w749 w746 w747 w748 w63 hdX10_item ⟨rfl, rfl⟩ ⟨Nat.le_of_ble_eq_true rfl, Nat.le_of_ble_eq_true rfl⟩ rfl hl.1 (Nat.le_of_ble_eq_true rfl) dL_law_1118 ⟨Nat.le_of_ble_eq_true rfl, Nat.le_of_ble_eq_true rfl⟩) hP hD hS hA (wr := MW k qm) [0, 8, 33, 35, 37, 39] [41, 42, 43, 44, 45, 46, 47, 48, 49, 50, 51, 52, 53, 54, 55, 56, 57, 58, 59, 60, 61, 62] rfl rfl (by decide) (by decide) (fun r1 H locs hB J hS => ?_)
  obtain rfl := hB
  obtain ⟨hP, hD⟩ := J.nil
  refine lv_aload_n hx hb dL_law_1121 rfl (lv_at hl 1 rfl) ?_
  refine lv_aload_n hx hb dL_law_1122 rfl (lv_at hl 3 rfl) ?_
  refine lv_iload_n hx hb dL_law_1123 rfl (lv_at hl 0 rfl) ?_
  refine lv_iconst (v := 1) hx hb dL_law_1124 (by decide) ?_
  refine lv_iadd hx hb dL_law_1125 (sv_i (v := 1) (by decide +kernel) ?_)
  refine va_sld hx hb hX hbl hbA hS (ix_in (j := 1) (by decide +kernel)).1 dL_law_1126 (sv_i (v := xs 1) (by rw [(ix_in (j := 1) (n := 6) (by decide +kernel)).2]) ?_)
  refine lv_aload_n hx hb dL_law_1127 rfl (lv_at hl 3 rfl) ?_
  refine lv_iload_n hx hb dL_law_1128 rfl (lv_at hl 0 rfl) ?_
  refine lv_iconst (v := 2) hx hb dL_law_1129 (by decide) ?_
  refine lv_iadd hx hb dL_law_1130 (sv_i (v := 2) (by decide +kernel) ?_)
  refine va_sld hx hb hX hbl hbA hS (ix_in (j := 2) (by decide +kernel)).1 dL_law_1131 (sv_i (v := xs 2) (by rw [(ix_in (j := 2) (n := 6) (by decide +kernel)).2]) ?_)
  refine lv_aload_n hx hb dL_law_1132 rfl (lv_at hl 3 rfl) ?_
  refine lv_iload_n hx hb dL_law_1133 rfl (lv_at hl 0 rfl) ?_
  refine lv_iconst (v := 3) hx hb dL_law_1134 (by decide) ?_
  refine lv_iadd hx hb dL_law_1135 (sv_i (v := 3) (by decide +kernel) ?_)
  refine va_sld hx hb hX hbl hbA hS (ix_in (j := 3) (by decide +kernel)).1 dL_law_1136 (sv_i (v := xs 3) (by rw [(ix_in (j := 3) (n := 6) (by decide +kernel)).2]) ?_)
  refine cI (rV (q0 := 0) (ci := 8) (As := [.int (xs 1), .int (xs 2), .int (xs 3)]) (rest := [.int (F_item ((xs 1)) ((xs 2)) ((xs 3)))]) (wc := [((qm 0), .inr (8, [.int 2, .int 0, .int 1, .int 0, .int 0, .int 0, .ref (qm 1), .ref (qm 2), .int 0, .int 0, .ref (qm 3), .ref (qm 4), .ref (qm 5), .ref (qm 6), .ref (qm 7), .ref (qm 8), .ref (qm 9), .int 0, .int 0, .int 0, .ref (qm 10), .ref (qm 11), .ref (qm 12), .ref (qm 13), .int 0, .int 0, .ref (qm 14), .ref (qm 15), .ref (qm 16), .ref (qm 17), .int 0, .int 0, .ref (qm 18), .ref (qm 19), .ref (qm 20), .ref (qm 21)])), ((qm 18), .inl (k 0, 4, .inl (tI [(-1), (-1), (-1), (-1)] 0)))]) hx hb hml hown hU hK hP hD rfl rfl [0, 18] rfl (by decide) (cX11_item_1 l D k _ (qm 0) (qm 18) (qm 1) (qm 2) (qm 3) (qm 4) (qm 5) (qm 6) (qm 7) (qm 8) (qm 9) (qm 10) (qm 11) (qm 12) (qm 13) (qm 14) (qm 15) (qm 16) (qm 17) (qm 19) (qm 20) (qm 21) ((xs 1)) ((xs 2)) ((xs 3))) w1193 w1190 w1191 w1192 w72 hdX11_item ⟨rfl, rfl⟩ ⟨Nat.le_of_ble_eq_true rfl, Nat.le_of_ble_eq_true rfl⟩ rfl hl.1 (Nat.le_of_ble_eq_true rfl) dL_law_1137 ⟨Nat.le_of_ble_eq_true rfl, Nat.le_of_ble_eq_true rfl⟩) hP hD hS hA (wr := []) [0, 18] [] rfl rfl (by decide) (by decide) (fun r2 H locs hB J hS => ?_)
  obtain rfl := hB
  refine lv_icmp_eq (tgt := 1333) hx hb dL_law_1140 (by decide) (fun _ => ?_) (fun cc => absurd rfl cc)
  exact law_end l C0 hA' hbA (Nat.le_of_ble_eq_true rfl) (Nat.le_of_ble_eq_true rfl) hS (lv_sub hl [0, 3] rfl)
set_option maxHeartbeats 4000000 in
set_option maxRecDepth 100000 in
theorem law_copy {p : Program} {e : Env} {s : State} {m : MethodId} {below : List Frame} {meth : Method} {c : Code} (l : Launch) {b : Nat} {xs : Nat → Int32} (C0 : lw_At p s m meth c b 6 xs) {D : va_G} {k : Nat → ClassId} (hK : kX D k s) {A : Nat → Prop} (hA : ∀ q, s.heap.size ≤ q → A q) (hA' : ∀ q, A q → s.heap.size ≤ q) (hbA : ¬ A b) (qx qm : Nat → Nat) {H : Heap} {locs : List Loc} {ls : Array Slot} (hP : va_P D cl0 (XW k qx ++ MW k qm) H) (hD : va_D A (XW k qx ++ MW k qm)) (hS : va_S A s.heap H locs) (hl : lv_has ls 4 [(3, .int 0), (2, .ref (qm 0)), (1, .ref (qx 0)), (0, .ref b)]) : W p l e room_1 s m #[Value.ref b] below meth c H locs 63 17884 (lw_Z below #[Value.ref b] s) (F0 m 1145 ls []) := by
  obtain ⟨hx, hb, hr, hml, hown, hts, hX, hbl, hlocks, hgv⟩ := id C0
  have hU : ∀ w ∈ uw, w.before #[Value.ref b] s = true := fun w h => hts w (List.mem_filter.mp h).1
  refine lv_aload_n hx hb dL_law_1145 rfl (lv_at hl 2 rfl) ?_
  refine lv_aload_n hx hb dL_law_1146 rfl (lv_at hl 3 rfl) ?_
  refine lv_iload_n hx hb dL_law_1147 rfl (lv_at hl 0 rfl) ?_
  refine lv_iconst (v := 1) hx hb dL_law_1148 (by decide) ?_
  refine lv_iadd hx hb dL_law_1149 (sv_i (v := 1) (by decide +kernel) ?_)
  refine va_sld hx hb hX hbl hbA hS (ix_in (j := 1) (by decide +kernel)).1 dL_law_1150 (sv_i (v := xs 1) (by rw [(ix_in (j := 1) (n := 6) (by decide +kernel)).2]) ?_)
  refine lv_aload_n hx hb dL_law_1151 rfl (lv_at hl 3 rfl) ?_
  refine lv_iload_n hx hb dL_law_1152 rfl (lv_at hl 0 rfl) ?_
  refine lv_iconst (v := 2) hx hb dL_law_1153 (by decide) ?_
  refine lv_iadd hx hb dL_law_1154 (sv_i (v := 2) (by decide +kernel) ?_)
  refine va_sld hx hb hX hbl hbA hS (ix_in (j := 2) (by decide +kernel)).1 dL_law_1155 (sv_i (v := xs 2) (by rw [(ix_in (j := 2) (n := 6) (by decide +kernel)).2]) ?_)
  refine lv_aload_n hx hb dL_law_1156 rfl (lv_at hl 3 rfl) ?_
  refine lv_iload_n hx hb dL_law_1157 rfl (lv_at hl 0 rfl) ?_
  refine lv_iconst (v := 3) hx hb dL_law_1158 (by decide) ?_
  refine lv_iadd hx hb dL_law_1159 (sv_i (v := 3) (by decide +kernel) ?_)
  refine va_sld hx hb hX hbl hbA hS (ix_in (j := 3) (by decide +kernel)).1 dL_law_1160 (sv_i (v := xs 3) (by rw [(ix_in (j := 3) (n := 6) (by decide +kernel)).2]) ?_)
  refine lv_aload_n hx hb dL_law_1161 rfl (lv_at hl 3 rfl) ?_
  refine lv_iload_n hx hb dL_law_1162 rfl (lv_at hl 0 rfl) ?_
  refine lv_iconst (v := 4) hx hb dL_law_1163 (by decide) ?_
  refine lv_iadd hx hb dL_law_1164 (sv_i (v := 4) (by decide +kernel) ?_)
  refine va_sld hx hb hX hbl hbA hS (ix_in (j := 4) (by decide +kernel)).1 dL_law_1165 (sv_i (v := xs 4) (by rw [(ix_in (j := 4) (n := 6) (by decide +kernel)).2]) ?_)
  refine lv_aload_n hx hb dL_law_1166 rfl (lv_at hl 3 rfl) ?_
  refine lv_iload_n hx hb dL_law_1167 rfl (lv_at hl 0 rfl) ?_
  refine lv_iconst (v := 5) hx hb dL_law_1168 (by decide) ?_
  refine lv_iadd hx hb dL_law_1169 (sv_i (v := 5) (by decide +kernel) ?_)
  refine va_sld hx hb hX hbl hbA hS (ix_in (j := 5) (by decide +kernel)).1 dL_law_1170 (sv_i (v := xs 5) (by rw [(ix_in (j := 5) (n := 6) (by decide +kernel)).2]) ?_)
  refine cI (rV (q0 := 0) (ci := 7) (As := [.int (xs 1), .int (xs 2), .int (xs 3), .int (xs 4), .int (xs 5)]) (rest := []) (wc := [((qx 0), .inr (7, [.ref (qx 1), .ref (qx 3), .int 0, .ref (qx 5), .ref (qx 8), .ref (qx 9), .int 0, .ref (qx 18), .int 0, .null, .ref (qx 27), .int 0, .ref (qx 28), .ref (qx 29), .ref (qx 30), .ref (qx 31), .ref (qx 32)])), ((qx 8), .inl (k 3, 4, .inr (.inr (.inr (.inr (va_up (va_up (va_up (va_up (fun _ => none) 0 (some (qx 33))) 1 (some (qx 35))) 2 (some (qx 37))) 3 (some (qx 39)))))))), ((qx 33), .inr (5, [.int (-1), .int 0, .ref (qx 34)])), ((qx 35), .inr (5, [.int (-1), .int 0, .ref (qx 36)])), ((qx 37), .inr (5, [.int (-1), .int 0, .ref (qx 38)])), ((qx 39), .inr (5, [.int (-1), .int 0, .ref (qx 40)]))]) hx hb hml hown hU hK hP hD rfl rfl [0, 8, 33, 35, 37, 39] rfl (by decide) (cX10_copy_1 l D k _ (qx 0) (qx 8) (qx 33) (qx 35) (qx 37) (qx 39) (qx 1) (qx 3) (qx 5) (qx 9) (qx 18) (qx 27) (qx 28) (qx 29) (qx 30) (qx 31) (qx 32) (qx 34) (qx 36) (qx 38) (qx 40) ((xs 1)) ((xs 2)) ((xs 3)) ((xs 4)) ((xs 5))) w753 w750 w751 w752 w63 hdX10_copy ⟨rfl, rfl⟩ ⟨Nat.le_of_ble_eq_true rfl, Nat.le_of_ble_eq_true rfl⟩ rfl hl.1 (Nat.le_of_ble_eq_true rfl) dL_law_1171 ⟨Nat.le_of_ble_eq_true rfl, Nat.le_of_ble_eq_true rfl⟩) hP hD hS hA (wr := MW k qm) [0, 8, 33, 35, 37, 39] [41, 42, 43, 44, 45, 46, 47, 48, 49, 50, 51, 52, 53, 54, 55, 56, 57, 58, 59, 60, 61, 62] rfl rfl (by decide) (by decide) (fun r1 H locs hB J hS => ?_)
  obtain rfl := hB
  obtain ⟨hP, hD⟩ := J.nil
  refine lv_aload_n hx hb dL_law_1174 rfl (lv_at hl 1 rfl) ?_
  refine lv_aload_n hx hb dL_law_1175 rfl (lv_at hl 3 rfl) ?_
  refine lv_iload_n hx hb dL_law_1176 rfl (lv_at hl 0 rfl) ?_
  refine lv_iconst (v := 1) hx hb dL_law_1177 (by decide) ?_
  refine lv_iadd hx hb dL_law_1178 (sv_i (v := 1) (by decide +kernel) ?_)
  refine va_sld hx hb hX hbl hbA hS (ix_in (j := 1) (by decide +kernel)).1 dL_law_1179 (sv_i (v := xs 1) (by rw [(ix_in (j := 1) (n := 6) (by decide +kernel)).2]) ?_)
  refine lv_aload_n hx hb dL_law_1180 rfl (lv_at hl 3 rfl) ?_
  refine lv_iload_n hx hb dL_law_1181 rfl (lv_at hl 0 rfl) ?_
  refine lv_iconst (v := 2) hx hb dL_law_1182 (by decide) ?_
  refine lv_iadd hx hb dL_law_1183 (sv_i (v := 2) (by decide +kernel) ?_)
  refine va_sld hx hb hX hbl hbA hS (ix_in (j := 2) (by decide +kernel)).1 dL_law_1184 (sv_i (v := xs 2) (by rw [(ix_in (j := 2) (n := 6) (by decide +kernel)).2]) ?_)
  refine lv_aload_n hx hb dL_law_1185 rfl (lv_at hl 3 rfl) ?_
  refine lv_iload_n hx hb dL_law_1186 rfl (lv_at hl 0 rfl) ?_
  refine lv_iconst (v := 3) hx hb dL_law_1187 (by decide) ?_
  refine lv_iadd hx hb dL_law_1188 (sv_i (v := 3) (by decide +kernel) ?_)
  refine va_sld hx hb hX hbl hbA hS (ix_in (j := 3) (by decide +kernel)).1 dL_law_1189 (sv_i (v := xs 3) (by rw [(ix_in (j := 3) (n := 6) (by decide +kernel)).2]) ?_)
  refine lv_aload_n hx hb dL_law_1190 rfl (lv_at hl 3 rfl) ?_
  refine lv_iload_n hx hb dL_law_1191 rfl (lv_at hl 0 rfl) ?_
  refine lv_iconst (v := 4) hx hb dL_law_1192 (by decide) ?_
  refine lv_iadd hx hb dL_law_1193 (sv_i (v := 4) (by decide +kernel) ?_)
  refine va_sld hx hb hX hbl hbA hS (ix_in (j := 4) (by decide +kernel)).1 dL_law_1194 (sv_i (v := xs 4) (by rw [(ix_in (j := 4) (n := 6) (by decide +kernel)).2]) ?_)
  refine lv_aload_n hx hb dL_law_1195 rfl (lv_at hl 3 rfl) ?_
  refine lv_iload_n hx hb dL_law_1196 rfl (lv_at hl 0 rfl) ?_
  refine lv_iconst (v := 5) hx hb dL_law_1197 (by decide) ?_
  refine lv_iadd hx hb dL_law_1198 (sv_i (v := 5) (by decide +kernel) ?_)
  refine va_sld hx hb hX hbl hbA hS (ix_in (j := 5) (by decide +kernel)).1 dL_law_1199 (sv_i (v := xs 5) (by rw [(ix_in (j := 5) (n := 6) (by decide +kernel)).2]) ?_)
  refine cI (rV (q0 := 0) (ci := 8) (As := [.int (xs 1), .int (xs 2), .int (xs 3), .int (xs 4), .int (xs 5)]) (rest := [.int (F_copy ((xs 1)) ((xs 2)) ((xs 3)) ((xs 4)) ((xs 5)))]) (wc := [((qm 0), .inr (8, [.int 2, .int 0, .int 1, .int 0, .int 0, .int 0, .ref (qm 1), .ref (qm 2), .int 0, .int 0, .ref (qm 3), .ref (qm 4), .ref (qm 5), .ref (qm 6), .ref (qm 7), .ref (qm 8), .ref (qm 9), .int 0, .int 0, .int 0, .ref (qm 10), .ref (qm 11), .ref (qm 12), .ref (qm 13), .int 0, .int 0, .ref (qm 14), .ref (qm 15), .ref (qm 16), .ref (qm 17), .int 0, .int 0, .ref (qm 18), .ref (qm 19), .ref (qm 20), .ref (qm 21)])), ((qm 18), .inl (k 0, 4, .inl (tI [(-1), (-1), (-1), (-1)] 0)))]) hx hb hml hown hU hK hP hD rfl rfl [0, 18] rfl (by decide) (cX11_copy_1 l D k _ (qm 0) (qm 18) (qm 1) (qm 2) (qm 3) (qm 4) (qm 5) (qm 6) (qm 7) (qm 8) (qm 9) (qm 10) (qm 11) (qm 12) (qm 13) (qm 14) (qm 15) (qm 16) (qm 17) (qm 19) (qm 20) (qm 21) ((xs 1)) ((xs 2)) ((xs 3)) ((xs 4)) ((xs 5))) w1197 w1194 w1195 w1196 w72 hdX11_copy ⟨rfl, rfl⟩ ⟨Nat.le_of_ble_eq_true rfl, Nat.le_of_ble_eq_true rfl⟩ rfl hl.1 (Nat.le_of_ble_eq_true rfl) dL_law_1200 ⟨Nat.le_of_ble_eq_true rfl, Nat.le_of_ble_eq_true rfl⟩) hP hD hS hA (wr := []) [0, 18] [] rfl rfl (by decide) (by decide) (fun r2 H locs hB J hS => ?_)
  obtain rfl := hB
  refine lv_icmp_eq (tgt := 1333) hx hb dL_law_1203 (by decide) (fun _ => ?_) (fun cc => absurd rfl cc)
  exact law_end l C0 hA' hbA (Nat.le_of_ble_eq_true rfl) (Nat.le_of_ble_eq_true rfl) hS (lv_sub hl [0, 3] rfl)
set_option maxHeartbeats 4000000 in
set_option maxRecDepth 100000 in
theorem law_lay {p : Program} {e : Env} {s : State} {m : MethodId} {below : List Frame} {meth : Method} {c : Code} (l : Launch) {b : Nat} {xs : Nat → Int32} (C0 : lw_At p s m meth c b 6 xs) {D : va_G} {k : Nat → ClassId} (hK : kX D k s) {A : Nat → Prop} (hA : ∀ q, s.heap.size ≤ q → A q) (hA' : ∀ q, A q → s.heap.size ≤ q) (hbA : ¬ A b) (qx qm : Nat → Nat) {H : Heap} {locs : List Loc} {ls : Array Slot} (hP : va_P D cl0 (XW k qx ++ MW k qm) H) (hD : va_D A (XW k qx ++ MW k qm)) (hS : va_S A s.heap H locs) (hl : lv_has ls 4 [(3, .int 0), (2, .ref (qm 0)), (1, .ref (qx 0)), (0, .ref b)]) : W p l e room_1 s m #[Value.ref b] below meth c H locs 63 17884 (lw_Z below #[Value.ref b] s) (F0 m 1208 ls []) := by
  obtain ⟨hx, hb, hr, hml, hown, hts, hX, hbl, hlocks, hgv⟩ := id C0
  have hU : ∀ w ∈ uw, w.before #[Value.ref b] s = true := fun w h => hts w (List.mem_filter.mp h).1
  refine lv_aload_n hx hb dL_law_1208 rfl (lv_at hl 2 rfl) ?_
  refine lv_aload_n hx hb dL_law_1209 rfl (lv_at hl 3 rfl) ?_
  refine lv_iload_n hx hb dL_law_1210 rfl (lv_at hl 0 rfl) ?_
  refine lv_iconst (v := 1) hx hb dL_law_1211 (by decide) ?_
  refine lv_iadd hx hb dL_law_1212 (sv_i (v := 1) (by decide +kernel) ?_)
  refine va_sld hx hb hX hbl hbA hS (ix_in (j := 1) (by decide +kernel)).1 dL_law_1213 (sv_i (v := xs 1) (by rw [(ix_in (j := 1) (n := 6) (by decide +kernel)).2]) ?_)
  refine lv_aload_n hx hb dL_law_1214 rfl (lv_at hl 3 rfl) ?_
  refine lv_iload_n hx hb dL_law_1215 rfl (lv_at hl 0 rfl) ?_
  refine lv_iconst (v := 2) hx hb dL_law_1216 (by decide) ?_
  refine lv_iadd hx hb dL_law_1217 (sv_i (v := 2) (by decide +kernel) ?_)
  refine va_sld hx hb hX hbl hbA hS (ix_in (j := 2) (by decide +kernel)).1 dL_law_1218 (sv_i (v := xs 2) (by rw [(ix_in (j := 2) (n := 6) (by decide +kernel)).2]) ?_)
  refine lv_aload_n hx hb dL_law_1219 rfl (lv_at hl 3 rfl) ?_
  refine lv_iload_n hx hb dL_law_1220 rfl (lv_at hl 0 rfl) ?_
  refine lv_iconst (v := 3) hx hb dL_law_1221 (by decide) ?_
  refine lv_iadd hx hb dL_law_1222 (sv_i (v := 3) (by decide +kernel) ?_)
  refine va_sld hx hb hX hbl hbA hS (ix_in (j := 3) (by decide +kernel)).1 dL_law_1223 (sv_i (v := xs 3) (by rw [(ix_in (j := 3) (n := 6) (by decide +kernel)).2]) ?_)
  refine cI (rV (q0 := 0) (ci := 7) (As := [.int (xs 1), .int (xs 2), .int (xs 3)]) (rest := []) (wc := [((qx 0), .inr (7, [.ref (qx 1), .ref (qx 3), .int 0, .ref (qx 5), .ref (qx 8), .ref (qx 9), .int 0, .ref (qx 18), .int 0, .null, .ref (qx 27), .int 0, .ref (qx 28), .ref (qx 29), .ref (qx 30), .ref (qx 31), .ref (qx 32)])), ((qx 1), .inr (4, [.int 2, .int 0, .int 1, .ref (qx 2)])), ((qx 8), .inl (k 3, 4, .inr (.inr (.inr (.inr (va_up (va_up (va_up (va_up (fun _ => none) 0 (some (qx 33))) 1 (some (qx 35))) 2 (some (qx 37))) 3 (some (qx 39)))))))), ((qx 9), .inr (3, [.ref (qx 11), .ref (qx 12), .ref (qx 13), .ref (qx 14), .ref (qx 15), .ref (qx 16), .ref (qx 17), .ref (qx 10), .int 0, .int 0, .int 0, .int 0])), ((qx 11), .inl (k 1, 900, .inr (.inl (tL [] 0)))), ((qx 12), .inl (k 0, 100, .inl (tI [] 0))), ((qx 13), .inl (k 0, 100, .inl (tI [] 0))), ((qx 14), .inl (k 0, 100, .inl (tI [] 0))), ((qx 16), .inl (k 0, 256, .inl (tI [] 0))), ((qx 17), .inl (k 0, 100, .inl (tI [] 0))), ((qx 28), .inr (2, [.ref (qx 1), .int 0])), ((qx 31), .inl (k 1, 9, .inr (.inl (tL [] 0)))), ((qx 33), .inr (5, [.int (-1), .int 0, .ref (qx 34)])), ((qx 35), .inr (5, [.int (-1), .int 0, .ref (qx 36)])), ((qx 37), .inr (5, [.int (-1), .int 0, .ref (qx 38)])), ((qx 39), .inr (5, [.int (-1), .int 0, .ref (qx 40)]))]) hx hb hml hown hU hK hP hD rfl rfl [0, 1, 8, 9, 11, 12, 13, 14, 16, 17, 28, 31, 33, 35, 37, 39] rfl (by decide) (cX10_lay_1 l D k _ (qx 0) (qx 1) (qx 8) (qx 9) (qx 11) (qx 12) (qx 13) (qx 14) (qx 16) (qx 17) (qx 28) (qx 31) (qx 33) (qx 35) (qx 37) (qx 39) (qx 3) (qx 5) (qx 18) (qx 27) (qx 29) (qx 30) (qx 32) (qx 2) (qx 15) (qx 10) (qx 34) (qx 36) (qx 38) (qx 40) ((xs 1)) ((xs 2)) ((xs 3))) w757 w754 w755 w756 w63 hdX10_lay ⟨rfl, rfl⟩ ⟨Nat.le_of_ble_eq_true rfl, Nat.le_of_ble_eq_true rfl⟩ rfl hl.1 (Nat.le_of_ble_eq_true rfl) dL_law_1224 ⟨Nat.le_of_ble_eq_true rfl, Nat.le_of_ble_eq_true rfl⟩) hP hD hS hA (wr := MW k qm) [0, 1, 8, 9, 11, 12, 13, 14, 16, 17, 28, 31, 33, 35, 37, 39] [41, 42, 43, 44, 45, 46, 47, 48, 49, 50, 51, 52, 53, 54, 55, 56, 57, 58, 59, 60, 61, 62] rfl rfl (by decide) (by decide) (fun r1 H locs hB J hS => ?_)
  obtain rfl := hB
  obtain ⟨hP, hD⟩ := J.nil
  refine lv_aload_n hx hb dL_law_1227 rfl (lv_at hl 1 rfl) ?_
  refine lv_aload_n hx hb dL_law_1228 rfl (lv_at hl 3 rfl) ?_
  refine lv_iload_n hx hb dL_law_1229 rfl (lv_at hl 0 rfl) ?_
  refine lv_iconst (v := 1) hx hb dL_law_1230 (by decide) ?_
  refine lv_iadd hx hb dL_law_1231 (sv_i (v := 1) (by decide +kernel) ?_)
  refine va_sld hx hb hX hbl hbA hS (ix_in (j := 1) (by decide +kernel)).1 dL_law_1232 (sv_i (v := xs 1) (by rw [(ix_in (j := 1) (n := 6) (by decide +kernel)).2]) ?_)
  refine lv_aload_n hx hb dL_law_1233 rfl (lv_at hl 3 rfl) ?_
  refine lv_iload_n hx hb dL_law_1234 rfl (lv_at hl 0 rfl) ?_
  refine lv_iconst (v := 2) hx hb dL_law_1235 (by decide) ?_
  refine lv_iadd hx hb dL_law_1236 (sv_i (v := 2) (by decide +kernel) ?_)
  refine va_sld hx hb hX hbl hbA hS (ix_in (j := 2) (by decide +kernel)).1 dL_law_1237 (sv_i (v := xs 2) (by rw [(ix_in (j := 2) (n := 6) (by decide +kernel)).2]) ?_)
  refine lv_aload_n hx hb dL_law_1238 rfl (lv_at hl 3 rfl) ?_
  refine lv_iload_n hx hb dL_law_1239 rfl (lv_at hl 0 rfl) ?_
  refine lv_iconst (v := 3) hx hb dL_law_1240 (by decide) ?_
  refine lv_iadd hx hb dL_law_1241 (sv_i (v := 3) (by decide +kernel) ?_)
  refine va_sld hx hb hX hbl hbA hS (ix_in (j := 3) (by decide +kernel)).1 dL_law_1242 (sv_i (v := xs 3) (by rw [(ix_in (j := 3) (n := 6) (by decide +kernel)).2]) ?_)
  refine cI (rV (q0 := 0) (ci := 8) (As := [.int (xs 1), .int (xs 2), .int (xs 3)]) (rest := [.int (F_lay ((xs 1)) ((xs 2)) ((xs 3)))]) (wc := [((qm 0), .inr (8, [.int 2, .int 0, .int 1, .int 0, .int 0, .int 0, .ref (qm 1), .ref (qm 2), .int 0, .int 0, .ref (qm 3), .ref (qm 4), .ref (qm 5), .ref (qm 6), .ref (qm 7), .ref (qm 8), .ref (qm 9), .int 0, .int 0, .int 0, .ref (qm 10), .ref (qm 11), .ref (qm 12), .ref (qm 13), .int 0, .int 0, .ref (qm 14), .ref (qm 15), .ref (qm 16), .ref (qm 17), .int 0, .int 0, .ref (qm 18), .ref (qm 19), .ref (qm 20), .ref (qm 21)])), ((qm 4), .inl (k 1, 9, .inr (.inl (tL [] 0)))), ((qm 10), .inl (k 1, 900, .inr (.inl (tL [] 0)))), ((qm 11), .inl (k 0, 100, .inl (tI [] 0))), ((qm 12), .inl (k 0, 100, .inl (tI [] 0))), ((qm 13), .inl (k 0, 100, .inl (tI [] 0))), ((qm 18), .inl (k 0, 4, .inl (tI [(-1), (-1), (-1), (-1)] 0)))]) hx hb hml hown hU hK hP hD rfl rfl [0, 4, 10, 11, 12, 13, 18] rfl (by decide) (cX11_lay_1 l D k _ (qm 0) (qm 4) (qm 10) (qm 11) (qm 12) (qm 13) (qm 18) (qm 1) (qm 2) (qm 3) (qm 5) (qm 6) (qm 7) (qm 8) (qm 9) (qm 14) (qm 15) (qm 16) (qm 17) (qm 19) (qm 20) (qm 21) ((xs 1)) ((xs 2)) ((xs 3))) w1201 w1198 w1199 w1200 w72 hdX11_lay ⟨rfl, rfl⟩ ⟨Nat.le_of_ble_eq_true rfl, Nat.le_of_ble_eq_true rfl⟩ rfl hl.1 (Nat.le_of_ble_eq_true rfl) dL_law_1243 ⟨Nat.le_of_ble_eq_true rfl, Nat.le_of_ble_eq_true rfl⟩) hP hD hS hA (wr := []) [0, 4, 10, 11, 12, 13, 18] [] rfl rfl (by decide) (by decide) (fun r2 H locs hB J hS => ?_)
  obtain rfl := hB
  refine lv_icmp_eq (tgt := 1333) hx hb dL_law_1246 (by decide) (fun _ => ?_) (fun cc => absurd rfl cc)
  exact law_end l C0 hA' hbA (Nat.le_of_ble_eq_true rfl) (Nat.le_of_ble_eq_true rfl) hS (lv_sub hl [0, 3] rfl)
set_option maxHeartbeats 4000000 in
set_option maxRecDepth 100000 in
theorem law_take {p : Program} {e : Env} {s : State} {m : MethodId} {below : List Frame} {meth : Method} {c : Code} (l : Launch) {b : Nat} {xs : Nat → Int32} (C0 : lw_At p s m meth c b 6 xs) {D : va_G} {k : Nat → ClassId} (hK : kX D k s) {A : Nat → Prop} (hA : ∀ q, s.heap.size ≤ q → A q) (hA' : ∀ q, A q → s.heap.size ≤ q) (hbA : ¬ A b) (qx qm : Nat → Nat) {H : Heap} {locs : List Loc} {ls : Array Slot} (hP : va_P D cl0 (XW k qx ++ MW k qm) H) (hD : va_D A (XW k qx ++ MW k qm)) (hS : va_S A s.heap H locs) (hl : lv_has ls 4 [(3, .int 0), (2, .ref (qm 0)), (1, .ref (qx 0)), (0, .ref b)]) : W p l e room_1 s m #[Value.ref b] below meth c H locs 63 17884 (lw_Z below #[Value.ref b] s) (F0 m 1251 ls []) := by
  obtain ⟨hx, hb, hr, hml, hown, hts, hX, hbl, hlocks, hgv⟩ := id C0
  have hU : ∀ w ∈ uw, w.before #[Value.ref b] s = true := fun w h => hts w (List.mem_filter.mp h).1
  refine lv_aload_n hx hb dL_law_1251 rfl (lv_at hl 2 rfl) ?_
  refine lv_aload_n hx hb dL_law_1252 rfl (lv_at hl 3 rfl) ?_
  refine lv_iload_n hx hb dL_law_1253 rfl (lv_at hl 0 rfl) ?_
  refine lv_iconst (v := 1) hx hb dL_law_1254 (by decide) ?_
  refine lv_iadd hx hb dL_law_1255 (sv_i (v := 1) (by decide +kernel) ?_)
  refine va_sld hx hb hX hbl hbA hS (ix_in (j := 1) (by decide +kernel)).1 dL_law_1256 (sv_i (v := xs 1) (by rw [(ix_in (j := 1) (n := 6) (by decide +kernel)).2]) ?_)
  refine lv_aload_n hx hb dL_law_1257 rfl (lv_at hl 3 rfl) ?_
  refine lv_iload_n hx hb dL_law_1258 rfl (lv_at hl 0 rfl) ?_
  refine lv_iconst (v := 2) hx hb dL_law_1259 (by decide) ?_
  refine lv_iadd hx hb dL_law_1260 (sv_i (v := 2) (by decide +kernel) ?_)
  refine va_sld hx hb hX hbl hbA hS (ix_in (j := 2) (by decide +kernel)).1 dL_law_1261 (sv_i (v := xs 2) (by rw [(ix_in (j := 2) (n := 6) (by decide +kernel)).2]) ?_)
  refine cI (rV (q0 := 0) (ci := 7) (As := [.int (xs 1), .int (xs 2)]) (rest := []) (wc := [((qx 0), .inr (7, [.ref (qx 1), .ref (qx 3), .int 0, .ref (qx 5), .ref (qx 8), .ref (qx 9), .int 0, .ref (qx 18), .int 0, .null, .ref (qx 27), .int 0, .ref (qx 28), .ref (qx 29), .ref (qx 30), .ref (qx 31), .ref (qx 32)])), ((qx 8), .inl (k 3, 4, .inr (.inr (.inr (.inr (va_up (va_up (va_up (va_up (fun _ => none) 0 (some (qx 33))) 1 (some (qx 35))) 2 (some (qx 37))) 3 (some (qx 39)))))))), ((qx 33), .inr (5, [.int (-1), .int 0, .ref (qx 34)])), ((qx 35), .inr (5, [.int (-1), .int 0, .ref (qx 36)])), ((qx 37), .inr (5, [.int (-1), .int 0, .ref (qx 38)])), ((qx 39), .inr (5, [.int (-1), .int 0, .ref (qx 40)]))]) hx hb hml hown hU hK hP hD rfl rfl [0, 8, 33, 35, 37, 39] rfl (by decide) (cX10_take_1 l D k _ (qx 0) (qx 8) (qx 33) (qx 35) (qx 37) (qx 39) (qx 1) (qx 3) (qx 5) (qx 9) (qx 18) (qx 27) (qx 28) (qx 29) (qx 30) (qx 31) (qx 32) (qx 34) (qx 36) (qx 38) (qx 40) ((xs 1)) ((xs 2))) w761 w758 w759 w760 w63 hdX10_take ⟨rfl, rfl⟩ ⟨Nat.le_of_ble_eq_true rfl, Nat.le_of_ble_eq_true rfl⟩ rfl hl.1 (Nat.le_of_ble_eq_true rfl) dL_law_1262 ⟨Nat.le_of_ble_eq_true rfl, Nat.le_of_ble_eq_true rfl⟩) hP hD hS hA (wr := MW k qm) [0, 8, 33, 35, 37, 39] [41, 42, 43, 44, 45, 46, 47, 48, 49, 50, 51, 52, 53, 54, 55, 56, 57, 58, 59, 60, 61, 62] rfl rfl (by decide) (by decide) (fun r1 H locs hB J hS => ?_)
  obtain rfl := hB
  obtain ⟨hP, hD⟩ := J.nil
  refine lv_aload_n hx hb dL_law_1265 rfl (lv_at hl 1 rfl) ?_
  refine lv_aload_n hx hb dL_law_1266 rfl (lv_at hl 3 rfl) ?_
  refine lv_iload_n hx hb dL_law_1267 rfl (lv_at hl 0 rfl) ?_
  refine lv_iconst (v := 1) hx hb dL_law_1268 (by decide) ?_
  refine lv_iadd hx hb dL_law_1269 (sv_i (v := 1) (by decide +kernel) ?_)
  refine va_sld hx hb hX hbl hbA hS (ix_in (j := 1) (by decide +kernel)).1 dL_law_1270 (sv_i (v := xs 1) (by rw [(ix_in (j := 1) (n := 6) (by decide +kernel)).2]) ?_)
  refine lv_aload_n hx hb dL_law_1271 rfl (lv_at hl 3 rfl) ?_
  refine lv_iload_n hx hb dL_law_1272 rfl (lv_at hl 0 rfl) ?_
  refine lv_iconst (v := 2) hx hb dL_law_1273 (by decide) ?_
  refine lv_iadd hx hb dL_law_1274 (sv_i (v := 2) (by decide +kernel) ?_)
  refine va_sld hx hb hX hbl hbA hS (ix_in (j := 2) (by decide +kernel)).1 dL_law_1275 (sv_i (v := xs 2) (by rw [(ix_in (j := 2) (n := 6) (by decide +kernel)).2]) ?_)
  refine cI (rV (q0 := 0) (ci := 8) (As := [.int (xs 1), .int (xs 2)]) (rest := [.int (F_take ((xs 1)) ((xs 2)))]) (wc := [((qm 0), .inr (8, [.int 2, .int 0, .int 1, .int 0, .int 0, .int 0, .ref (qm 1), .ref (qm 2), .int 0, .int 0, .ref (qm 3), .ref (qm 4), .ref (qm 5), .ref (qm 6), .ref (qm 7), .ref (qm 8), .ref (qm 9), .int 0, .int 0, .int 0, .ref (qm 10), .ref (qm 11), .ref (qm 12), .ref (qm 13), .int 0, .int 0, .ref (qm 14), .ref (qm 15), .ref (qm 16), .ref (qm 17), .int 0, .int 0, .ref (qm 18), .ref (qm 19), .ref (qm 20), .ref (qm 21)])), ((qm 18), .inl (k 0, 4, .inl (tI [(-1), (-1), (-1), (-1)] 0)))]) hx hb hml hown hU hK hP hD rfl rfl [0, 18] rfl (by decide) (cX11_take_1 l D k _ (qm 0) (qm 18) (qm 1) (qm 2) (qm 3) (qm 4) (qm 5) (qm 6) (qm 7) (qm 8) (qm 9) (qm 10) (qm 11) (qm 12) (qm 13) (qm 14) (qm 15) (qm 16) (qm 17) (qm 19) (qm 20) (qm 21) ((xs 1)) ((xs 2))) w1209 w1206 w1207 w1208 w72 hdX11_take ⟨rfl, rfl⟩ ⟨Nat.le_of_ble_eq_true rfl, Nat.le_of_ble_eq_true rfl⟩ rfl hl.1 (Nat.le_of_ble_eq_true rfl) dL_law_1276 ⟨Nat.le_of_ble_eq_true rfl, Nat.le_of_ble_eq_true rfl⟩) hP hD hS hA (wr := []) [0, 18] [] rfl rfl (by decide) (by decide) (fun r2 H locs hB J hS => ?_)
  obtain rfl := hB
  refine lv_icmp_eq (tgt := 1333) hx hb dL_law_1279 (by decide) (fun _ => ?_) (fun cc => absurd rfl cc)
  exact law_end l C0 hA' hbA (Nat.le_of_ble_eq_true rfl) (Nat.le_of_ble_eq_true rfl) hS (lv_sub hl [0, 3] rfl)
set_option maxHeartbeats 4000000 in
set_option maxRecDepth 100000 in
theorem law_many {p : Program} {e : Env} {s : State} {m : MethodId} {below : List Frame} {meth : Method} {c : Code} (l : Launch) {b : Nat} {xs : Nat → Int32} (C0 : lw_At p s m meth c b 6 xs) {D : va_G} {k : Nat → ClassId} (hK : kX D k s) {A : Nat → Prop} (hA : ∀ q, s.heap.size ≤ q → A q) (hA' : ∀ q, A q → s.heap.size ≤ q) (hbA : ¬ A b) (qx qm : Nat → Nat) {H : Heap} {locs : List Loc} {ls : Array Slot} (hP : va_P D cl0 (XW k qx ++ MW k qm) H) (hD : va_D A (XW k qx ++ MW k qm)) (hS : va_S A s.heap H locs) (hl : lv_has ls 4 [(3, .int 0), (2, .ref (qm 0)), (1, .ref (qx 0)), (0, .ref b)]) : W p l e room_1 s m #[Value.ref b] below meth c H locs 63 17884 (lw_Z below #[Value.ref b] s) (F0 m 1284 ls []) := by
  obtain ⟨hx, hb, hr, hml, hown, hts, hX, hbl, hlocks, hgv⟩ := id C0
  have hU : ∀ w ∈ uw, w.before #[Value.ref b] s = true := fun w h => hts w (List.mem_filter.mp h).1
  refine lv_aload_n hx hb dL_law_1284 rfl (lv_at hl 2 rfl) ?_
  refine lv_aload_n hx hb dL_law_1285 rfl (lv_at hl 3 rfl) ?_
  refine lv_iload_n hx hb dL_law_1286 rfl (lv_at hl 0 rfl) ?_
  refine lv_iconst (v := 1) hx hb dL_law_1287 (by decide) ?_
  refine lv_iadd hx hb dL_law_1288 (sv_i (v := 1) (by decide +kernel) ?_)
  refine va_sld hx hb hX hbl hbA hS (ix_in (j := 1) (by decide +kernel)).1 dL_law_1289 (sv_i (v := xs 1) (by rw [(ix_in (j := 1) (n := 6) (by decide +kernel)).2]) ?_)
  refine cI (rV (q0 := 0) (ci := 7) (As := [.int (xs 1)]) (rest := []) (wc := [((qx 0), .inr (7, [.ref (qx 1), .ref (qx 3), .int 0, .ref (qx 5), .ref (qx 8), .ref (qx 9), .int 0, .ref (qx 18), .int 0, .null, .ref (qx 27), .int 0, .ref (qx 28), .ref (qx 29), .ref (qx 30), .ref (qx 31), .ref (qx 32)])), ((qx 1), .inr (4, [.int 2, .int 0, .int 1, .ref (qx 2)])), ((qx 5), .inr (6, [.ref (qx 6), .int 0, .int 0, .int 0, .ref (qx 7)]))]) hx hb hml hown hU hK hP hD rfl rfl [0, 1, 5] rfl (by decide) (cX10_many_1 l D k _ (qx 0) (qx 1) (qx 5) (qx 3) (qx 8) (qx 9) (qx 18) (qx 27) (qx 28) (qx 29) (qx 30) (qx 31) (qx 32) (qx 2) (qx 6) (qx 7) ((xs 1))) w766 w763 w764 w765 w63 hdX10_many ⟨rfl, rfl⟩ ⟨Nat.le_of_ble_eq_true rfl, Nat.le_of_ble_eq_true rfl⟩ rfl hl.1 (Nat.le_of_ble_eq_true rfl) dL_law_1290 ⟨Nat.le_of_ble_eq_true rfl, Nat.le_of_ble_eq_true rfl⟩) hP hD hS hA (wr := MW k qm) [0, 1, 5] [41, 42, 43, 44, 45, 46, 47, 48, 49, 50, 51, 52, 53, 54, 55, 56, 57, 58, 59, 60, 61, 62] rfl rfl (by decide) (by decide) (fun r1 H locs hB J hS => ?_)
  obtain rfl := hB
  obtain ⟨hP, hD⟩ := J.nil
  refine lv_aload_n hx hb dL_law_1293 rfl (lv_at hl 1 rfl) ?_
  refine lv_aload_n hx hb dL_law_1294 rfl (lv_at hl 3 rfl) ?_
  refine lv_iload_n hx hb dL_law_1295 rfl (lv_at hl 0 rfl) ?_
  refine lv_iconst (v := 1) hx hb dL_law_1296 (by decide) ?_
  refine lv_iadd hx hb dL_law_1297 (sv_i (v := 1) (by decide +kernel) ?_)
  refine va_sld hx hb hX hbl hbA hS (ix_in (j := 1) (by decide +kernel)).1 dL_law_1298 (sv_i (v := xs 1) (by rw [(ix_in (j := 1) (n := 6) (by decide +kernel)).2]) ?_)
  refine cI (rV (q0 := 0) (ci := 8) (As := [.int (xs 1)]) (rest := [.int (F_many ((xs 1)))]) (wc := [((qm 0), .inr (8, [.int 2, .int 0, .int 1, .int 0, .int 0, .int 0, .ref (qm 1), .ref (qm 2), .int 0, .int 0, .ref (qm 3), .ref (qm 4), .ref (qm 5), .ref (qm 6), .ref (qm 7), .ref (qm 8), .ref (qm 9), .int 0, .int 0, .int 0, .ref (qm 10), .ref (qm 11), .ref (qm 12), .ref (qm 13), .int 0, .int 0, .ref (qm 14), .ref (qm 15), .ref (qm 16), .ref (qm 17), .int 0, .int 0, .ref (qm 18), .ref (qm 19), .ref (qm 20), .ref (qm 21)]))]) hx hb hml hown hU hK hP hD rfl rfl [0] rfl (by decide) (cX11_many_1 l D k _ (qm 0) (qm 1) (qm 2) (qm 3) (qm 4) (qm 5) (qm 6) (qm 7) (qm 8) (qm 9) (qm 10) (qm 11) (qm 12) (qm 13) (qm 14) (qm 15) (qm 16) (qm 17) (qm 18) (qm 19) (qm 20) (qm 21) ((xs 1))) w1213 w1210 w1211 w1212 w72 hdX11_many ⟨rfl, rfl⟩ ⟨Nat.le_of_ble_eq_true rfl, Nat.le_of_ble_eq_true rfl⟩ rfl hl.1 (Nat.le_of_ble_eq_true rfl) dL_law_1299 ⟨Nat.le_of_ble_eq_true rfl, Nat.le_of_ble_eq_true rfl⟩) hP hD hS hA (wr := []) [0] [] rfl rfl (by decide) (by decide) (fun r2 H locs hB J hS => ?_)
  obtain rfl := hB
  refine lv_icmp_eq (tgt := 1333) hx hb dL_law_1302 (by decide) (fun _ => ?_) (fun cc => absurd rfl cc)
  exact law_end l C0 hA' hbA (Nat.le_of_ble_eq_true rfl) (Nat.le_of_ble_eq_true rfl) hS (lv_sub hl [0, 3] rfl)
set_option maxHeartbeats 4000000 in
set_option maxRecDepth 100000 in
theorem law_keep {p : Program} {e : Env} {s : State} {m : MethodId} {below : List Frame} {meth : Method} {c : Code} (l : Launch) {b : Nat} {xs : Nat → Int32} (C0 : lw_At p s m meth c b 6 xs) {D : va_G} {k : Nat → ClassId} (hK : kX D k s) {A : Nat → Prop} (hA : ∀ q, s.heap.size ≤ q → A q) (hA' : ∀ q, A q → s.heap.size ≤ q) (hbA : ¬ A b) (qx qm : Nat → Nat) {H : Heap} {locs : List Loc} {ls : Array Slot} (hP : va_P D cl0 (XW k qx ++ MW k qm) H) (hD : va_D A (XW k qx ++ MW k qm)) (hS : va_S A s.heap H locs) (hl : lv_has ls 4 [(3, .int 0), (2, .ref (qm 0)), (1, .ref (qx 0)), (0, .ref b)]) : W p l e room_1 s m #[Value.ref b] below meth c H locs 63 17884 (lw_Z below #[Value.ref b] s) (F0 m 1307 ls []) := by
  obtain ⟨hx, hb, hr, hml, hown, hts, hX, hbl, hlocks, hgv⟩ := id C0
  have hU : ∀ w ∈ uw, w.before #[Value.ref b] s = true := fun w h => hts w (List.mem_filter.mp h).1
  refine lv_aload_n hx hb dL_law_1307 rfl (lv_at hl 2 rfl) ?_
  refine cI (rV (q0 := 0) (ci := 7) (As := []) (rest := []) (wc := [((qx 0), .inr (7, [.ref (qx 1), .ref (qx 3), .int 0, .ref (qx 5), .ref (qx 8), .ref (qx 9), .int 0, .ref (qx 18), .int 0, .null, .ref (qx 27), .int 0, .ref (qx 28), .ref (qx 29), .ref (qx 30), .ref (qx 31), .ref (qx 32)])), ((qx 1), .inr (4, [.int 2, .int 0, .int 1, .ref (qx 2)])), ((qx 2), .inl (k 1, 36, .inr (.inl (tL [] 0)))), ((qx 3), .inr (4, [.int 2, .int 0, .int 1, .ref (qx 4)])), ((qx 4), .inl (k 1, 36, .inr (.inl (tL [] 0))))]) hx hb hml hown hU hK hP hD rfl rfl [0, 1, 2, 3, 4] rfl (by decide) (cX10_keep_1 l D k _ (qx 0) (qx 1) (qx 2) (qx 3) (qx 4) (qx 5) (qx 8) (qx 9) (qx 18) (qx 27) (qx 28) (qx 29) (qx 30) (qx 31) (qx 32)) w770 w767 w768 w769 w63 hdX10_keep ⟨rfl, rfl⟩ ⟨Nat.le_of_ble_eq_true rfl, Nat.le_of_ble_eq_true rfl⟩ rfl hl.1 (Nat.le_of_ble_eq_true rfl) dL_law_1308 ⟨Nat.le_of_ble_eq_true rfl, Nat.le_of_ble_eq_true rfl⟩) hP hD hS hA (wr := MW k qm) [0, 1, 2, 3, 4] [41, 42, 43, 44, 45, 46, 47, 48, 49, 50, 51, 52, 53, 54, 55, 56, 57, 58, 59, 60, 61, 62] rfl rfl (by decide) (by decide) (fun r1 H locs hB J hS => ?_)
  obtain rfl := hB
  obtain ⟨hP, hD⟩ := J.nil
  refine lv_aload_n hx hb dL_law_1311 rfl (lv_at hl 1 rfl) ?_
  refine cI (rV (q0 := 0) (ci := 8) (As := []) (rest := [.int (F_keep)]) (wc := [((qm 0), .inr (8, [.int 2, .int 0, .int 1, .int 0, .int 0, .int 0, .ref (qm 1), .ref (qm 2), .int 0, .int 0, .ref (qm 3), .ref (qm 4), .ref (qm 5), .ref (qm 6), .ref (qm 7), .ref (qm 8), .ref (qm 9), .int 0, .int 0, .int 0, .ref (qm 10), .ref (qm 11), .ref (qm 12), .ref (qm 13), .int 0, .int 0, .ref (qm 14), .ref (qm 15), .ref (qm 16), .ref (qm 17), .int 0, .int 0, .ref (qm 18), .ref (qm 19), .ref (qm 20), .ref (qm 21)])), ((qm 1), .inl (k 0, 36, .inl (tI [] 0))), ((qm 2), .inl (k 0, 36, .inl (tI [] 0)))]) hx hb hml hown hU hK hP hD rfl rfl [0, 1, 2] rfl (by decide) (cX11_keep_1 l D k _ (qm 0) (qm 1) (qm 2) (qm 3) (qm 4) (qm 5) (qm 6) (qm 7) (qm 8) (qm 9) (qm 10) (qm 11) (qm 12) (qm 13) (qm 14) (qm 15) (qm 16) (qm 17) (qm 18) (qm 19) (qm 20) (qm 21)) w1217 w1214 w1215 w1216 w72 hdX11_keep ⟨rfl, rfl⟩ ⟨Nat.le_of_ble_eq_true rfl, Nat.le_of_ble_eq_true rfl⟩ rfl hl.1 (Nat.le_of_ble_eq_true rfl) dL_law_1312 ⟨Nat.le_of_ble_eq_true rfl, Nat.le_of_ble_eq_true rfl⟩) hP hD hS hA (wr := []) [0, 1, 2] [] rfl rfl (by decide) (by decide) (fun r2 H locs hB J hS => ?_)
  obtain rfl := hB
  refine lv_icmp_eq (tgt := 1333) hx hb dL_law_1315 (by decide) (fun _ => ?_) (fun cc => absurd rfl cc)
  exact law_end l C0 hA' hbA (Nat.le_of_ble_eq_true rfl) (Nat.le_of_ble_eq_true rfl) hS (lv_sub hl [0, 3] rfl)
set_option maxHeartbeats 4000000 in
set_option maxRecDepth 100000 in
theorem law_again {p : Program} {e : Env} {s : State} {m : MethodId} {below : List Frame} {meth : Method} {c : Code} (l : Launch) {b : Nat} {xs : Nat → Int32} (C0 : lw_At p s m meth c b 6 xs) {D : va_G} {k : Nat → ClassId} (hK : kX D k s) {A : Nat → Prop} (hA : ∀ q, s.heap.size ≤ q → A q) (hA' : ∀ q, A q → s.heap.size ≤ q) (hbA : ¬ A b) (qx qm : Nat → Nat) {H : Heap} {locs : List Loc} {ls : Array Slot} (hP : va_P D cl0 (XW k qx ++ MW k qm) H) (hD : va_D A (XW k qx ++ MW k qm)) (hS : va_S A s.heap H locs) (hl : lv_has ls 4 [(3, .int 0), (2, .ref (qm 0)), (1, .ref (qx 0)), (0, .ref b)]) : W p l e room_1 s m #[Value.ref b] below meth c H locs 63 17884 (lw_Z below #[Value.ref b] s) (F0 m 1320 ls []) := by
  obtain ⟨hx, hb, hr, hml, hown, hts, hX, hbl, hlocks, hgv⟩ := id C0
  have hU : ∀ w ∈ uw, w.before #[Value.ref b] s = true := fun w h => hts w (List.mem_filter.mp h).1
  refine lv_aload_n hx hb dL_law_1320 rfl (lv_at hl 2 rfl) ?_
  refine cI (rV (q0 := 0) (ci := 7) (As := []) (rest := []) (wc := [((qx 0), .inr (7, [.ref (qx 1), .ref (qx 3), .int 0, .ref (qx 5), .ref (qx 8), .ref (qx 9), .int 0, .ref (qx 18), .int 0, .null, .ref (qx 27), .int 0, .ref (qx 28), .ref (qx 29), .ref (qx 30), .ref (qx 31), .ref (qx 32)]))]) hx hb hml hown hU hK hP hD rfl rfl [0] rfl (by decide) (cX10_again_1 l D k _ (qx 0) (qx 1) (qx 3) (qx 5) (qx 8) (qx 9) (qx 18) (qx 27) (qx 28) (qx 29) (qx 30) (qx 31) (qx 32)) w778 w775 w776 w777 w63 hdX10_again ⟨rfl, rfl⟩ ⟨Nat.le_of_ble_eq_true rfl, Nat.le_of_ble_eq_true rfl⟩ rfl hl.1 (Nat.le_of_ble_eq_true rfl) dL_law_1321 ⟨Nat.le_of_ble_eq_true rfl, Nat.le_of_ble_eq_true rfl⟩) hP hD hS hA (wr := MW k qm) [0] [41, 42, 43, 44, 45, 46, 47, 48, 49, 50, 51, 52, 53, 54, 55, 56, 57, 58, 59, 60, 61, 62] rfl rfl (by decide) (by decide) (fun r1 H locs hB J hS => ?_)
  obtain rfl := hB
  obtain ⟨hP, hD⟩ := J.nil
  refine lv_aload_n hx hb dL_law_1324 rfl (lv_at hl 1 rfl) ?_
  refine cI (rV (q0 := 0) (ci := 8) (As := []) (rest := [.int (F_again)]) (wc := [((qm 0), .inr (8, [.int 2, .int 0, .int 1, .int 0, .int 0, .int 0, .ref (qm 1), .ref (qm 2), .int 0, .int 0, .ref (qm 3), .ref (qm 4), .ref (qm 5), .ref (qm 6), .ref (qm 7), .ref (qm 8), .ref (qm 9), .int 0, .int 0, .int 0, .ref (qm 10), .ref (qm 11), .ref (qm 12), .ref (qm 13), .int 0, .int 0, .ref (qm 14), .ref (qm 15), .ref (qm 16), .ref (qm 17), .int 0, .int 0, .ref (qm 18), .ref (qm 19), .ref (qm 20), .ref (qm 21)]))]) hx hb hml hown hU hK hP hD rfl rfl [0] rfl (by decide) (cX11_again_1 l D k _ (qm 0) (qm 1) (qm 2) (qm 3) (qm 4) (qm 5) (qm 6) (qm 7) (qm 8) (qm 9) (qm 10) (qm 11) (qm 12) (qm 13) (qm 14) (qm 15) (qm 16) (qm 17) (qm 18) (qm 19) (qm 20) (qm 21)) w1221 w1218 w1219 w1220 w72 hdX11_again ⟨rfl, rfl⟩ ⟨Nat.le_of_ble_eq_true rfl, Nat.le_of_ble_eq_true rfl⟩ rfl hl.1 (Nat.le_of_ble_eq_true rfl) dL_law_1325 ⟨Nat.le_of_ble_eq_true rfl, Nat.le_of_ble_eq_true rfl⟩) hP hD hS hA (wr := []) [0] [] rfl rfl (by decide) (by decide) (fun r2 H locs hB J hS => ?_)
  obtain rfl := hB
  refine lv_icmp_eq (tgt := 1333) hx hb dL_law_1328 (by decide) (fun _ => ?_) (fun cc => absurd rfl cc)
  exact law_end l C0 hA' hbA (Nat.le_of_ble_eq_true rfl) (Nat.le_of_ble_eq_true rfl) hS (lv_sub hl [0, 3] rfl)
