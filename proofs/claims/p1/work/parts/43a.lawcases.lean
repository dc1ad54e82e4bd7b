set_option maxHeartbeats 4000000 in
set_option maxRecDepth 100000 in
theorem law_size {p : Program} {e : Env} {s : State} {m : MethodId} {below : List Frame} {meth : Method} {c : Code} (l : Launch) {b : Nat} {xs : Nat → Int32} (C0 : lw_At p s m meth c b 6 xs) {D : va_G} {k : Nat → ClassId} (hK : kX D k s) {A : Nat → Prop} (hA : ∀ q, s.heap.size ≤ q → A q) (hA' : ∀ q, A q → s.heap.size ≤ q) (hbA : ¬ A b) (qx qm : Nat → Nat) {H : Heap} {locs : List Loc} {ls : Array Slot} (hP : va_P D cl0 (XW k qx ++ MW k qm) H) (hD : va_D A (XW k qx ++ MW k qm)) (hS : va_S A s.heap H locs) (hl : lv_has ls 4 [(3, .int 0), (2, .ref (qm 0)), (1, .ref (qx 0)), (0, .ref b)]) : W p l e room_1 s m #[Value.ref b] below meth c H locs 63 17884 (lw_Z below #[Value.ref b] s) (F0 m 192 ls []) := by
  obtain ⟨hx, hb, hr, hml, hown, hts, hX, hbl, hlocks, hgv⟩ := id C0
  have hU : ∀ w ∈ uw, w.before #[Value.ref b] s = true := fun w h => hts w (List.mem_filter.mp h).1
  refine lv_aload_n hx hb dL_law_192 rfl (lv_at hl 2 rfl) ?_
  refine lv_aload_n hx hb dL_law_193 rfl (lv_at hl 3 rfl) ?_
  refine lv_iload_n hx hb dL_law_194 rfl (lv_at hl 0 rfl) ?_
  refine lv_iconst (v := 1) hx hb dL_law_195 (by decide) ?_
  refine lv_iadd hx hb dL_law_196 (sv_i (v := 1) (by decide +kernel) ?_)
  refine va_sld hx hb hX hbl hbA hS (ix_in (j := 1) (by decide +kernel)).1 dL_law_197 (sv_i (v := xs 1) (by rw [(ix_in (j := 1) (n := 6) (by decide +kernel)).2]) ?_)
  refine cI (rV (q0 := 0) (ci := 7) (As := [.int (xs 1)]) (rest := []) (wc := [((qx 0), .inr (7, [.ref (qx 1), .ref (qx 3), .int 0, .ref (qx 5), .ref (qx 8), .ref (qx 9), .int 0, .ref (qx 18), .int 0, .null, .ref (qx 27), .int 0, .ref (qx 28), .ref (qx 29), .ref (qx 30), .ref (qx 31), .ref (qx 32)])), ((qx 1), .inr (4, [.int 2, .int 0, .int 1, .ref (qx 2)])), ((qx 27), .inl (k 0, 8, .inl (tI [] 0)))]) hx hb hml hown hU hK hP hD rfl rfl [0, 1, 27] rfl (by decide) (cX10_size_1 l D k _ (qx 0) (qx 1) (qx 27) (qx 3) (qx 5) (qx 8) (qx 9) (qx 18) (qx 28) (qx 29) (qx 30) (qx 31) (qx 32) (qx 2) ((xs 1))) w304 w301 w302 w303 w63 hdX10_size ⟨rfl, rfl⟩ ⟨Nat.le_of_ble_eq_true rfl, Nat.le_of_ble_eq_true rfl⟩ rfl hl.1 (Nat.le_of_ble_eq_true rfl) dL_law_198 ⟨Nat.le_of_ble_eq_true rfl, Nat.le_of_ble_eq_true rfl⟩) hP hD hS hA (wr := MW k qm) [0, 1, 27] [41, 42, 43, 44, 45, 46, 47, 48, 49, 50, 51, 52, 53, 54, 55, 56, 57, 58, 59, 60, 61, 62] rfl rfl (by decide) (by decide) (fun r1 H locs hB J hS => ?_)
  obtain rfl := hB
  obtain ⟨hP, hD⟩ := J.nil
  refine lv_aload_n hx hb dL_law_201 rfl (lv_at hl 1 rfl) ?_
  refine lv_aload_n hx hb dL_law_202 rfl (lv_at hl 3 rfl) ?_
  refine lv_iload_n hx hb dL_law_203 rfl (lv_at hl 0 rfl) ?_
  refine lv_iconst (v := 1) hx hb dL_law_204 (by decide) ?_
  refine lv_iadd hx hb dL_law_205 (sv_i (v := 1) (by decide +kernel) ?_)
  refine va_sld hx hb hX hbl hbA hS (ix_in (j := 1) (by decide +kernel)).1 dL_law_206 (sv_i (v := xs 1) (by rw [(ix_in (j := 1) (n := 6) (by decide +kernel)).2]) ?_)
  refine cI (rV (q0 := 0) (ci := 8) (As := [.int (xs 1)]) (rest := [.int (F_size ((xs 1)))]) (wc := [((qm 0), .inr (8, [.int 2, .int 0, .int 1, .int 0, .int 0, .int 0, .ref (qm 1), .ref (qm 2), .int 0, .int 0, .ref (qm 3), .ref (qm 4), .ref (qm 5), .ref (qm 6), .ref (qm 7), .ref (qm 8), .ref (qm 9), .int 0, .int 0, .int 0, .ref (qm 10), .ref (qm 11), .ref (qm 12), .ref (qm 13), .int 0, .int 0, .ref (qm 14), .ref (qm 15), .ref (qm 16), .ref (qm 17), .int 0, .int 0, .ref (qm 18), .ref (qm 19), .ref (qm 20), .ref (qm 21)]))]) hx hb hml hown hU hK hP hD rfl rfl [0] rfl (by decide) (cX11_size_1 l D k _ (qm 0) (qm 1) (qm 2) (qm 3) (qm 4) (qm 5) (qm 6) (qm 7) (qm 8) (qm 9) (qm 10) (qm 11) (qm 12) (qm 13) (qm 14) (qm 15) (qm 16) (qm 17) (qm 18) (qm 19) (qm 20) (qm 21) ((xs 1))) w897 w894 w895 w896 w72 hdX11_size ⟨rfl, rfl⟩ ⟨Nat.le_of_ble_eq_true rfl, Nat.le_of_ble_eq_true rfl⟩ rfl hl.1 (Nat.le_of_ble_eq_true rfl) dL_law_207 ⟨Nat.le_of_ble_eq_true rfl, Nat.le_of_ble_eq_true rfl⟩) hP hD hS hA (wr := []) [0] [] rfl rfl (by decide) (by decide) (fun r2 H locs hB J hS => ?_)
  obtain rfl := hB
  refine lv_icmp_eq (tgt := 1333) hx hb dL_law_210 (by decide) (fun _ => ?_) (fun cc => absurd rfl cc)
  exact law_end l C0 hA' hbA (Nat.le_of_ble_eq_true rfl) (Nat.le_of_ble_eq_true rfl) hS (lv_sub hl [0, 3] rfl)
set_option maxHeartbeats 4000000 in
set_option maxRecDepth 100000 in
theorem law_unit {p : Program} {e : Env} {s : State} {m : MethodId} {below : List Frame} {meth : Method} {c : Code} (l : Launch) {b : Nat} {xs : Nat → Int32} (C0 : lw_At p s m meth c b 6 xs) {D : va_G} {k : Nat → ClassId} (hK : kX D k s) {A : Nat → Prop} (hA : ∀ q, s.heap.size ≤ q → A q) (hA' : ∀ q, A q → s.heap.size ≤ q) (hbA : ¬ A b) (qx qm : Nat → Nat) {H : Heap} {locs : List Loc} {ls : Array Slot} (hP : va_P D cl0 (XW k qx ++ MW k qm) H) (hD : va_D A (XW k qx ++ MW k qm)) (hS : va_S A s.heap H locs) (hl : lv_has ls 4 [(3, .int 0), (2, .ref (qm 0)), (1, .ref (qx 0)), (0, .ref b)]) : W p l e room_1 s m #[Value.ref b] below meth c H locs 63 17884 (lw_Z below #[Value.ref b] s) (F0 m 215 ls []) := by
  obtain ⟨hx, hb, hr, hml, hown, hts, hX, hbl, hlocks, hgv⟩ := id C0
  have hU : ∀ w ∈ uw, w.before #[Value.ref b] s = true := fun w h => hts w (List.mem_filter.mp h).1
  refine lv_aload_n hx hb dL_law_215 rfl (lv_at hl 2 rfl) ?_
  refine lv_aload_n hx hb dL_law_216 rfl (lv_at hl 3 rfl) ?_
  refine lv_iload_n hx hb dL_law_217 rfl (lv_at hl 0 rfl) ?_
  refine lv_iconst (v := 1) hx hb dL_law_218 (by decide) ?_
  refine lv_iadd hx hb dL_law_219 (sv_i (v := 1) (by decide +kernel) ?_)
  refine va_sld hx hb hX hbl hbA hS (ix_in (j := 1) (by decide +kernel)).1 dL_law_220 (sv_i (v := xs 1) (by rw [(ix_in (j := 1) (n := 6) (by decide +kernel)).2]) ?_)
  refine lv_aload_n hx hb dL_law_221 rfl (lv_at hl 3 rfl) ?_
  refine lv_iload_n hx hb dL_law_222 rfl (lv_at hl 0 rfl) ?_
  refine lv_iconst (v := 2) hx hb dL_law_223 (by decide) ?_
  refine lv_iadd hx hb dL_law_224 (sv_i (v := 2) (by decide +kernel) ?_)
  refine va_sld hx hb hX hbl hbA hS (ix_in (j := 2) (by decide +kernel)).1 dL_law_225 (sv_i (v := xs 2) (by rw [(ix_in (j := 2) (n := 6) (by decide +kernel)).2]) ?_)
  refine lv_aload_n hx hb dL_law_226 rfl (lv_at hl 3 rfl) ?_
  refine lv_iload_n hx hb dL_law_227 rfl (lv_at hl 0 rfl) ?_
  refine lv_iconst (v := 3) hx hb dL_law_228 (by decide) ?_
  refine lv_iadd hx hb dL_law_229 (sv_i (v := 3) (by decide +kernel) ?_)
  refine va_sld hx hb hX hbl hbA hS (ix_in (j := 3) (by decide +kernel)).1 dL_law_230 (sv_i (v := xs 3) (by rw [(ix_in (j := 3) (n := 6) (by decide +kernel)).2]) ?_)
  refine cI (rV (q0 := 0) (ci := 7) (As := [.int (xs 1), .int (xs 2), .int (xs 3)]) (rest := []) (wc := [((qx 0), .inr (7, [.ref (qx 1), .ref (qx 3), .int 0, .ref (qx 5), .ref (qx 8), .ref (qx 9), .int 0, .ref (qx 18), .int 0, .null, .ref (qx 27), .int 0, .ref (qx 28), .ref (qx 29), .ref (qx 30), .ref (qx 31), .ref (qx 32)])), ((qx 1), .inr (4, [.int 2, .int 0, .int 1, .ref (qx 2)])), ((qx 2), .inl (k 1, 36, .inr (.inl (tL [] 0)))), ((qx 27), .inl (k 0, 8, .inl (tI [] 0))), ((qx 31), .inl (k 1, 9, .inr (.inl (tL [] 0))))]) hx hb hml hown hU hK hP hD rfl rfl [0, 1, 2, 27, 31] rfl (by decide) (cX10_unit_1 l D k _ (qx 0) (qx 1) (qx 2) (qx 27) (qx 31) (qx 3) (qx 5) (qx 8) (qx 9) (qx 18) (qx 28) (qx 29) (qx 30) (qx 32) ((xs 1)) ((xs 2)) ((xs 3))) w315 w312 w313 w314 w63 hdX10_unit ⟨rfl, rfl⟩ ⟨Nat.le_of_ble_eq_true rfl, Nat.le_of_ble_eq_true rfl⟩ rfl hl.1 (Nat.le_of_ble_eq_true rfl) dL_law_231 ⟨Nat.le_of_ble_eq_true rfl, Nat.le_of_ble_eq_true rfl⟩) hP hD hS hA (wr := MW k qm) [0, 1, 2, 27, 31] [41, 42, 43, 44, 45, 46, 47, 48, 49, 50, 51, 52, 53, 54, 55, 56, 57, 58, 59, 60, 61, 62] rfl rfl (by decide) (by decide) (fun r1 H locs hB J hS => ?_)
  obtain rfl := hB
  obtain ⟨hP, hD⟩ := J.nil
  refine lv_aload_n hx hb dL_law_234 rfl (lv_at hl 1 rfl) ?_
  refine lv_aload_n hx hb dL_law_235 rfl (lv_at hl 3 rfl) ?_
  refine lv_iload_n hx hb dL_law_236 rfl (lv_at hl 0 rfl) ?_
  refine lv_iconst (v := 1) hx hb dL_law_237 (by decide) ?_
  refine lv_iadd hx hb dL_law_238 (sv_i (v := 1) (by decide +kernel) ?_)
  refine va_sld hx hb hX hbl hbA hS (ix_in (j := 1) (by decide +kernel)).1 dL_law_239 (sv_i (v := xs 1) (by rw [(ix_in (j := 1) (n := 6) (by decide +kernel)).2]) ?_)
  refine lv_aload_n hx hb dL_law_240 rfl (lv_at hl 3 rfl) ?_
  refine lv_iload_n hx hb dL_law_241 rfl (lv_at hl 0 rfl) ?_
  refine lv_iconst (v := 2) hx hb dL_law_242 (by decide) ?_
  refine lv_iadd hx hb dL_law_243 (sv_i (v := 2) (by decide +kernel) ?_)
  refine va_sld hx hb hX hbl hbA hS (ix_in (j := 2) (by decide +kernel)).1 dL_law_244 (sv_i (v := xs 2) (by rw [(ix_in (j := 2) (n := 6) (by decide +kernel)).2]) ?_)
  refine lv_aload_n hx hb dL_law_245 rfl (lv_at hl 3 rfl) ?_
  refine lv_iload_n hx hb dL_law_246 rfl (lv_at hl 0 rfl) ?_
  refine lv_iconst (v := 3) hx hb dL_law_247 (by decide) ?_
  refine lv_iadd hx hb dL_law_248 (sv_i (v := 3) (by decide +kernel) ?_)
  refine va_sld hx hb hX hbl hbA hS (ix_in (j := 3) (by decide +kernel)).1 dL_law_249 (sv_i (v := xs 3) (by rw [(ix_in (j := 3) (n := 6) (by decide +kernel)).2]) ?_)
  refine cI (rV (q0 := 0) (ci := 8) (As := [.int (xs 1), .int (xs 2), .int (xs 3)]) (rest := [.int (F_unit ((xs 1)) ((xs 2)) ((xs 3)))]) (wc := [((qm 0), .inr (8, [.int 2, .int 0, .int 1, .int 0, .int 0, .int 0, .ref (qm 1), .ref (qm 2), .int 0, .int 0, .ref (qm 3), .ref (qm 4), .ref (qm 5), .ref (qm 6), .ref (qm 7), .ref (qm 8), .ref (qm 9), .int 0, .int 0, .int 0, .ref (qm 10), .ref (qm 11), .ref (qm 12), .ref (qm 13), .int 0, .int 0, .ref (qm 14), .ref (qm 15), .ref (qm 16), .ref (qm 17), .int 0, .int 0, .ref (qm 18), .ref (qm 19), .ref (qm 20), .ref (qm 21)])), ((qm 1), .inl (k 0, 36, .inl (tI [] 0))), ((qm 3), .inl (k 1, 9, .inr (.inl (tL [] 0))))]) hx hb hml hown hU hK hP hD rfl rfl [0, 1, 3] rfl (by decide) (cX11_unit_1 l D k _ (qm 0) (qm 1) (qm 3) (qm 2) (qm 4) (qm 5) (qm 6) (qm 7) (qm 8) (qm 9) (qm 10) (qm 11) (qm 12) (qm 13) (qm 14) (qm 15) (qm 16) (qm 17) (qm 18) (qm 19) (qm 20) (qm 21) ((xs 1)) ((xs 2)) ((xs 3))) w905 w902 w903 w904 w72 hdX11_unit ⟨rfl, rfl⟩ ⟨Nat.le_of_ble_eq_true rfl, Nat.le_of_ble_eq_true rfl⟩ rfl hl.1 (Nat.le_of_ble_eq_true rfl) dL_law_250 ⟨Nat.le_of_ble_eq_true rfl, Nat.le_of_ble_eq_true rfl⟩) hP hD hS hA (wr := []) [0, 1, 3] [] rfl rfl (by decide) (by decide) (fun r2 H locs hB J hS => ?_)
  obtain rfl := hB
  refine lv_icmp_eq (tgt := 1333) hx hb dL_law_253 (by decide) (fun _ => ?_) (fun cc => absurd rfl cc)
  exact law_end l C0 hA' hbA (Nat.le_of_ble_eq_true rfl) (Nat.le_of_ble_eq_true rfl) hS (lv_sub hl [0, 3] rfl)
set_option maxHeartbeats 4000000 in
set_option maxRecDepth 100000 in
theorem law_made {p : Program} {e : Env} {s : State} {m : MethodId} {below : List Frame} {meth : Method} {c : Code} (l : Launch) {b : Nat} {xs : Nat → Int32} (C0 : lw_At p s m meth c b 6 xs) {D : va_G} {k : Nat → ClassId} (hK : kX D k s) {A : Nat → Prop} (hA : ∀ q, s.heap.size ≤ q → A q) (hA' : ∀ q, A q → s.heap.size ≤ q) (hbA : ¬ A b) (qx qm : Nat → Nat) {H : Heap} {locs : List Loc} {ls : Array Slot} (hP : va_P D cl0 (XW k qx ++ MW k qm) H) (hD : va_D A (XW k qx ++ MW k qm)) (hS : va_S A s.heap H locs) (hl : lv_has ls 4 [(3, .int 0), (2, .ref (qm 0)), (1, .ref (qx 0)), (0, .ref b)]) : W p l e room_1 s m #[Value.ref b] below meth c H locs 63 17884 (lw_Z below #[Value.ref b] s) (F0 m 258 ls []) := by
  obtain ⟨hx, hb, hr, hml, hown, hts, hX, hbl, hlocks, hgv⟩ := id C0
  have hU : ∀ w ∈ uw, w.before #[Value.ref b] s = true := fun w h => hts w (List.mem_filter.mp h).1
  refine lv_aload_n hx hb dL_law_258 rfl (lv_at hl 2 rfl) ?_
  refine lv_aload_n hx hb dL_law_259 rfl (lv_at hl 3 rfl) ?_
  refine lv_iload_n hx hb dL_law_260 rfl (lv_at hl 0 rfl) ?_
  refine lv_iconst (v := 1) hx hb dL_law_261 (by decide) ?_
  refine lv_iadd hx hb dL_law_262 (sv_i (v := 1) (by decide +kernel) ?_)
  refine va_sld hx hb hX hbl hbA hS (ix_in (j := 1) (by decide +kernel)).1 dL_law_263 (sv_i (v := xs 1) (by rw [(ix_in (j := 1) (n := 6) (by decide +kernel)).2]) ?_)
  refine lv_aload_n hx hb dL_law_264 rfl (lv_at hl 3 rfl) ?_
  refine lv_iload_n hx hb dL_law_265 rfl (lv_at hl 0 rfl) ?_
  refine lv_iconst (v := 2) hx hb dL_law_266 (by decide) ?_
  refine lv_iadd hx hb dL_law_267 (sv_i (v := 2) (by decide +kernel) ?_)
  refine va_sld hx hb hX hbl hbA hS (ix_in (j := 2) (by decide +kernel)).1 dL_law_268 (sv_i (v := xs 2) (by rw [(ix_in (j := 2) (n := 6) (by decide +kernel)).2]) ?_)
  refine lv_aload_n hx hb dL_law_269 rfl (lv_at hl 3 rfl) ?_
  refine lv_iload_n hx hb dL_law_270 rfl (lv_at hl 0 rfl) ?_
  refine lv_iconst (v := 3) hx hb dL_law_271 (by decide) ?_
  refine lv_iadd hx hb dL_law_272 (sv_i (v := 3) (by decide +kernel) ?_)
  refine va_sld hx hb hX hbl hbA hS (ix_in (j := 3) (by decide +kernel)).1 dL_law_273 (sv_i (v := xs 3) (by rw [(ix_in (j := 3) (n := 6) (by decide +kernel)).2]) ?_)
  refine cI (rV (q0 := 0) (ci := 7) (As := [.int (xs 1), .int (xs 2), .int (xs 3)]) (rest := []) (wc := [((qx 0), .inr (7, [.ref (qx 1), .ref (qx 3), .int 0, .ref (qx 5), .ref (qx 8), .ref (qx 9), .int 0, .ref (qx 18), .int 0, .null, .ref (qx 27), .int 0, .ref (qx 28), .ref (qx 29), .ref (qx 30), .ref (qx 31), .ref (qx 32)])), ((qx 1), .inr (4, [.int 2, .int 0, .int 1, .ref (qx 2)]))]) hx hb hml hown hU hK hP hD rfl rfl [0, 1] rfl (by decide) (cX10_made_1 l D k _ (qx 0) (qx 1) (qx 3) (qx 5) (qx 8) (qx 9) (qx 18) (qx 27) (qx 28) (qx 29) (qx 30) (qx 31) (qx 32) (qx 2) ((xs 1)) ((xs 2)) ((xs 3))) w352 w349 w350 w351 w63 hdX10_made ⟨rfl, rfl⟩ ⟨Nat.le_of_ble_eq_true rfl, Nat.le_of_ble_eq_true rfl⟩ rfl hl.1 (Nat.le_of_ble_eq_true rfl) dL_law_274 ⟨Nat.le_of_ble_eq_true rfl, Nat.le_of_ble_eq_true rfl⟩) hP hD hS hA (wr := MW k qm) [0, 1] [41, 42, 43, 44, 45, 46, 47, 48, 49, 50, 51, 52, 53, 54, 55, 56, 57, 58, 59, 60, 61, 62] rfl rfl (by decide) (by decide) (fun r1 H locs hB J hS => ?_)
  obtain rfl := hB
  obtain ⟨hP, hD⟩ := J.nil
  refine lv_aload_n hx hb dL_law_277 rfl (lv_at hl 1 rfl) ?_
  refine lv_aload_n hx hb dL_law_278 rfl (lv_at hl 3 rfl) ?_
  refine lv_iload_n hx hb dL_law_279 rfl (lv_at hl 0 rfl) ?_
  refine lv_iconst (v := 1) hx hb dL_law_280 (by decide) ?_
  refine lv_iadd hx hb dL_law_281 (sv_i (v := 1) (by decide +kernel) ?_)
  refine va_sld hx hb hX hbl hbA hS (ix_in (j := 1) (by decide +kernel)).1 dL_law_282 (sv_i (v := xs 1) (by rw [(ix_in (j := 1) (n := 6) (by decide +kernel)).2]) ?_)
  refine lv_aload_n hx hb dL_law_283 rfl (lv_at hl 3 rfl) ?_
  refine lv_iload_n hx hb dL_law_284 rfl (lv_at hl 0 rfl) ?_
  refine lv_iconst (v := 2) hx hb dL_law_285 (by decide) ?_
  refine lv_iadd hx hb dL_law_286 (sv_i (v := 2) (by decide +kernel) ?_)
  refine va_sld hx hb hX hbl hbA hS (ix_in (j := 2) (by decide +kernel)).1 dL_law_287 (sv_i (v := xs 2) (by rw [(ix_in (j := 2) (n := 6) (by decide +kernel)).2]) ?_)
  refine lv_aload_n hx hb dL_law_288 rfl (lv_at hl 3 rfl) ?_
  refine lv_iload_n hx hb dL_law_289 rfl (lv_at hl 0 rfl) ?_
  refine lv_iconst (v := 3) hx hb dL_law_290 (by decide) ?_
  refine lv_iadd hx hb dL_law_291 (sv_i (v := 3) (by decide +kernel) ?_)
  refine va_sld hx hb hX hbl hbA hS (ix_in (j := 3) (by decide +kernel)).1 dL_law_292 (sv_i (v := xs 3) (by rw [(ix_in (j := 3) (n := 6) (by decide +kernel)).2]) ?_)
  refine cI (rV (q0 := 0) (ci := 8) (As := [.int (xs 1), .int (xs 2), .int (xs 3)]) (rest := [.int (F_made ((xs 1)) ((xs 2)) ((xs 3)))]) (wc := [((qm 0), .inr (8, [.int 2, .int 0, .int 1, .int 0, .int 0, .int 0, .ref (qm 1), .ref (qm 2), .int 0, .int 0, .ref (qm 3), .ref (qm 4), .ref (qm 5), .ref (qm 6), .ref (qm 7), .ref (qm 8), .ref (qm 9), .int 0, .int 0, .int 0, .ref (qm 10), .ref (qm 11), .ref (qm 12), .ref (qm 13), .int 0, .int 0, .ref (qm 14), .ref (qm 15), .ref (qm 16), .ref (qm 17), .int 0, .int 0, .ref (qm 18), .ref (qm 19), .ref (qm 20), .ref (qm 21)]))]) hx hb hml hown hU hK hP hD rfl rfl [0] rfl (by decide) (cX11_made_1 l D k _ (qm 0) (qm 1) (qm 2) (qm 3) (qm 4) (qm 5) (qm 6) (qm 7) (qm 8) (qm 9) (qm 10) (qm 11) (qm 12) (qm 13) (qm 14) (qm 15) (qm 16) (qm 17) (qm 18) (qm 19) (qm 20) (qm 21) ((xs 1)) ((xs 2)) ((xs 3))) w931 w928 w929 w930 w72 hdX11_made ⟨rfl, rfl⟩ ⟨Nat.le_of_ble_eq_true rfl, Nat.le_of_ble_eq_true rfl⟩ rfl hl.1 (Nat.le_of_ble_eq_true rfl) dL_law_293 ⟨Nat.le_of_ble_eq_true rfl, Nat.le_of_ble_eq_true rfl⟩) hP hD hS hA (wr := []) [0] [] rfl rfl (by decide) (by decide) (fun r2 H locs hB J hS => ?_)
  obtain rfl := hB
  refine lv_icmp_eq (tgt := 1333) hx hb dL_law_296 (by decide) (fun _ => ?_) (fun cc => absurd rfl cc)
  exact law_end l C0 hA' hbA (Nat.le_of_ble_eq_true rfl) (Nat.le_of_ble_eq_true rfl) hS (lv_sub hl [0, 3] rfl)
set_option maxHeartbeats 4000000 in
set_option maxRecDepth 100000 in
theorem law_drop {p : Program} {e : Env} {s : State} {m : MethodId} {below : List Frame} {meth : Method} {c : Code} (l : Launch) {b : Nat} {xs : Nat → Int32} (C0 : lw_At p s m meth c b 6 xs) {D : va_G} {k : Nat → ClassId} (hK : kX D k s) {A : Nat → Prop} (hA : ∀ q, s.heap.size ≤ q → A q) (hA' : ∀ q, A q → s.heap.size ≤ q) (hbA : ¬ A b) (qx qm : Nat → Nat) {H : Heap} {locs : List Loc} {ls : Array Slot} (hP : va_P D cl0 (XW k qx ++ MW k qm) H) (hD : va_D A (XW k qx ++ MW k qm)) (hS : va_S A s.heap H locs) (hl : lv_has ls 4 [(3, .int 0), (2, .ref (qm 0)), (1, .ref (qx 0)), (0, .ref b)]) : W p l e room_1 s m #[Value.ref b] below meth c H locs 63 17884 (lw_Z below #[Value.ref b] s) (F0 m 301 ls []) := by
  obtain ⟨hx, hb, hr, hml, hown, hts, hX, hbl, hlocks, hgv⟩ := id C0
  have hU : ∀ w ∈ uw, w.before #[Value.ref b] s = true := fun w h => hts w (List.mem_filter.mp h).1
  refine lv_aload_n hx hb dL_law_301 rfl (lv_at hl 2 rfl) ?_
  refine cI (rV (q0 := 0) (ci := 7) (As := []) (rest := []) (wc := [((qx 0), .inr (7, [.ref (qx 1), .ref (qx 3), .int 0, .ref (qx 5), .ref (qx 8), .ref (qx 9), .int 0, .ref (qx 18), .int 0, .null, .ref (qx 27), .int 0, .ref (qx 28), .ref (qx 29), .ref (qx 30), .ref (qx 31), .ref (qx 32)])), ((qx 1), .inr (4, [.int 2, .int 0, .int 1, .ref (qx 2)]))]) hx hb hml hown hU hK hP hD rfl rfl [0, 1] rfl (by decide) (cX10_drop_1 l D k _ (qx 0) (qx 1) (qx 3) (qx 5) (qx 8) (qx 9) (qx 18) (qx 27) (qx 28) (qx 29) (qx 30) (qx 31) (qx 32) (qx 2)) w393 w390 w391 w392 w63 hdX10_drop ⟨rfl, rfl⟩ ⟨Nat.le_of_ble_eq_true rfl, Nat.le_of_ble_eq_true rfl⟩ rfl hl.1 (Nat.le_of_ble_eq_true rfl) dL_law_302 ⟨Nat.le_of_ble_eq_true rfl, Nat.le_of_ble_eq_true rfl⟩) hP hD hS hA (wr := MW k qm) [0, 1] [41, 42, 43, 44, 45, 46, 47, 48, 49, 50, 51, 52, 53, 54, 55, 56, 57, 58, 59, 60, 61, 62] rfl rfl (by decide) (by decide) (fun r1 H locs hB J hS => ?_)
  obtain rfl := hB
  obtain ⟨hP, hD⟩ := J.nil
  refine lv_aload_n hx hb dL_law_305 rfl (lv_at hl 1 rfl) ?_
  refine cI (rV (q0 := 0) (ci := 8) (As := []) (rest := [.int (F_drop)]) (wc := [((qm 0), .inr (8, [.int 2, .int 0, .int 1, .int 0, .int 0, .int 0, .ref (qm 1), .ref (qm 2), .int 0, .int 0, .ref (qm 3), .ref (qm 4), .ref (qm 5), .ref (qm 6), .ref (qm 7), .ref (qm 8), .ref (qm 9), .int 0, .int 0, .int 0, .ref (qm 10), .ref (qm 11), .ref (qm 12), .ref (qm 13), .int 0, .int 0, .ref (qm 14), .ref (qm 15), .ref (qm 16), .ref (qm 17), .int 0, .int 0, .ref (qm 18), .ref (qm 19), .ref (qm 20), .ref (qm 21)]))]) hx hb hml hown hU hK hP hD rfl rfl [0] rfl (by decide) (cX11_drop_1 l D k _ (qm 0) (qm 1) (qm 2) (qm 3) (qm 4) (qm 5) (qm 6) (qm 7) (qm 8) (qm 9) (qm 10) (qm 11) (qm 12) (qm 13) (qm 14) (qm 15) (qm 16) (qm 17) (qm 18) (qm 19) (qm 20) (qm 21)) w960 w957 w958 w959 w72 hdX11_drop ⟨rfl, rfl⟩ ⟨Nat.le_of_ble_eq_true rfl, Nat.le_of_ble_eq_true rfl⟩ rfl hl.1 (Nat.le_of_ble_eq_true rfl) dL_law_306 ⟨Nat.le_of_ble_eq_true rfl, Nat.le_of_ble_eq_true rfl⟩) hP hD hS hA (wr := []) [0] [] rfl rfl (by decide) (by decide) (fun r2 H locs hB J hS => ?_)
  obtain rfl := hB
  refine lv_icmp_eq (tgt := 1333) hx hb dL_law_309 (by decide) (fun _ => ?_) (fun cc => absurd rfl cc)
  exact law_end l C0 hA' hbA (Nat.le_of_ble_eq_true rfl) (Nat.le_of_ble_eq_true rfl) hS (lv_sub hl [0, 3] rfl)
set_option maxHeartbeats 4000000 in
set_option maxRecDepth 100000 in
theorem law_at {p : Program} {e : Env} {s : State} {m : MethodId} {below : List Frame} {meth : Method} {c : Code} (l : Launch) {b : Nat} {xs : Nat → Int32} (C0 : lw_At p s m meth c b 6 xs) {D : va_G} {k : Nat → ClassId} (hK : kX D k s) {A : Nat → Prop} (hA : ∀ q, s.heap.size ≤ q → A q) (hA' : ∀ q, A q → s.heap.size ≤ q) (hbA : ¬ A b) (qx qm : Nat → Nat) {H : Heap} {locs : List Loc} {ls : Array Slot} (hP : va_P D cl0 (XW k qx ++ MW k qm) H) (hD : va_D A (XW k qx ++ MW k qm)) (hS : va_S A s.heap H locs) (hl : lv_has ls 4 [(3, .int 0), (2, .ref (qm 0)), (1, .ref (qx 0)), (0, .ref b)]) : W p l e room_1 s m #[Value.ref b] below meth c H locs 63 17884 (lw_Z below #[Value.ref b] s) (F0 m 314 ls []) := by
  obtain ⟨hx, hb, hr, hml, hown, hts, hX, hbl, hlocks, hgv⟩ := id C0
  have hU : ∀ w ∈ uw, w.before #[Value.ref b] s = true := fun w h => hts w (List.mem_filter.mp h).1
  refine lv_aload_n hx hb dL_law_314 rfl (lv_at hl 2 rfl) ?_
  refine lv_aload_n hx hb dL_law_315 rfl (lv_at hl 3 rfl) ?_
  refine lv_iload_n hx hb dL_law_316 rfl (lv_at hl 0 rfl) ?_
  refine lv_iconst (v := 1) hx hb dL_law_317 (by decide) ?_
  refine lv_iadd hx hb dL_law_318 (sv_i (v := 1) (by decide +kernel) ?_)
  refine va_sld hx hb hX hbl hbA hS (ix_in (j := 1) (by decide +kernel)).1 dL_law_319 (sv_i (v := xs 1) (by rw [(ix_in (j := 1) (n := 6) (by decide +kernel)).2]) ?_)
  refine lv_aload_n hx hb dL_law_320 rfl (lv_at hl 3 rfl) ?_
  refine lv_iload_n hx hb dL_law_321 rfl (lv_at hl 0 rfl) ?_
  refine lv_iconst (v := 2) hx hb dL_law_322 (by decide) ?_
  refine lv_iadd hx hb dL_law_323 (sv_i (v := 2) (by decide +kernel) ?_)
  refine va_sld hx hb hX hbl hbA hS (ix_in (j := 2) (by decide +kernel)).1 dL_law_324 (sv_i (v := xs 2) (by rw [(ix_in (j := 2) (n := 6) (by decide +kernel)).2]) ?_)
  refine lv_aload_n hx hb dL_law_325 rfl (lv_at hl 3 rfl) ?_
  refine lv_iload_n hx hb dL_law_326 rfl (lv_at hl 0 rfl) ?_
  refine lv_iconst (v := 3) hx hb dL_law_327 (by decide) ?_
  refine lv_iadd hx hb dL_law_328 (sv_i (v := 3) (by decide +kernel) ?_)
  refine va_sld hx hb hX hbl hbA hS (ix_in (j := 3) (by decide +kernel)).1 dL_law_329 (sv_i (v := xs 3) (by rw [(ix_in (j := 3) (n := 6) (by decide +kernel)).2]) ?_)
  refine cI (rV (q0 := 0) (ci := 7) (As := [.int (xs 1), .int (xs 2), .int (xs 3)]) (rest := []) (wc := [((qx 0), .inr (7, [.ref (qx 1), .ref (qx 3), .int 0, .ref (qx 5), .ref (qx 8), .ref (qx 9), .int 0, .ref (qx 18), .int 0, .null, .ref (qx 27), .int 0, .ref (qx 28), .ref (qx 29), .ref (qx 30), .ref (qx 31), .ref (qx 32)])), ((qx 1), .inr (4, [.int 2, .int 0, .int 1, .ref (qx 2)]))]) hx hb hml hown hU hK hP hD rfl rfl [0, 1] rfl (by decide) (cX10_at_1 l D k _ (qx 0) (qx 1) (qx 3) (qx 5) (qx 8) (qx 9) (qx 18) (qx 27) (qx 28) (qx 29) (qx 30) (qx 31) (qx 32) (qx 2) ((xs 1)) ((xs 2)) ((xs 3))) w397 w394 w395 w396 w63 hdX10_at ⟨rfl, rfl⟩ ⟨Nat.le_of_ble_eq_true rfl, Nat.le_of_ble_eq_true rfl⟩ rfl hl.1 (Nat.le_of_ble_eq_true rfl) dL_law_330 ⟨Nat.le_of_ble_eq_true rfl, Nat.le_of_ble_eq_true rfl⟩) hP hD hS hA (wr := MW k qm) [0, 1] [41, 42, 43, 44, 45, 46, 47, 48, 49, 50, 51, 52, 53, 54, 55, 56, 57, 58, 59, 60, 61, 62] rfl rfl (by decide) (by decide) (fun r1 H locs hB J hS => ?_)
  obtain rfl := hB
  obtain ⟨hP, hD⟩ := J.nil
  refine lv_aload_n hx hb dL_law_333 rfl (lv_at hl 1 rfl) ?_
  refine lv_aload_n hx hb dL_law_334 rfl (lv_at hl 3 rfl) ?_
  refine lv_iload_n hx hb dL_law_335 rfl (lv_at hl 0 rfl) ?_
  refine lv_iconst (v := 1) hx hb dL_law_336 (by decide) ?_
  refine lv_iadd hx hb dL_law_337 (sv_i (v := 1) (by decide +kernel) ?_)
  refine va_sld hx hb hX hbl hbA hS (ix_in (j := 1) (by decide +kernel)).1 dL_law_338 (sv_i (v := xs 1) (by rw [(ix_in (j := 1) (n := 6) (by decide +kernel)).2]) ?_)
  refine lv_aload_n hx hb dL_law_339 rfl (lv_at hl 3 rfl) ?_
  refine lv_iload_n hx hb dL_law_340 rfl (lv_at hl 0 rfl) ?_
  refine lv_iconst (v := 2) hx hb dL_law_341 (by decide) ?_
  refine lv_iadd hx hb dL_law_342 (sv_i (v := 2) (by decide +kernel) ?_)
  refine va_sld hx hb hX hbl hbA hS (ix_in (j := 2) (by decide +kernel)).1 dL_law_343 (sv_i (v := xs 2) (by rw [(ix_in (j := 2) (n := 6) (by decide +kernel)).2]) ?_)
  refine lv_aload_n hx hb dL_law_344 rfl (lv_at hl 3 rfl) ?_
  refine lv_iload_n hx hb dL_law_345 rfl (lv_at hl 0 rfl) ?_
  refine lv_iconst (v := 3) hx hb dL_law_346 (by decide) ?_
  refine lv_iadd hx hb dL_law_347 (sv_i (v := 3) (by decide +kernel) ?_)
  refine va_sld hx hb hX hbl hbA hS (ix_in (j := 3) (by decide +kernel)).1 dL_law_348 (sv_i (v := xs 3) (by rw [(ix_in (j := 3) (n := 6) (by decide +kernel)).2]) ?_)
  refine cI (rV (q0 := 0) (ci := 8) (As := [.int (xs 1), .int (xs 2), .int (xs 3)]) (rest := [.int (F_at ((xs 1)) ((xs 2)) ((xs 3)))]) (wc := [((qm 0), .inr (8, [.int 2, .int 0, .int 1, .int 0, .int 0, .int 0, .ref (qm 1), .ref (qm 2), .int 0, .int 0, .ref (qm 3), .ref (qm 4), .ref (qm 5), .ref (qm 6), .ref (qm 7), .ref (qm 8), .ref (qm 9), .int 0, .int 0, .int 0, .ref (qm 10), .ref (qm 11), .ref (qm 12), .ref (qm 13), .int 0, .int 0, .ref (qm 14), .ref (qm 15), .ref (qm 16), .ref (qm 17), .int 0, .int 0, .ref (qm 18), .ref (qm 19), .ref (qm 20), .ref (qm 21)]))]) hx hb hml hown hU hK hP hD rfl rfl [0] rfl (by decide) (cX11_at_1 l D k _ (qm 0) (qm 1) (qm 2) (qm 3) (qm 4) (qm 5) (qm 6) (qm 7) (qm 8) (qm 9) (qm 10) (qm 11) (qm 12) (qm 13) (qm 14) (qm 15) (qm 16) (qm 17) (qm 18) (qm 19) (qm 20) (qm 21) ((xs 1)) ((xs 2)) ((xs 3))) w964 w961 w962 w963 w72 hdX11_at ⟨rfl, rfl⟩ ⟨Nat.le_of_ble_eq_true rfl, Nat.le_of_ble_eq_true rfl⟩ rfl hl.1 (Nat.le_of_ble_eq_true rfl) dL_law_349 ⟨Nat.le_of_ble_eq_true rfl, Nat.le_of_ble_eq_true rfl⟩) hP hD hS hA (wr := []) [0] [] rfl rfl (by decide) (by decide) (fun r2 H locs hB J hS => ?_)
  obtain rfl := hB
  refine lv_icmp_eq (tgt := 1333) hx hb dL_law_352 (by decide) (fun _ => ?_) (fun cc => absurd rfl cc)
  exact law_end l C0 hA' hbA (Nat.le_of_ble_eq_true rfl) (Nat.le_of_ble_eq_true rfl) hS (lv_sub hl [0, 3] rfl)
set_option maxHeartbeats 4000000 in
set_option maxRecDepth 100000 in
theorem law_of {p : Program} {e : Env} {s : State} {m : MethodId} {below : List Frame} {meth : Method} {c : Code} (l : Launch) {b : Nat} {xs : Nat → Int32} (C0 : lw_At p s m meth c b 6 xs) {D : va_G} {k : Nat → ClassId} (hK : kX D k s) {A : Nat → Prop} (hA : ∀ q, s.heap.size ≤ q → A q) (hA' : ∀ q, A q → s.heap.size ≤ q) (hbA : ¬ A b) (qx qm : Nat → Nat) {H : Heap} {locs : List Loc} {ls : Array Slot} (hP : va_P D cl0 (XW k qx ++ MW k qm) H) (hD : va_D A (XW k qx ++ MW k qm)) (hS : va_S A s.heap H locs) (hl : lv_has ls 4 [(3, .int 0), (2, .ref (qm 0)), (1, .ref (qx 0)), (0, .ref b)]) : W p l e room_1 s m #[Value.ref b] below meth c H locs 63 17884 (lw_Z below #[Value.ref b] s) (F0 m 357 ls []) := by
  obtain ⟨hx, hb, hr, hml, hown, hts, hX, hbl, hlocks, hgv⟩ := id C0
  have hU : ∀ w ∈ uw, w.before #[Value.ref b] s = true := fun w h => hts w (List.mem_filter.mp h).1
  refine lv_aload_n hx hb dL_law_357 rfl (lv_at hl 2 rfl) ?_
  refine lv_aload_n hx hb dL_law_358 rfl (lv_at hl 3 rfl) ?_
  refine lv_iload_n hx hb dL_law_359 rfl (lv_at hl 0 rfl) ?_
  refine lv_iconst (v := 1) hx hb dL_law_360 (by decide) ?_
  refine lv_iadd hx hb dL_law_361 (sv_i (v := 1) (by decide +kernel) ?_)
  refine va_sld hx hb hX hbl hbA hS (ix_in (j := 1) (by decide +kernel)).1 dL_law_362 (sv_i (v := xs 1) (by rw [(ix_in (j := 1) (n := 6) (by decide +kernel)).2]) ?_)
  refine lv_aload_n hx hb dL_law_363 rfl (lv_at hl 3 rfl) ?_
  refine lv_iload_n hx hb dL_law_364 rfl (lv_at hl 0 rfl) ?_
  refine lv_iconst (v := 2) hx hb dL_law_365 (by decide) ?_
  refine lv_iadd hx hb dL_law_366 (sv_i (v := 2) (by decide +kernel) ?_)
  refine va_sld hx hb hX hbl hbA hS (ix_in (j := 2) (by decide +kernel)).1 dL_law_367 (sv_i (v := xs 2) (by rw [(ix_in (j := 2) (n := 6) (by decide +kernel)).2]) ?_)
  refine cI (rV (q0 := 0) (ci := 7) (As := [.int (xs 1), .int (xs 2)]) (rest := []) (wc := [((qx 0), .inr (7, [.ref (qx 1), .ref (qx 3), .int 0, .ref (qx 5), .ref (qx 8), .ref (qx 9), .int 0, .ref (qx 18), .int 0, .null, .ref (qx 27), .int 0, .ref (qx 28), .ref (qx 29), .ref (qx 30), .ref (qx 31), .ref (qx 32)])), ((qx 1), .inr (4, [.int 2, .int 0, .int 1, .ref (qx 2)]))]) hx hb hml hown hU hK hP hD rfl rfl [0, 1] rfl (by decide) (cX10_of_1 l D k _ (qx 0) (qx 1) (qx 3) (qx 5) (qx 8) (qx 9) (qx 18) (qx 27) (qx 28) (qx 29) (qx 30) (qx 31) (qx 32) (qx 2) ((xs 1)) ((xs 2))) w401 w398 w399 w400 w63 hdX10_of ⟨rfl, rfl⟩ ⟨Nat.le_of_ble_eq_true rfl, Nat.le_of_ble_eq_true rfl⟩ rfl hl.1 (Nat.le_of_ble_eq_true rfl) dL_law_368 ⟨Nat.le_of_ble_eq_true rfl, Nat.le_of_ble_eq_true rfl⟩) hP hD hS hA (wr := MW k qm) [0, 1] [41, 42, 43, 44, 45, 46, 47, 48, 49, 50, 51, 52, 53, 54, 55, 56, 57, 58, 59, 60, 61, 62] rfl rfl (by decide) (by decide) (fun r1 H locs hB J hS => ?_)
  obtain rfl := hB
  obtain ⟨hP, hD⟩ := J.nil
  refine lv_aload_n hx hb dL_law_371 rfl (lv_at hl 1 rfl) ?_
  refine lv_aload_n hx hb dL_law_372 rfl (lv_at hl 3 rfl) ?_
  refine lv_iload_n hx hb dL_law_373 rfl (lv_at hl 0 rfl) ?_
  refine lv_iconst (v := 1) hx hb dL_law_374 (by decide) ?_
  refine lv_iadd hx hb dL_law_375 (sv_i (v := 1) (by decide +kernel) ?_)
  refine va_sld hx hb hX hbl hbA hS (ix_in (j := 1) (by decide +kernel)).1 dL_law_376 (sv_i (v := xs 1) (by rw [(ix_in (j := 1) (n := 6) (by decide +kernel)).2]) ?_)
  refine lv_aload_n hx hb dL_law_377 rfl (lv_at hl 3 rfl) ?_
  refine lv_iload_n hx hb dL_law_378 rfl (lv_at hl 0 rfl) ?_
  refine lv_iconst (v := 2) hx hb dL_law_379 (by decide) ?_
  refine lv_iadd hx hb dL_law_380 (sv_i (v := 2) (by decide +kernel) ?_)
  refine va_sld hx hb hX hbl hbA hS (ix_in (j := 2) (by decide +kernel)).1 dL_law_381 (sv_i (v := xs 2) (by rw [(ix_in (j := 2) (n := 6) (by decide +kernel)).2]) ?_)
  refine cI (rV (q0 := 0) (ci := 8) (As := [.int (xs 1), .int (xs 2)]) (rest := [.int (F_of ((xs 1)) ((xs 2)))]) (wc := [((qm 0), .inr (8, [.int 2, .int 0, .int 1, .int 0, .int 0, .int 0, .ref (qm 1), .ref (qm 2), .int 0, .int 0, .ref (qm 3), .ref (qm 4), .ref (qm 5), .ref (qm 6), .ref (qm 7), .ref (qm 8), .ref (qm 9), .int 0, .int 0, .int 0, .ref (qm 10), .ref (qm 11), .ref (qm 12), .ref (qm 13), .int 0, .int 0, .ref (qm 14), .ref (qm 15), .ref (qm 16), .ref (qm 17), .int 0, .int 0, .ref (qm 18), .ref (qm 19), .ref (qm 20), .ref (qm 21)]))]) hx hb hml hown hU hK hP hD rfl rfl [0] rfl (by decide) (cX11_of_1 l D k _ (qm 0) (qm 1) (qm 2) (qm 3) (qm 4) (qm 5) (qm 6) (qm 7) (qm 8) (qm 9) (qm 10) (qm 11) (qm 12) (qm 13) (qm 14) (qm 15) (qm 16) (qm 17) (qm 18) (qm 19) (qm 20) (qm 21) ((xs 1)) ((xs 2))) w968 w965 w966 w967 w72 hdX11_of ⟨rfl, rfl⟩ ⟨Nat.le_of_ble_eq_true rfl, Nat.le_of_ble_eq_true rfl⟩ rfl hl.1 (Nat.le_of_ble_eq_true rfl) dL_law_382 ⟨Nat.le_of_ble_eq_true rfl, Nat.le_of_ble_eq_true rfl⟩) hP hD hS hA (wr := []) [0] [] rfl rfl (by decide) (by decide) (fun r2 H locs hB J hS => ?_)
  obtain rfl := hB
  refine lv_icmp_eq (tgt := 1333) hx hb dL_law_385 (by decide) (fun _ => ?_) (fun cc => absurd rfl cc)
  exact law_end l C0 hA' hbA (Nat.le_of_ble_eq_true rfl) (Nat.le_of_ble_eq_true rfl) hS (lv_sub hl [0, 3] rfl)
set_option maxHeartbeats 4000000 in
set_option maxRecDepth 100000 in
theorem law_character {p : Program} {e : Env} {s : State} {m : MethodId} {below : List Frame} {meth : Method} {c : Code} (l : Launch) {b : Nat} {xs : Nat → Int32} (C0 : lw_At p s m meth c b 6 xs) {D : va_G} {k : Nat → ClassId} (hK : kX D k s) {A : Nat → Prop} (hA : ∀ q, s.heap.size ≤ q → A q) (hA' : ∀ q, A q → s.heap.size ≤ q) (hbA : ¬ A b) (qx qm : Nat → Nat) {H : Heap} {locs : List Loc} {ls : Array Slot} (hP : va_P D cl0 (XW k qx ++ MW k qm) H) (hD : va_D A (XW k qx ++ MW k qm)) (hS : va_S A s.heap H locs) (hl : lv_has ls 4 [(3, .int 0), (2, .ref (qm 0)), (1, .ref (qx 0)), (0, .ref b)]) : W p l e room_1 s m #[Value.ref b] below meth c H locs 63 17884 (lw_Z below #[Value.ref b] s) (F0 m 390 ls []) := by
  obtain ⟨hx, hb, hr, hml, hown, hts, hX, hbl, hlocks, hgv⟩ := id C0
  have hU : ∀ w ∈ uw, w.before #[Value.ref b] s = true := fun w h => hts w (List.mem_filter.mp h).1
  refine lv_aload_n hx hb dL_law_390 rfl (lv_at hl 2 rfl) ?_
  refine lv_aload_n hx hb dL_law_391 rfl (lv_at hl 3 rfl) ?_
  refine lv_iload_n hx hb dL_law_392 rfl (lv_at hl 0 rfl) ?_
  refine lv_iconst (v := 1) hx hb dL_law_393 (by decide) ?_
  refine lv_iadd hx hb dL_law_394 (sv_i (v := 1) (by decide +kernel) ?_)
  refine va_sld hx hb hX hbl hbA hS (ix_in (j := 1) (by decide +kernel)).1 dL_law_395 (sv_i (v := xs 1) (by rw [(ix_in (j := 1) (n := 6) (by decide +kernel)).2]) ?_)
  refine lv_aload_n hx hb dL_law_396 rfl (lv_at hl 3 rfl) ?_
  refine lv_iload_n hx hb dL_law_397 rfl (lv_at hl 0 rfl) ?_
  refine lv_iconst (v := 2) hx hb dL_law_398 (by decide) ?_
  refine lv_iadd hx hb dL_law_399 (sv_i (v := 2) (by decide +kernel) ?_)
  refine va_sld hx hb hX hbl hbA hS (ix_in (j := 2) (by decide +kernel)).1 dL_law_400 (sv_i (v := xs 2) (by rw [(ix_in (j := 2) (n := 6) (by decide +kernel)).2]) ?_)
  refine cI (rV (q0 := 0) (ci := 7) (As := [.int (xs 1), .int (xs 2)]) (rest := []) (wc := [((qx 0), .inr (7, [.ref (qx 1), .ref (qx 3), .int 0, .ref (qx 5), .ref (qx 8), .ref (qx 9), .int 0, .ref (qx 18), .int 0, .null, .ref (qx 27), .int 0, .ref (qx 28), .ref (qx 29), .ref (qx 30), .ref (qx 31), .ref (qx 32)])), ((qx 1), .inr (4, [.int 2, .int 0, .int 1, .ref (qx 2)]))]) hx hb hml hown hU hK hP hD rfl rfl [0, 1] rfl (by decide) (cX10_character_1 l D k _ (qx 0) (qx 1) (qx 3) (qx 5) (qx 8) (qx 9) (qx 18) (qx 27) (qx 28) (qx 29) (qx 30) (qx 31) (qx 32) (qx 2) ((xs 1)) ((xs 2))) w418 w415 w416 w417 w63 hdX10_character ⟨rfl, rfl⟩ ⟨Nat.le_of_ble_eq_true rfl, Nat.le_of_ble_eq_true rfl⟩ rfl hl.1 (Nat.le_of_ble_eq_true rfl) dL_law_401 ⟨Nat.le_of_ble_eq_true rfl, Nat.le_of_ble_eq_true rfl⟩) hP hD hS hA (wr := MW k qm) [0, 1] [41, 42, 43, 44, 45, 46, 47, 48, 49, 50, 51, 52, 53, 54, 55, 56, 57, 58, 59, 60, 61, 62] rfl rfl (by decide) (by decide) (fun r1 H locs hB J hS => ?_)
  obtain rfl := hB
  obtain ⟨hP, hD⟩ := J.nil
  refine lv_aload_n hx hb dL_law_404 rfl (lv_at hl 1 rfl) ?_
  refine lv_aload_n hx hb dL_law_405 rfl (lv_at hl 3 rfl) ?_
  refine lv_iload_n hx hb dL_law_406 rfl (lv_at hl 0 rfl) ?_
  refine lv_iconst (v := 1) hx hb dL_law_407 (by decide) ?_
  refine lv_iadd hx hb dL_law_408 (sv_i (v := 1) (by decide +kernel) ?_)
  refine va_sld hx hb hX hbl hbA hS (ix_in (j := 1) (by decide +kernel)).1 dL_law_409 (sv_i (v := xs 1) (by rw [(ix_in (j := 1) (n := 6) (by decide +kernel)).2]) ?_)
  refine lv_aload_n hx hb dL_law_410 rfl (lv_at hl 3 rfl) ?_
  refine lv_iload_n hx hb dL_law_411 rfl (lv_at hl 0 rfl) ?_
  refine lv_iconst (v := 2) hx hb dL_law_412 (by decide) ?_
  refine lv_iadd hx hb dL_law_413 (sv_i (v := 2) (by decide +kernel) ?_)
  refine va_sld hx hb hX hbl hbA hS (ix_in (j := 2) (by decide +kernel)).1 dL_law_414 (sv_i (v := xs 2) (by rw [(ix_in (j := 2) (n := 6) (by decide +kernel)).2]) ?_)
  refine cI (rV (q0 := 0) (ci := 8) (As := [.int (xs 1), .int (xs 2)]) (rest := [.int (F_character ((xs 1)) ((xs 2)))]) (wc := [((qm 0), .inr (8, [.int 2, .int 0, .int 1, .int 0, .int 0, .int 0, .ref (qm 1), .ref (qm 2), .int 0, .int 0, .ref (qm 3), .ref (qm 4), .ref (qm 5), .ref (qm 6), .ref (qm 7), .ref (qm 8), .ref (qm 9), .int 0, .int 0, .int 0, .ref (qm 10), .ref (qm 11), .ref (qm 12), .ref (qm 13), .int 0, .int 0, .ref (qm 14), .ref (qm 15), .ref (qm 16), .ref (qm 17), .int 0, .int 0, .ref (qm 18), .ref (qm 19), .ref (qm 20), .ref (qm 21)]))]) hx hb hml hown hU hK hP hD rfl rfl [0] rfl (by decide) (cX11_character_1 l D k _ (qm 0) (qm 1) (qm 2) (qm 3) (qm 4) (qm 5) (qm 6) (qm 7) (qm 8) (qm 9) (qm 10) (qm 11) (qm 12) (qm 13) (qm 14) (qm 15) (qm 16) (qm 17) (qm 18) (qm 19) (qm 20) (qm 21) ((xs 1)) ((xs 2))) w986 w983 w984 w985 w72 hdX11_character ⟨rfl, rfl⟩ ⟨Nat.le_of_ble_eq_true rfl, Nat.le_of_ble_eq_true rfl⟩ rfl hl.1 (Nat.le_of_ble_eq_true rfl) dL_law_415 ⟨Nat.le_of_ble_eq_true rfl, Nat.le_of_ble_eq_true rfl⟩) hP hD hS hA (wr := []) [0] [] rfl rfl (by decide) (by decide) (fun r2 H locs hB J hS => ?_)
  obtain rfl := hB
  refine lv_icmp_eq (tgt := 1333) hx hb dL_law_418 (by decide) (fun _ => ?_) (fun cc => absurd rfl cc)
  exact law_end l C0 hA' hbA (Nat.le_of_ble_eq_true rfl) (Nat.le_of_ble_eq_true rfl) hS (lv_sub hl [0, 3] rfl)
set_option maxHeartbeats 4000000 in
set_option maxRecDepth 100000 in
theorem law_factor {p : Program} {e : Env} {s : State} {m : MethodId} {below : List Frame} {meth : Method} {c : Code} (l : Launch) {b : Nat} {xs : Nat → Int32} (C0 : lw_At p s m meth c b 6 xs) {D : va_G} {k : Nat → ClassId} (hK : kX D k s) {A : Nat → Prop} (hA : ∀ q, s.heap.size ≤ q → A q) (hA' : ∀ q, A q → s.heap.size ≤ q) (hbA : ¬ A b) (qx qm : Nat → Nat) {H : Heap} {locs : List Loc} {ls : Array Slot} (hP : va_P D cl0 (XW k qx ++ MW k qm) H) (hD : va_D A (XW k qx ++ MW k qm)) (hS : va_S A s.heap H locs) (hl : lv_has ls 4 [(3, .int 0), (2, .ref (qm 0)), (1, .ref (qx 0)), (0, .ref b)]) : W p l e room_1 s m #[Value.ref b] below meth c H locs 63 17884 (lw_Z below #[Value.ref b] s) (F0 m 423 ls []) := by
  obtain ⟨hx, hb, hr, hml, hown, hts, hX, hbl, hlocks, hgv⟩ := id C0
  have hU : ∀ w ∈ uw, w.before #[Value.ref b] s = true := fun w h => hts w (List.mem_filter.mp h).1
  refine lv_aload_n hx hb dL_law_423 rfl (lv_at hl 2 rfl) ?_
  refine lv_aload_n hx hb dL_law_424 rfl (lv_at hl 3 rfl) ?_
  refine lv_iload_n hx hb dL_law_425 rfl (lv_at hl 0 rfl) ?_
  refine lv_iconst (v := 1) hx hb dL_law_426 (by decide) ?_
  refine lv_iadd hx hb dL_law_427 (sv_i (v := 1) (by decide +kernel) ?_)
  refine va_sld hx hb hX hbl hbA hS (ix_in (j := 1) (by decide +kernel)).1 dL_law_428 (sv_i (v := xs 1) (by rw [(ix_in (j := 1) (n := 6) (by decide +kernel)).2]) ?_)
  refine lv_aload_n hx hb dL_law_429 rfl (lv_at hl 3 rfl) ?_
  refine lv_iload_n hx hb dL_law_430 rfl (lv_at hl 0 rfl) ?_
  refine lv_iconst (v := 2) hx hb dL_law_431 (by decide) ?_
  refine lv_iadd hx hb dL_law_432 (sv_i (v := 2) (by decide +kernel) ?_)
  refine va_sld hx hb hX hbl hbA hS (ix_in (j := 2) (by decide +kernel)).1 dL_law_433 (sv_i (v := xs 2) (by rw [(ix_in (j := 2) (n := 6) (by decide +kernel)).2]) ?_)
  refine cI (rV (q0 := 0) (ci := 7) (As := [.int (xs 1), .int (xs 2)]) (rest := []) (wc := [((qx 0), .inr (7, [.ref (qx 1), .ref (qx 3), .int 0, .ref (qx 5), .ref (qx 8), .ref (qx 9), .int 0, .ref (qx 18), .int 0, .null, .ref (qx 27), .int 0, .ref (qx 28), .ref (qx 29), .ref (qx 30), .ref (qx 31), .ref (qx 32)])), ((qx 1), .inr (4, [.int 2, .int 0, .int 1, .ref (qx 2)]))]) hx hb hml hown hU hK hP hD rfl rfl [0, 1] rfl (by decide) (cX10_factor_1 l D k _ (qx 0) (qx 1) (qx 3) (qx 5) (qx 8) (qx 9) (qx 18) (qx 27) (qx 28) (qx 29) (qx 30) (qx 31) (qx 32) (qx 2) ((xs 1)) ((xs 2))) w429 w426 w427 w428 w63 hdX10_factor ⟨rfl, rfl⟩ ⟨Nat.le_of_ble_eq_true rfl, Nat.le_of_ble_eq_true rfl⟩ rfl hl.1 (Nat.le_of_ble_eq_true rfl) dL_law_434 ⟨Nat.le_of_ble_eq_true rfl, Nat.le_of_ble_eq_true rfl⟩) hP hD hS hA (wr := MW k qm) [0, 1] [41, 42, 43, 44, 45, 46, 47, 48, 49, 50, 51, 52, 53, 54, 55, 56, 57, 58, 59, 60, 61, 62] rfl rfl (by decide) (by decide) (fun r1 H locs hB J hS => ?_)
  obtain rfl := hB
  obtain ⟨hP, hD⟩ := J.nil
  refine lv_aload_n hx hb dL_law_437 rfl (lv_at hl 1 rfl) ?_
  refine lv_aload_n hx hb dL_law_438 rfl (lv_at hl 3 rfl) ?_
  refine lv_iload_n hx hb dL_law_439 rfl (lv_at hl 0 rfl) ?_
  refine lv_iconst (v := 1) hx hb dL_law_440 (by decide) ?_
  refine lv_iadd hx hb dL_law_441 (sv_i (v := 1) (by decide +kernel) ?_)
  refine va_sld hx hb hX hbl hbA hS (ix_in (j := 1) (by decide +kernel)).1 dL_law_442 (sv_i (v := xs 1) (by rw [(ix_in (j := 1) (n := 6) (by decide +kernel)).2]) ?_)
  refine lv_aload_n hx hb dL_law_443 rfl (lv_at hl 3 rfl) ?_
  refine lv_iload_n hx hb dL_law_444 rfl (lv_at hl 0 rfl) ?_
  refine lv_iconst (v := 2) hx hb dL_law_445 (by decide) ?_
  refine lv_iadd hx hb dL_law_446 (sv_i (v := 2) (by decide +kernel) ?_)
  refine va_sld hx hb hX hbl hbA hS (ix_in (j := 2) (by decide +kernel)).1 dL_law_447 (sv_i (v := xs 2) (by rw [(ix_in (j := 2) (n := 6) (by decide +kernel)).2]) ?_)
  refine cI (rV (q0 := 0) (ci := 8) (As := [.int (xs 1), .int (xs 2)]) (rest := [.int (F_factor ((xs 1)) ((xs 2)))]) (wc := [((qm 0), .inr (8, [.int 2, .int 0, .int 1, .int 0, .int 0, .int 0, .ref (qm 1), .ref (qm 2), .int 0, .int 0, .ref (qm 3), .ref (qm 4), .ref (qm 5), .ref (qm 6), .ref (qm 7), .ref (qm 8), .ref (qm 9), .int 0, .int 0, .int 0, .ref (qm 10), .ref (qm 11), .ref (qm 12), .ref (qm 13), .int 0, .int 0, .ref (qm 14), .ref (qm 15), .ref (qm 16), .ref (qm 17), .int 0, .int 0, .ref (qm 18), .ref (qm 19), .ref (qm 20), .ref (qm 21)]))]) hx hb hml hown hU hK hP hD rfl rfl [0] rfl (by decide) (cX11_factor_1 l D k _ (qm 0) (qm 1) (qm 2) (qm 3) (qm 4) (qm 5) (qm 6) (qm 7) (qm 8) (qm 9) (qm 10) (qm 11) (qm 12) (qm 13) (qm 14) (qm 15) (qm 16) (qm 17) (qm 18) (qm 19) (qm 20) (qm 21) ((xs 1)) ((xs 2))) w995 w992 w993 w994 w72 hdX11_factor ⟨rfl, rfl⟩ ⟨Nat.le_of_ble_eq_true rfl, Nat.le_of_ble_eq_true rfl⟩ rfl hl.1 (Nat.le_of_ble_eq_true rfl) dL_law_448 ⟨Nat.le_of_ble_eq_true rfl, Nat.le_of_ble_eq_true rfl⟩) hP hD hS hA (wr := []) [0] [] rfl rfl (by decide) (by decide) (fun r2 H locs hB J hS => ?_)
  obtain rfl := hB
  refine lv_icmp_eq (tgt := 1333) hx hb dL_law_451 (by decide) (fun _ => ?_) (fun cc => absurd rfl cc)
  exact law_end l C0 hA' hbA (Nat.le_of_ble_eq_true rfl) (Nat.le_of_ble_eq_true rfl) hS (lv_sub hl [0, 3] rfl)
set_option maxHeartbeats 4000000 in
set_option maxRecDepth 100000 in
theorem law_feed {p : Program} {e : Env} {s : State} {m : MethodId} {below : List Frame} {meth : Method} {c : Code} (l : Launch) {b : Nat} {xs : Nat → Int32} (C0 : lw_At p s m meth c b 6 xs) {D : va_G} {k : Nat → ClassId} (hK : kX D k s) {A : Nat → Prop} (hA : ∀ q, s.heap.size ≤ q → A q) (hA' : ∀ q, A q → s.heap.size ≤ q) (hbA : ¬ A b) (qx qm : Nat → Nat) {H : Heap} {locs : List Loc} {ls : Array Slot} (hP : va_P D cl0 (XW k qx ++ MW k qm) H) (hD : va_D A (XW k qx ++ MW k qm)) (hS : va_S A s.heap H locs) (hl : lv_has ls 4 [(3, .int 0), (2, .ref (qm 0)), (1, .ref (qx 0)), (0, .ref b)]) : W p l e room_1 s m #[Value.ref b] below meth c H locs 63 17884 (lw_Z below #[Value.ref b] s) (F0 m 456 ls []) := by
  obtain ⟨hx, hb, hr, hml, hown, hts, hX, hbl, hlocks, hgv⟩ := id C0
  have hU : ∀ w ∈ uw, w.before #[Value.ref b] s = true := fun w h => hts w (List.mem_filter.mp h).1
  refine lv_aload_n hx hb dL_law_456 rfl (lv_at hl 2 rfl) ?_
  refine lv_aload_n hx hb dL_law_457 rfl (lv_at hl 3 rfl) ?_
  refine lv_iload_n hx hb dL_law_458 rfl (lv_at hl 0 rfl) ?_
  refine lv_iconst (v := 1) hx hb dL_law_459 (by decide) ?_
  refine lv_iadd hx hb dL_law_460 (sv_i (v := 1) (by decide +kernel) ?_)
  refine va_sld hx hb hX hbl hbA hS (ix_in (j := 1) (by decide +kernel)).1 dL_law_461 (sv_i (v := xs 1) (by rw [(ix_in (j := 1) (n := 6) (by decide +kernel)).2]) ?_)
  refine lv_i2l (v := (xs 1).toInt64) hx hb dL_law_462 rfl ?_
  refine lv_bipush (v := 32) hx hb dL_law_463 (by decide) ?_
  refine lv_lshl (v := ((xs 1).toInt64 <<< ((32 : Int32).toInt64 &&& 63))) hx hb dL_law_465 rfl ?_
  refine lv_aload_n hx hb dL_law_466 rfl (lv_at hl 3 rfl) ?_
  refine lv_iload_n hx hb dL_law_467 rfl (lv_at hl 0 rfl) ?_
  refine lv_iconst (v := 2) hx hb dL_law_468 (by decide) ?_
  refine lv_iadd hx hb dL_law_469 (sv_i (v := 2) (by decide +kernel) ?_)
  refine va_sld hx hb hX hbl hbA hS (ix_in (j := 2) (by decide +kernel)).1 dL_law_470 (sv_i (v := xs 2) (by rw [(ix_in (j := 2) (n := 6) (by decide +kernel)).2]) ?_)
  refine lv_i2l (v := (xs 2).toInt64) hx hb dL_law_471 rfl ?_
  refine lv_ldc2 hx hb hown (hU _ w1222) dL_law_472 ?_
  refine lv_land hx hb dL_law_475 ?_
  refine lv_lor hx hb dL_law_476 ?_
  refine lv_aload_n hx hb dL_law_477 rfl (lv_at hl 3 rfl) ?_
  refine lv_iload_n hx hb dL_law_478 rfl (lv_at hl 0 rfl) ?_
  refine lv_iconst (v := 3) hx hb dL_law_479 (by decide) ?_
  refine lv_iadd hx hb dL_law_480 (sv_i (v := 3) (by decide +kernel) ?_)
  refine va_sld hx hb hX hbl hbA hS (ix_in (j := 3) (by decide +kernel)).1 dL_law_481 (sv_i (v := xs 3) (by rw [(ix_in (j := 3) (n := 6) (by decide +kernel)).2]) ?_)
  refine cI (rV (q0 := 0) (ci := 7) (As := [.long (((xs 1).toInt64 <<< ((32 : Int32).toInt64 &&& 63)) ||| ((xs 2).toInt64 &&& 4294967295)), .int (xs 3)]) (rest := []) (wc := [((qx 0), .inr (7, [.ref (qx 1), .ref (qx 3), .int 0, .ref (qx 5), .ref (qx 8), .ref (qx 9), .int 0, .ref (qx 18), .int 0, .null, .ref (qx 27), .int 0, .ref (qx 28), .ref (qx 29), .ref (qx 30), .ref (qx 31), .ref (qx 32)])), ((qx 5), .inr (6, [.ref (qx 6), .int 0, .int 0, .int 0, .ref (qx 7)])), ((qx 6), .inl (k 2, 120, .inl (tI [] 0)))]) hx hb hml hown hU hK hP hD rfl rfl [0, 5, 6] rfl (by decide) (cX10_feed_1 l D k _ (qx 0) (qx 5) (qx 6) (qx 1) (qx 3) (qx 8) (qx 9) (qx 18) (qx 27) (qx 28) (qx 29) (qx 30) (qx 31) (qx 32) (qx 7) ((((xs 1).toInt64 <<< ((32 : Int32).toInt64 &&& 63)) ||| ((xs 2).toInt64 &&& 4294967295))) ((xs 3))) w448 w445 w446 w447 w63 hdX10_feed ⟨rfl, rfl⟩ ⟨Nat.le_of_ble_eq_true rfl, Nat.le_of_ble_eq_true rfl⟩ rfl hl.1 (Nat.le_of_ble_eq_true rfl) dL_law_482 ⟨Nat.le_of_ble_eq_true rfl, Nat.le_of_ble_eq_true rfl⟩) hP hD hS hA (wr := MW k qm) [0, 5, 6] [41, 42, 43, 44, 45, 46, 47, 48, 49, 50, 51, 52, 53, 54, 55, 56, 57, 58, 59, 60, 61, 62] rfl rfl (by decide) (by decide) (fun r1 H locs hB J hS => ?_)
  obtain rfl := hB
  obtain ⟨hP, hD⟩ := J.nil
  refine lv_aload_n hx hb dL_law_485 rfl (lv_at hl 1 rfl) ?_
  refine lv_aload_n hx hb dL_law_486 rfl (lv_at hl 3 rfl) ?_
  refine lv_iload_n hx hb dL_law_487 rfl (lv_at hl 0 rfl) ?_
  refine lv_iconst (v := 1) hx hb dL_law_488 (by decide) ?_
  refine lv_iadd hx hb dL_law_489 (sv_i (v := 1) (by decide +kernel) ?_)
  refine va_sld hx hb hX hbl hbA hS (ix_in (j := 1) (by decide +kernel)).1 dL_law_490 (sv_i (v := xs 1) (by rw [(ix_in (j := 1) (n := 6) (by decide +kernel)).2]) ?_)
  refine lv_i2l (v := (xs 1).toInt64) hx hb dL_law_491 rfl ?_
  refine lv_bipush (v := 32) hx hb dL_law_492 (by decide) ?_
  refine lv_lshl (v := ((xs 1).toInt64 <<< ((32 : Int32).toInt64 &&& 63))) hx hb dL_law_494 rfl ?_
  refine lv_aload_n hx hb dL_law_495 rfl (lv_at hl 3 rfl) ?_
  refine lv_iload_n hx hb dL_law_496 rfl (lv_at hl 0 rfl) ?_
  refine lv_iconst (v := 2) hx hb dL_law_497 (by decide) ?_
  refine lv_iadd hx hb dL_law_498 (sv_i (v := 2) (by decide +kernel) ?_)
  refine va_sld hx hb hX hbl hbA hS (ix_in (j := 2) (by decide +kernel)).1 dL_law_499 (sv_i (v := xs 2) (by rw [(ix_in (j := 2) (n := 6) (by decide +kernel)).2]) ?_)
  refine lv_i2l (v := (xs 2).toInt64) hx hb dL_law_500 rfl ?_
  refine lv_ldc2 hx hb hown (hU _ w1222) dL_law_501 ?_
  refine lv_land hx hb dL_law_504 ?_
  refine lv_lor hx hb dL_law_505 ?_
  refine lv_aload_n hx hb dL_law_506 rfl (lv_at hl 3 rfl) ?_
  refine lv_iload_n hx hb dL_law_507 rfl (lv_at hl 0 rfl) ?_
  refine lv_iconst (v := 3) hx hb dL_law_508 (by decide) ?_
  refine lv_iadd hx hb dL_law_509 (sv_i (v := 3) (by decide +kernel) ?_)
  refine va_sld hx hb hX hbl hbA hS (ix_in (j := 3) (by decide +kernel)).1 dL_law_510 (sv_i (v := xs 3) (by rw [(ix_in (j := 3) (n := 6) (by decide +kernel)).2]) ?_)
  refine cI (rV (q0 := 0) (ci := 8) (As := [.long (((xs 1).toInt64 <<< ((32 : Int32).toInt64 &&& 63)) ||| ((xs 2).toInt64 &&& 4294967295)), .int (xs 3)]) (rest := [.int (F_feed ((((xs 1).toInt64 <<< ((32 : Int32).toInt64 &&& 63)) ||| ((xs 2).toInt64 &&& 4294967295))) ((xs 3)))]) (wc := [((qm 0), .inr (8, [.int 2, .int 0, .int 1, .int 0, .int 0, .int 0, .ref (qm 1), .ref (qm 2), .int 0, .int 0, .ref (qm 3), .ref (qm 4), .ref (qm 5), .ref (qm 6), .ref (qm 7), .ref (qm 8), .ref (qm 9), .int 0, .int 0, .int 0, .ref (qm 10), .ref (qm 11), .ref (qm 12), .ref (qm 13), .int 0, .int 0, .ref (qm 14), .ref (qm 15), .ref (qm 16), .ref (qm 17), .int 0, .int 0, .ref (qm 18), .ref (qm 19), .ref (qm 20), .ref (qm 21)])), ((qm 8), .inl (k 0, 120, .inl (tI [] 0)))]) hx hb hml hown hU hK hP hD rfl rfl [0, 8] rfl (by decide) (cX11_feed_1 l D k _ (qm 0) (qm 8) (qm 1) (qm 2) (qm 3) (qm 4) (qm 5) (qm 6) (qm 7) (qm 9) (qm 10) (qm 11) (qm 12) (qm 13) (qm 14) (qm 15) (qm 16) (qm 17) (qm 18) (qm 19) (qm 20) (qm 21) ((((xs 1).toInt64 <<< ((32 : Int32).toInt64 &&& 63)) ||| ((xs 2).toInt64 &&& 4294967295))) ((xs 3))) w1003 w1000 w1001 w1002 w72 hdX11_feed ⟨rfl, rfl⟩ ⟨Nat.le_of_ble_eq_true rfl, Nat.le_of_ble_eq_true rfl⟩ rfl hl.1 (Nat.le_of_ble_eq_true rfl) dL_law_511 ⟨Nat.le_of_ble_eq_true rfl, Nat.le_of_ble_eq_true rfl⟩) hP hD hS hA (wr := []) [0, 8] [] rfl rfl (by decide) (by decide) (fun r2 H locs hB J hS => ?_)
  obtain rfl := hB
  refine lv_icmp_eq (tgt := 1333) hx hb dL_law_514 (by decide) (fun _ => ?_) (fun cc => absurd rfl cc)
  exact law_end l C0 hA' hbA (Nat.le_of_ble_eq_true rfl) (Nat.le_of_ble_eq_true rfl) hS (lv_sub hl [0, 3] rfl)
set_option maxHeartbeats 4000000 in
set_option maxRecDepth 100000 in
theorem law_text {p : Program} {e : Env} {s : State} {m : MethodId} {below : List Frame} {meth : Method} {c : Code} (l : Launch) {b : Nat} {xs : Nat → Int32} (C0 : lw_At p s m meth c b 6 xs) {D : va_G} {k : Nat → ClassId} (hK : kX D k s) {A : Nat → Prop} (hA : ∀ q, s.heap.size ≤ q → A q) (hA' : ∀ q, A q → s.heap.size ≤ q) (hbA : ¬ A b) (qx qm : Nat → Nat) {H : Heap} {locs : List Loc} {ls : Array Slot} (hP : va_P D cl0 (XW k qx ++ MW k qm) H) (hD : va_D A (XW k qx ++ MW k qm)) (hS : va_S A s.heap H locs) (hl : lv_has ls 4 [(3, .int 0), (2, .ref (qm 0)), (1, .ref (qx 0)), (0, .ref b)]) : W p l e room_1 s m #[Value.ref b] below meth c H locs 63 17884 (lw_Z below #[Value.ref b] s) (F0 m 519 ls []) := by
  obtain ⟨hx, hb, hr, hml, hown, hts, hX, hbl, hlocks, hgv⟩ := id C0
  have hU : ∀ w ∈ uw, w.before #[Value.ref b] s = true := fun w h => hts w (List.mem_filter.mp h).1
  refine lv_aload_n hx hb dL_law_519 rfl (lv_at hl 2 rfl) ?_
  refine cI (rV (q0 := 0) (ci := 7) (As := []) (rest := []) (wc := [((qx 0), .inr (7, [.ref (qx 1), .ref (qx 3), .int 0, .ref (qx 5), .ref (qx 8), .ref (qx 9), .int 0, .ref (qx 18), .int 0, .null, .ref (qx 27), .int 0, .ref (qx 28), .ref (qx 29), .ref (qx 30), .ref (qx 31), .ref (qx 32)])), ((qx 1), .inr (4, [.int 2, .int 0, .int 1, .ref (qx 2)])), ((qx 2), .inl (k 1, 36, .inr (.inl (tL [] 0)))), ((qx 5), .inr (6, [.ref (qx 6), .int 0, .int 0, .int 0, .ref (qx 7)])), ((qx 7), .inl (k 1, 36, .inr (.inl (tL [] 0)))), ((qx 27), .inl (k 0, 8, .inl (tI [] 0)))]) hx hb hml hown hU hK hP hD rfl rfl [0, 1, 2, 5, 7, 27] rfl (by decide) (cX10_text_1 l D k _ (qx 0) (qx 1) (qx 2) (qx 5) (qx 7) (qx 27) (qx 3) (qx 8) (qx 9) (qx 18) (qx 28) (qx 29) (qx 30) (qx 31) (qx 32) (qx 6)) w456 w453 w454 w455 w63 hdX10_text ⟨rfl, rfl⟩ ⟨Nat.le_of_ble_eq_true rfl, Nat.le_of_ble_eq_true rfl⟩ rfl hl.1 (Nat.le_of_ble_eq_true rfl) dL_law_520 ⟨Nat.le_of_ble_eq_true rfl, Nat.le_of_ble_eq_true rfl⟩) hP hD hS hA (wr := MW k qm) [0, 1, 2, 5, 7, 27] [41, 42, 43, 44, 45, 46, 47, 48, 49, 50, 51, 52, 53, 54, 55, 56, 57, 58, 59, 60, 61, 62] rfl rfl (by decide) (by decide) (fun r1 H locs hB J hS => ?_)
  obtain rfl := hB
  obtain ⟨hP, hD⟩ := J.nil
  refine lv_aload_n hx hb dL_law_523 rfl (lv_at hl 1 rfl) ?_
  refine cI (rV (q0 := 0) (ci := 8) (As := []) (rest := [.int (F_text)]) (wc := [((qm 0), .inr (8, [.int 2, .int 0, .int 1, .int 0, .int 0, .int 0, .ref (qm 1), .ref (qm 2), .int 0, .int 0, .ref (qm 3), .ref (qm 4), .ref (qm 5), .ref (qm 6), .ref (qm 7), .ref (qm 8), .ref (qm 9), .int 0, .int 0, .int 0, .ref (qm 10), .ref (qm 11), .ref (qm 12), .ref (qm 13), .int 0, .int 0, .ref (qm 14), .ref (qm 15), .ref (qm 16), .ref (qm 17), .int 0, .int 0, .ref (qm 18), .ref (qm 19), .ref (qm 20), .ref (qm 21)])), ((qm 1), .inl (k 0, 36, .inl (tI [] 0)))]) hx hb hml hown hU hK hP hD rfl rfl [0, 1] rfl (by decide) (cX11_text_1 l D k _ (qm 0) (qm 1) (qm 2) (qm 3) (qm 4) (qm 5) (qm 6) (qm 7) (qm 8) (qm 9) (qm 10) (qm 11) (qm 12) (qm 13) (qm 14) (qm 15) (qm 16) (qm 17) (qm 18) (qm 19) (qm 20) (qm 21)) w1009 w1006 w1007 w1008 w72 hdX11_text ⟨rfl, rfl⟩ ⟨Nat.le_of_ble_eq_true rfl, Nat.le_of_ble_eq_true rfl⟩ rfl hl.1 (Nat.le_of_ble_eq_true rfl) dL_law_524 ⟨Nat.le_of_ble_eq_true rfl, Nat.le_of_ble_eq_true rfl⟩) hP hD hS hA (wr := []) [0, 1] [] rfl rfl (by decide) (by decide) (fun r2 H locs hB J hS => ?_)
  obtain rfl := hB
  refine lv_icmp_eq (tgt := 1333) hx hb dL_law_527 (by decide) (fun _ => ?_) (fun cc => absurd rfl cc)
  exact law_end l C0 hA' hbA (Nat.le_of_ble_eq_true rfl) (Nat.le_of_ble_eq_true rfl) hS (lv_sub hl [0, 3] rfl)
set_option maxHeartbeats 4000000 in
set_option maxRecDepth 100000 in
theorem law_listed {p : Program} {e : Env} {s : State} {m : MethodId} {below : List Frame} {meth : Method} {c : Code} (l : Launch) {b : Nat} {xs : Nat → Int32} (C0 : lw_At p s m meth c b 6 xs) {D : va_G} {k : Nat → ClassId} (hK : kX D k s) {A : Nat → Prop} (hA : ∀ q, s.heap.size ≤ q → A q) (hA' : ∀ q, A q → s.heap.size ≤ q) (hbA : ¬ A b) (qx qm : Nat → Nat) {H : Heap} {locs : List Loc} {ls : Array Slot} (hP : va_P D cl0 (XW k qx ++ MW k qm) H) (hD : va_D A (XW k qx ++ MW k qm)) (hS : va_S A s.heap H locs) (hl : lv_has ls 4 [(3, .int 0), (2, .ref (qm 0)), (1, .ref (qx 0)), (0, .ref b)]) : W p l e room_1 s m #[Value.ref b] below meth c H locs 63 17884 (lw_Z below #[Value.ref b] s) (F0 m 532 ls []) := by
  obtain ⟨hx, hb, hr, hml, hown, hts, hX, hbl, hlocks, hgv⟩ := id C0
  have hU : ∀ w ∈ uw, w.before #[Value.ref b] s = true := fun w h => hts w (List.mem_filter.mp h).1
  refine lv_aload_n hx hb dL_law_532 rfl (lv_at hl 2 rfl) ?_
  refine cI (rV (q0 := 0) (ci := 7) (As := []) (rest := []) (wc := [((qx 0), .inr (7, [.ref (qx 1), .ref (qx 3), .int 0, .ref (qx 5), .ref (qx 8), .ref (qx 9), .int 0, .ref (qx 18), .int 0, .null, .ref (qx 27), .int 0, .ref (qx 28), .ref (qx 29), .ref (qx 30), .ref (qx 31), .ref (qx 32)])), ((qx 1), .inr (4, [.int 2, .int 0, .int 1, .ref (qx 2)])), ((qx 9), .inr (3, [.ref (qx 11), .ref (qx 12), .ref (qx 13), .ref (qx 14), .ref (qx 15), .ref (qx 16), .ref (qx 17), .ref (qx 10), .int 0, .int 0, .int 0, .int 0])), ((qx 11), .inl (k 1, 900, .inr (.inl (tL [] 0)))), ((qx 12), .inl (k 0, 100, .inl (tI [] 0))), ((qx 13), .inl (k 0, 100, .inl (tI [] 0))), ((qx 14), .inl (k 0, 100, .inl (tI [] 0))), ((qx 16), .inl (k 0, 256, .inl (tI [] 0))), ((qx 17), .inl (k 0, 100, .inl (tI [] 0))), ((qx 28), .inr (2, [.ref (qx 1), .int 0])), ((qx 31), .inl (k 1, 9, .inr (.inl (tL [] 0))))]) hx hb hml hown hU hK hP hD rfl rfl [0, 1, 9, 11, 12, 13, 14, 16, 17, 28, 31] rfl (by decide) (cX10_listed_1 l D k _ (qx 0) (qx 1) (qx 9) (qx 11) (qx 12) (qx 13) (qx 14) (qx 16) (qx 17) (qx 28) (qx 31) (qx 3) (qx 5) (qx 8) (qx 18) (qx 27) (qx 29) (qx 30) (qx 32) (qx 2) (qx 15) (qx 10)) w488 w485 w486 w487 w63 hdX10_listed ⟨rfl, rfl⟩ ⟨Nat.le_of_ble_eq_true rfl, Nat.le_of_ble_eq_true rfl⟩ rfl hl.1 (Nat.le_of_ble_eq_true rfl) dL_law_533 ⟨Nat.le_of_ble_eq_true rfl, Nat.le_of_ble_eq_true rfl⟩) hP hD hS hA (wr := MW k qm) [0, 1, 9, 11, 12, 13, 14, 16, 17, 28, 31] [41, 42, 43, 44, 45, 46, 47, 48, 49, 50, 51, 52, 53, 54, 55, 56, 57, 58, 59, 60, 61, 62] rfl rfl (by decide) (by decide) (fun r1 H locs hB J hS => ?_)
  obtain rfl := hB
  obtain ⟨hP, hD⟩ := J.nil
  refine lv_aload_n hx hb dL_law_536 rfl (lv_at hl 1 rfl) ?_
  refine cI (rV (q0 := 0) (ci := 8) (As := []) (rest := [.int (F_listed)]) (wc := [((qm 0), .inr (8, [.int 2, .int 0, .int 1, .int 0, .int 0, .int 0, .ref (qm 1), .ref (qm 2), .int 0, .int 0, .ref (qm 3), .ref (qm 4), .ref (qm 5), .ref (qm 6), .ref (qm 7), .ref (qm 8), .ref (qm 9), .int 0, .int 0, .int 0, .ref (qm 10), .ref (qm 11), .ref (qm 12), .ref (qm 13), .int 0, .int 0, .ref (qm 14), .ref (qm 15), .ref (qm 16), .ref (qm 17), .int 0, .int 0, .ref (qm 18), .ref (qm 19), .ref (qm 20), .ref (qm 21)])), ((qm 4), .inl (k 1, 9, .inr (.inl (tL [] 0)))), ((qm 10), .inl (k 1, 900, .inr (.inl (tL [] 0)))), ((qm 11), .inl (k 0, 100, .inl (tI [] 0))), ((qm 12), .inl (k 0, 100, .inl (tI [] 0))), ((qm 13), .inl (k 0, 100, .inl (tI [] 0)))]) hx hb hml hown hU hK hP hD rfl rfl [0, 4, 10, 11, 12, 13] rfl (by decide) (cX11_listed_1 l D k _ (qm 0) (qm 4) (qm 10) (qm 11) (qm 12) (qm 13) (qm 1) (qm 2) (qm 3) (qm 5) (qm 6) (qm 7) (qm 8) (qm 9) (qm 14) (qm 15) (qm 16) (qm 17) (qm 18) (qm 19) (qm 20) (qm 21)) w1035 w1032 w1033 w1034 w72 hdX11_listed ⟨rfl, rfl⟩ ⟨Nat.le_of_ble_eq_true rfl, Nat.le_of_ble_eq_true rfl⟩ rfl hl.1 (Nat.le_of_ble_eq_true rfl) dL_law_537 ⟨Nat.le_of_ble_eq_true rfl, Nat.le_of_ble_eq_true rfl⟩) hP hD hS hA (wr := []) [0, 4, 10, 11, 12, 13] [] rfl rfl (by decide) (by decide) (fun r2 H locs hB J hS => ?_)
  obtain rfl := hB
  refine lv_icmp_eq (tgt := 1333) hx hb dL_law_540 (by decide) (fun _ => ?_) (fun cc => absurd rfl cc)
  exact law_end l C0 hA' hbA (Nat.le_of_ble_eq_true rfl) (Nat.le_of_ble_eq_true rfl) hS (lv_sub hl [0, 3] rfl)
set_option maxHeartbeats 4000000 in
set_option maxRecDepth 100000 in
theorem law_whole {p : Program} {e : Env} {s : State} {m : MethodId} {below : List Frame} {meth : Method} {c : Code} (l : Launch) {b : Nat} {xs : Nat → Int32} (C0 : lw_At p s m meth c b 6 xs) {D : va_G} {k : Nat → ClassId} (hK : kX D k s) {A : Nat → Prop} (hA : ∀ q, s.heap.size ≤ q → A q) (hA' : ∀ q, A q → s.heap.size ≤ q) (hbA : ¬ A b) (qx qm : Nat → Nat) {H : Heap} {locs : List Loc} {ls : Array Slot} (hP : va_P D cl0 (XW k qx ++ MW k qm) H) (hD : va_D A (XW k qx ++ MW k qm)) (hS : va_S A s.heap H locs) (hl : lv_has ls 4 [(3, .int 0), (2, .ref (qm 0)), (1, .ref (qx 0)), (0, .ref b)]) : W p l e room_1 s m #[Value.ref b] below meth c H locs 63 17884 (lw_Z below #[Value.ref b] s) (F0 m 545 ls []) := by
  obtain ⟨hx, hb, hr, hml, hown, hts, hX, hbl, hlocks, hgv⟩ := id C0
  have hU : ∀ w ∈ uw, w.before #[Value.ref b] s = true := fun w h => hts w (List.mem_filter.mp h).1
  refine lv_aload_n hx hb dL_law_545 rfl (lv_at hl 2 rfl) ?_
  refine cI (rV (q0 := 0) (ci := 7) (As := []) (rest := []) (wc := [((qx 0), .inr (7, [.ref (qx 1), .ref (qx 3), .int 0, .ref (qx 5), .ref (qx 8), .ref (qx 9), .int 0, .ref (qx 18), .int 0, .null, .ref (qx 27), .int 0, .ref (qx 28), .ref (qx 29), .ref (qx 30), .ref (qx 31), .ref (qx 32)])), ((qx 1), .inr (4, [.int 2, .int 0, .int 1, .ref (qx 2)])), ((qx 9), .inr (3, [.ref (qx 11), .ref (qx 12), .ref (qx 13), .ref (qx 14), .ref (qx 15), .ref (qx 16), .ref (qx 17), .ref (qx 10), .int 0, .int 0, .int 0, .int 0])), ((qx 11), .inl (k 1, 900, .inr (.inl (tL [] 0)))), ((qx 12), .inl (k 0, 100, .inl (tI [] 0))), ((qx 13), .inl (k 0, 100, .inl (tI [] 0))), ((qx 14), .inl (k 0, 100, .inl (tI [] 0))), ((qx 16), .inl (k 0, 256, .inl (tI [] 0))), ((qx 17), .inl (k 0, 100, .inl (tI [] 0))), ((qx 28), .inr (2, [.ref (qx 1), .int 0])), ((qx 31), .inl (k 1, 9, .inr (.inl (tL [] 0))))]) hx hb hml hown hU hK hP hD rfl rfl [0, 1, 9, 11, 12, 13, 14, 16, 17, 28, 31] rfl (by decide) (cX10_whole_1 l D k _ (qx 0) (qx 1) (qx 9) (qx 11) (qx 12) (qx 13) (qx 14) (qx 16) (qx 17) (qx 28) (qx 31) (qx 3) (qx 5) (qx 8) (qx 18) (qx 27) (qx 29) (qx 30) (qx 32) (qx 2) (qx 15) (qx 10)) w564 w561 w562 w563 w63 hdX10_whole ⟨rfl, rfl⟩ ⟨Nat.le_of_ble_eq_true rfl, Nat.le_of_ble_eq_true rfl⟩ rfl hl.1 (Nat.le_of_ble_eq_true rfl) dL_law_546 ⟨Nat.le_of_ble_eq_true rfl, Nat.le_of_ble_eq_true rfl⟩) hP hD hS hA (wr := MW k qm) [0, 1, 9, 11, 12, 13, 14, 16, 17, 28, 31] [41, 42, 43, 44, 45, 46, 47, 48, 49, 50, 51, 52, 53, 54, 55, 56, 57, 58, 59, 60, 61, 62] rfl rfl (by decide) (by decide) (fun r1 H locs hB J hS => ?_)
  obtain rfl := hB
  obtain ⟨hP, hD⟩ := J.nil
  refine lv_aload_n hx hb dL_law_549 rfl (lv_at hl 1 rfl) ?_
  refine cI (rV (q0 := 0) (ci := 8) (As := []) (rest := [.int (F_whole)]) (wc := [((qm 0), .inr (8, [.int 2, .int 0, .int 1, .int 0, .int 0, .int 0, .ref (qm 1), .ref (qm 2), .int 0, .int 0, .ref (qm 3), .ref (qm 4), .ref (qm 5), .ref (qm 6), .ref (qm 7), .ref (qm 8), .ref (qm 9), .int 0, .int 0, .int 0, .ref (qm 10), .ref (qm 11), .ref (qm 12), .ref (qm 13), .int 0, .int 0, .ref (qm 14), .ref (qm 15), .ref (qm 16), .ref (qm 17), .int 0, .int 0, .ref (qm 18), .ref (qm 19), .ref (qm 20), .ref (qm 21)])), ((qm 4), .inl (k 1, 9, .inr (.inl (tL [] 0)))), ((qm 10), .inl (k 1, 900, .inr (.inl (tL [] 0)))), ((qm 11), .inl (k 0, 100, .inl (tI [] 0))), ((qm 12), .inl (k 0, 100, .inl (tI [] 0))), ((qm 13), .inl (k 0, 100, .inl (tI [] 0)))]) hx hb hml hown hU hK hP hD rfl rfl [0, 4, 10, 11, 12, 13] rfl (by decide) (cX11_whole_1 l D k _ (qm 0) (qm 4) (qm 10) (qm 11) (qm 12) (qm 13) (qm 1) (qm 2) (qm 3) (qm 5) (qm 6) (qm 7) (qm 8) (qm 9) (qm 14) (qm 15) (qm 16) (qm 17) (qm 18) (qm 19) (qm 20) (qm 21)) w1055 w1052 w1053 w1054 w72 hdX11_whole ⟨rfl, rfl⟩ ⟨Nat.le_of_ble_eq_true rfl, Nat.le_of_ble_eq_true rfl⟩ rfl hl.1 (Nat.le_of_ble_eq_true rfl) dL_law_550 ⟨Nat.le_of_ble_eq_true rfl, Nat.le_of_ble_eq_true rfl⟩) hP hD hS hA (wr := []) [0, 4, 10, 11, 12, 13] [] rfl rfl (by decide) (by decide) (fun r2 H locs hB J hS => ?_)
  obtain rfl := hB
  refine lv_icmp_eq (tgt := 1333) hx hb dL_law_553 (by decide) (fun _ => ?_) (fun cc => absurd rfl cc)
  exact law_end l C0 hA' hbA (Nat.le_of_ble_eq_true rfl) (Nat.le_of_ble_eq_true rfl) hS (lv_sub hl [0, 3] rfl)
