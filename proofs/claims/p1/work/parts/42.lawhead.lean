/-! THE CLAIM OUT OF ONE WALK OF THE LAW'S BODY. Your part is whole_start (and what it stands on); all else here is the same for every law, but numbers. -/
def R_law : String := "FiniteMatricesLaw"
def lw_P (b : Addr) (xs : List Int32) (args : Array Value) (s : State) : Prop := args = #[.ref b] ∧ s.IntsAt b xs ∧ xs.length ≤ 6 ∧ (Jvm.Cond.and given_1 narrow_1).before args s = true
def lw_Q (_ : Array Value) (s : State) (o : Outcome) (t : State) : Prop := o = .returned (some (.int 1)) ∧ Framed s o t [] 600000 7302250
def lw_Z (below : List Frame) (a : Array Value) (s : State) : State → Prop := fun t => ∃ o, t.status = .running ∧ Ended t below o ∧ lw_Q a s o t
/-- the law's own end, with 1 on the stack, nothing written that was there before, its room as the claim has it -/
theorem lw_ret {p : Program} {l : Launch} {e : Env} {s : State} {m : MethodId} {below : List Frame} {meth : Method} {c : Code} {b : Nat} (hx : p.tables.exec = Jvm.exec) (hb : c.code = code) (hr : meth.sig.returnType = ret) (hlocks : meth.locks = false) {pc : Nat} {H : Heap} {ls : Array Slot} (hdg : decode code pc = .ok (.ireturn, 1)) : W p l e room_1 s m #[Value.ref b] below meth c H [] 600000 7302250 (lw_Z below #[Value.ref b] s) (F0 m pc ls [.int 1]) := by
  intro T hT X
  obtain ⟨fs, hret, hrun, hended, hW, hframe⟩ := X.leave (v := some (.int 1)) (hlocks := hlocks) (fun h => by rw [hr] at h; cases h)
  have hmeth' : T.vm.method? m = some meth := X.method'
  refine ⟨T.setFrames fs, ?_, .returned (some (.int 1)), hrun, hended, rfl, ⟨_, rfl⟩, hW, hframe⟩
  jvm_step X.here [X.here.top, hx, hb, hdg, hmeth', hr, ret, narrow_b1]
  (try refine ⟨rfl, ?_⟩); (try refine ⟨rfl, ?_⟩)
  first | (intro acts; rw [hret _ acts rfl rfl rfl]) | rw [hret _ _ rfl rfl rfl]
  exact Steps.refl _
/-- what holds at the law's entry: the machine, the code, the tables' words (any of lw_tbl by 'hts w (by decide +kernel)'), the script of L ints xs at the cell b, what the Statement gives of the start (any of its parts by flat_of_before) -/
def lw_At (p : Program) (s : State) (m : MethodId) (meth : Method) (c : Code) (b L : Nat) (xs : Nat → Int32) : Prop :=
  p.tables.exec = Jvm.exec ∧ c.code = code ∧ meth.sig.returnType = ret ∧ c.maxLocals = 4 ∧ s.vm.findClass R_law = some m.cls ∧ (∀ w ∈ lw_tbl, w.before #[Value.ref b] s = true) ∧ va_X b L xs s s.heap ∧ b < s.heap.size ∧ meth.locks = false ∧ (Jvm.Cond.and given_1 narrow_1).before #[Value.ref b] s = true

abbrev XW (k : Nat → ClassId) (qx : Nat → Nat) : va_W := [((qx 0), .inr (7, [.ref (qx 1), .ref (qx 3), .int 0, .ref (qx 5), .ref (qx 8), .ref (qx 9), .int 0, .ref (qx 18), .int 0, .null, .ref (qx 27), .int 0, .ref (qx 28), .ref (qx 29), .ref (qx 30), .ref (qx 31), .ref (qx 32)])), ((qx 1), .inr (4, [.int 2, .int 0, .int 1, .ref (qx 2)])), ((qx 2), .inl (k 1, 36, .inr (.inl (tL [] 0)))), ((qx 3), .inr (4, [.int 2, .int 0, .int 1, .ref (qx 4)])), ((qx 4), .inl (k 1, 36, .inr (.inl (tL [] 0)))), ((qx 5), .inr (6, [.ref (qx 6), .int 0, .int 0, .int 0, .ref (qx 7)])), ((qx 6), .inl (k 2, 120, .inl (tI [] 0))), ((qx 7), .inl (k 1, 36, .inr (.inl (tL [] 0)))), ((qx 8), .inl (k 3, 4, .inr (.inr (.inr (.inr (va_up (va_up (va_up (va_up (fun _ => none) 0 (some (qx 33))) 1 (some (qx 35))) 2 (some (qx 37))) 3 (some (qx 39)))))))), ((qx 9), .inr (3, [.ref (qx 11), .ref (qx 12), .ref (qx 13), .ref (qx 14), .ref (qx 15), .ref (qx 16), .ref (qx 17), .ref (qx 10), .int 0, .int 0, .int 0, .int 0])), ((qx 10), .inl (k 1, 60, .inr (.inl (tL [] 0)))), ((qx 11), .inl (k 1, 900, .inr (.inl (tL [] 0)))), ((qx 12), .inl (k 0, 100, .inl (tI [] 0))), ((qx 13), .inl (k 0, 100, .inl (tI [] 0))), ((qx 14), .inl (k 0, 100, .inl (tI [] 0))), ((qx 15), .inl (k 0, 400, .inl (tI [] 0))), ((qx 16), .inl (k 0, 256, .inl (tI [] 0))), ((qx 17), .inl (k 0, 100, .inl (tI [] 0))), ((qx 18), .inr (3, [.ref (qx 20), .ref (qx 21), .ref (qx 22), .ref (qx 23), .ref (qx 24), .ref (qx 25), .ref (qx 26), .ref (qx 19), .int 0, .int 0, .int 0, .int 0])), ((qx 19), .inl (k 1, 60, .inr (.inl (tL [] 0)))), ((qx 20), .inl (k 1, 180, .inr (.inl (tL [] 0)))), ((qx 21), .inl (k 0, 60, .inl (tI [] 0))), ((qx 22), .inl (k 0, 60, .inl (tI [] 0))), ((qx 23), .inl (k 0, 60, .inl (tI [] 0))), ((qx 24), .inl (k 0, 240, .inl (tI [] 0))), ((qx 25), .inl (k 0, 128, .inl (tI [] 0))), ((qx 26), .inl (k 0, 60, .inl (tI [] 0))), ((qx 27), .inl (k 0, 8, .inl (tI [] 0))), ((qx 28), .inr (2, [.ref (qx 1), .int 0])), ((qx 29), .inr (1, [.ref (qx 1)])), ((qx 30), .inr (0, [.ref (qx 18)])), ((qx 31), .inl (k 1, 9, .inr (.inl (tL [] 0)))), ((qx 32), .inl (k 1, 9, .inr (.inl (tL [] 0)))), ((qx 33), .inr (5, [.int (-1), .int 0, .ref (qx 34)])), ((qx 34), .inl (k 1, 40, .inr (.inl (tL [] 0)))), ((qx 35), .inr (5, [.int (-1), .int 0, .ref (qx 36)])), ((qx 36), .inl (k 1, 40, .inr (.inl (tL [] 0)))), ((qx 37), .inr (5, [.int (-1), .int 0, .ref (qx 38)])), ((qx 38), .inl (k 1, 40, .inr (.inl (tL [] 0)))), ((qx 39), .inr (5, [.int (-1), .int 0, .ref (qx 40)])), ((qx 40), .inl (k 1, 40, .inr (.inl (tL [] 0))))]
abbrev MW (k : Nat → ClassId) (qm : Nat → Nat) : va_W := [((qm 0), .inr (8, [.int 2, .int 0, .int 1, .int 0, .int 0, .int 0, .ref (qm 1), .ref (qm 2), .int 0, .int 0, .ref (qm 3), .ref (qm 4), .ref (qm 5), .ref (qm 6), .ref (qm 7), .ref (qm 8), .ref (qm 9), .int 0, .int 0, .int 0, .ref (qm 10), .ref (qm 11), .ref (qm 12), .ref (qm 13), .int 0, .int 0, .ref (qm 14), .ref (qm 15), .ref (qm 16), .ref (qm 17), .int 0, .int 0, .ref (qm 18), .ref (qm 19), .ref (qm 20), .ref (qm 21)])), ((qm 1), .inl (k 0, 36, .inl (tI [] 0))), ((qm 2), .inl (k 0, 36, .inl (tI [] 0))), ((qm 3), .inl (k 1, 9, .inr (.inl (tL [] 0)))), ((qm 4), .inl (k 1, 9, .inr (.inl (tL [] 0)))), ((qm 5), .inl (k 1, 9, .inr (.inl (tL [] 0)))), ((qm 6), .inl (k 1, 9, .inr (.inl (tL [] 0)))), ((qm 7), .inl (k 1, 4, .inr (.inl (tL [] 0)))), ((qm 8), .inl (k 0, 120, .inl (tI [] 0))), ((qm 9), .inl (k 0, 36, .inl (tI [] 0))), ((qm 10), .inl (k 1, 900, .inr (.inl (tL [] 0)))), ((qm 11), .inl (k 0, 100, .inl (tI [] 0))), ((qm 12), .inl (k 0, 100, .inl (tI [] 0))), ((qm 13), .inl (k 0, 100, .inl (tI [] 0))), ((qm 14), .inl (k 0, 400, .inl (tI [] 0))), ((qm 15), .inl (k 1, 180, .inr (.inl (tL [] 0)))), ((qm 16), .inl (k 0, 240, .inl (tI [] 0))), ((qm 17), .inl (k 0, 12000, .inl (tI [] 0))), ((qm 18), .inl (k 0, 4, .inl (tI [(-1), (-1), (-1), (-1)] 0))), ((qm 19), .inl (k 0, 4, .inl (tI [] 0))), ((qm 20), .inl (k 1, 160, .inr (.inl (tL [] 0)))), ((qm 21), .inl (k 1, 40, .inr (.inl (tL [] 0))))]
theorem Jn.nil {D : va_G} {A : Nat → Prop} {wr wc : va_W} {sz : Nat} {H1 : Heap} (J : Jn D A wr wc sz H1) : va_P D cl0 wr H1 ∧ va_D A wr := by
  have h := J [] (fun k q h => by simp at h) ⟨fun i j p q h => by simp at h, fun k q h => by simp at h⟩
  rw [List.append_nil] at h
  exact h
theorem arr_of {args : Array Value} {s : State} {ty : FieldType} (h : (Cond.arrayClass ty).before args s = true) (ho : ∀ C, ty ≠ .object C) : ∃ c : ClassId, ArrOfT s c ty ∧ va_RA s c ty := by
  obtain ⟨c, k, comp, h1, h2, h3⟩ := Cond.arrayClass_spec h
  refine ⟨c, fun n z => ⟨fun k h => (by cases h), k, h2, comp, h3⟩, ?_⟩
  cases ty with
  | object C => exact absurd rfl (ho C)
  | _ => exact h1
theorem arr_ofO {C : String} {s : State} (h : va_AO C s) : ∃ c : ClassId, ArrOfT s c (.object C) ∧ va_RA s c (.object C) := by
  obtain ⟨comp, c, k, h1, h2, h3, h4, h5⟩ := Cond.arrayOver_spec h
  exact ⟨c, fun n z => ⟨fun k h => (by cases h), k, h3, comp, h4⟩, k, comp, h3, h4, h1, h5⟩
set_option maxHeartbeats 4000000 in
set_option maxRecDepth 100000 in
/-- behind a case: i becomes 6, the law ends with 1  -/
theorem law_end {p : Program} {e : Env} {s : State} {m : MethodId} {below : List Frame} {meth : Method} {c : Code} (l : Launch) {b : Nat} {xs : Nat → Int32} (C0 : lw_At p s m meth c b 6 xs) {A : Nat → Prop} (hA' : ∀ q, A q → s.heap.size ≤ q) (hbA : ¬ A b) {H : Heap} {locs : List Loc} {ls : Array Slot} {cells slots : Nat} (h1 : cells ≤ 600000) (h2 : slots ≤ 7302250) (hS : va_S A s.heap H locs) (hl : lv_has ls 4 [(3, .int 0), (0, .ref b)]) : W p l e room_1 s m #[Value.ref b] below meth c H locs cells slots (lw_Z below #[Value.ref b] s) (F0 m 1333 ls []) := by
  obtain ⟨hx, hb, hr, hml, hown, hts, hX, hbl, hlocks, hgv⟩ := id C0
  refine lv_iinc (v := 6) (lv' := [(3, .int 6), (0, .ref b)]) hx hb dL_law_1333 hl (k := 0) rfl (by decide) (by decide) rfl (fun ls hl => ?_)
  refine lv_goto (tgt := 18) hx hb dL_law_1336 (by decide) ?_
  refine lv_iload_n hx hb dL_law_18 rfl (lv_at hl 0 rfl) ?_
  refine lv_aload_n hx hb dL_law_19 rfl (lv_at hl 1 rfl) ?_
  refine va_slen hx hb hX hbl hbA hS dL_law_20 ?_
  refine lv_bipush (v := 6) hx hb dL_law_21 (by decide) ?_
  refine lv_isub hx hb dL_law_23 (sv_i (v := 0) (by decide +kernel) ?_)
  refine lv_icmp_gt (tgt := 1339) hx hb dL_law_24 (by decide) (fun _ => ?_) (fun cc => absurd (by decide +kernel) cc)
  refine lv_iconst (v := 1) hx hb dL_law_1339 (by decide) ?_
  refine va_forget (fun q hq => hA' _ (hS.2.2 q hq)) ?_
  refine W.widen (k := 600000) (n := 7302250) h1 h2 ?_
  exact lw_ret hx hb hr hlocks dL_law_1340
