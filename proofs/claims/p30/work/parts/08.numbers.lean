/-! numbers: what is known of an Int32 is known of its toInt -/
theorem ai_bm {z : Int} (h : -2147483648 ≤ z ∧ z < 2147483648) : z.bmod (2 ^ 32) = z := by
  rw [Int.bmod_eq_of_le (by omega) (by omega)]
theorem ai_bmL {z : Int} (h : -9223372036854775808 ≤ z ∧ z < 9223372036854775808) : z.bmod (2 ^ 64) = z := by
  rw [Int.bmod_eq_of_le (by omega) (by omega)]
theorem ai_add {v a b : Int32} {x y : Int} (h : v = a + b) (ha : a.toInt = x) (hb : b.toInt = y) (hh : -2147483648 ≤ x + y ∧ x + y < 2147483648) : v.toInt = x + y := by
  rw [h, Int32.toInt_add, ha, hb, ai_bm hh]
theorem i32b (x : Int32) : -2147483648 ≤ x.toInt ∧ x.toInt ≤ 2147483647 := by
  have h1 := Int32.toInt_lt x; have h2 := Int32.le_toInt x; omega
theorem i64b (x : Int64) : -9223372036854775808 ≤ x.toInt ∧ x.toInt ≤ 9223372036854775807 := by
  have h1 := Int64.toInt_lt x; have h2 := Int64.le_toInt x; omega
theorem ai_sub {v a b : Int32} {x y : Int} (h : v = a - b) (ha : a.toInt = x) (hb : b.toInt = y) (hh : -2147483648 ≤ x - y ∧ x - y < 2147483648) : v.toInt = x - y := by
  rw [h, Int32.toInt_sub, ha, hb, ai_bm hh]
theorem ai_mul {v a b : Int32} {x y : Int} (h : v = a * b) (ha : a.toInt = x) (hb : b.toInt = y) (hh : -2147483648 ≤ x * y ∧ x * y < 2147483648) : v.toInt = x * y := by
  rw [h, Int32.toInt_mul, ha, hb, ai_bm hh]
theorem ai_neg {v a : Int32} {x : Int} (h : v = -a) (ha : a.toInt = x) (hh : -2147483648 < x) : v.toInt = -x := by
  have h1 := Int32.toInt_lt a
  rw [h, Int32.toInt_neg, ha, ai_bm (by omega)]
/-- two unknown factors, none below 0: bounds that are linear in each -/
theorem ai_mm {v a b : Int32} {x y la ua lb ub : Int} (h : v = a * b) (ha : a.toInt = x) (hb : b.toInt = y) (h1 : 0 ≤ la ∧ la ≤ x ∧ x ≤ ua ∧ 0 ≤ lb ∧ lb ≤ y ∧ y ≤ ub) (h2 : ua * ub < 2147483648) : la * y ≤ v.toInt ∧ v.toInt ≤ ua * y ∧ lb * x ≤ v.toInt ∧ v.toInt ≤ ub * x := by
  have e0 : 0 ≤ x * y := Int.mul_nonneg (by omega) (by omega)
  have e1 : x * y ≤ ua * y := Int.mul_le_mul_of_nonneg_right (by omega) (by omega)
  have e2 : ua * y ≤ ua * ub := Int.mul_le_mul_of_nonneg_left (by omega) (by omega)
  have e3 : la * y ≤ x * y := Int.mul_le_mul_of_nonneg_right (by omega) (by omega)
  have e4 : lb * x ≤ x * y := by rw [Int.mul_comm lb x]; exact Int.mul_le_mul_of_nonneg_left (by omega) (by omega)
  have e5 : x * y ≤ ub * x := by rw [Int.mul_comm ub x]; exact Int.mul_le_mul_of_nonneg_left (by omega) (by omega)
  have e6 : v.toInt = x * y := by rw [h, Int32.toInt_mul, ha, hb, ai_bm (by omega)]
  rw [e6]
  exact ⟨e3, e1, e4, e5⟩
theorem ai_div {v a b : Int32} {x y : Int} (h : v = a / b) (ha : a.toInt = x) (hb : b.toInt = y) (h1 : 0 ≤ x ∧ 0 < y) : v.toInt = x / y := by
  rw [h, lg_idiv_nonneg (by omega) (by omega), ha, hb]
theorem ai_rem {v a b : Int32} {x y : Int} (h : v = a - a / b * b) (ha : a.toInt = x) (hb : b.toInt = y) (h1 : 0 ≤ x ∧ 0 < y) : v.toInt = x % y := by
  have hq : (a / b).toInt = x / y := ai_div rfl ha hb h1
  have hr := Int32.toInt_lt a
  have hd : x / y * y + x % y = x := by rw [Int.mul_comm]; exact Int.mul_ediv_add_emod x y
  have hm : 0 ≤ x % y := Int.emod_nonneg x (by omega)
  have hm2 : x % y < y := Int.emod_lt_of_pos x h1.2
  have h0 : 0 ≤ x / y * y := Int.mul_nonneg (Int.ediv_nonneg h1.1 (by omega)) (by omega)
  have e1 : (a / b * b).toInt = x / y * y := ai_mul rfl hq hb (by omega)
  rw [ai_sub h ha e1 (by omega)]
  omega
/-- by an unknown divisor above 0: less than it, and not below 0 -/
theorem ai_remv {v a b : Int32} {x y : Int} (h : v = a - a / b * b) (ha : a.toInt = x) (hb : b.toInt = y) (h1 : 0 ≤ x ∧ 0 < y) : 0 ≤ v.toInt ∧ v.toInt < y ∧ v.toInt ≤ x := by
  rw [ai_rem h ha hb h1]
  have hm : 0 ≤ x % y := Int.emod_nonneg x (by omega)
  have hm2 : x % y < y := Int.emod_lt_of_pos x h1.2
  have hd : x / y * y + x % y = x := by rw [Int.mul_comm]; exact Int.mul_ediv_add_emod x y
  have h0 : 0 ≤ x / y * y := Int.mul_nonneg (Int.ediv_nonneg h1.1 (by omega)) (by omega)
  omega
theorem ai_divv {v a b : Int32} {x y : Int} (h : v = a / b) (ha : a.toInt = x) (hb : b.toInt = y) (h1 : 0 ≤ x ∧ 0 < y) : 0 ≤ v.toInt ∧ v.toInt ≤ x := by
  rw [ai_div h ha hb h1]
  exact ⟨Int.ediv_nonneg h1.1 (by omega), Int.ediv_le_self _ h1.1⟩
theorem ai_and {v a b : Int32} (n : Nat) (h : v = a &&& b) (hb : b.toBitVec.toNat = 2 ^ n - 1) (hn : n ≤ 30) : 0 ≤ v.toInt ∧ v.toInt < ((2 ^ n : Nat) : Int) := by
  rw [h]
  exact vp_in_iff.mp (pk_andIn a n hb hn)
theorem ai_ushr16 {v a : Int32} (h : v = (a.toUInt32 >>> ((16 : Int32).toUInt32 &&& Int32.toUInt32 31)).toInt32) : 0 ≤ v.toInt ∧ v.toInt ≤ 65535 := by
  have e := pk_ushr a 16 16 (by decide +kernel)
  rw [← h] at e
  have h1 : a.toBitVec.toNat < 2 ^ 32 := a.toBitVec.isLt
  have h2 : v.toBitVec.toNat ≤ 65535 := by rw [e]; omega
  have h3 : v.toInt = (v.toBitVec.toNat : Int) := by
    show v.toBitVec.toInt = _
    rw [BitVec.toInt_eq_toNat_of_lt (by omega)]
  rw [h3]
  omega
theorem ai_i2l {v : Int64} {a : Int32} {x : Int} (h : a.toInt64 = v) (ha : a.toInt = x) : v.toInt = x := by
  rw [← h, Int32.toInt_toInt64, ha]
theorem ai_l2i {v : Int32} {a : Int64} {x : Int} (h : a.toInt32 = v) (ha : a.toInt = x) (hh : -2147483648 ≤ x ∧ x < 2147483648) : v.toInt = x := by
  rw [← h, Int64.toInt_toInt32, ha, ai_bm hh]
theorem al_add {v a b : Int64} {x y : Int} (h : v = a + b) (ha : a.toInt = x) (hb : b.toInt = y) (hh : -9223372036854775808 ≤ x + y ∧ x + y < 9223372036854775808) : v.toInt = x + y := by
  rw [h, Int64.toInt_add, ha, hb, ai_bmL hh]
theorem al_sub {v a b : Int64} {x y : Int} (h : v = a - b) (ha : a.toInt = x) (hb : b.toInt = y) (hh : -9223372036854775808 ≤ x - y ∧ x - y < 9223372036854775808) : v.toInt = x - y := by
  rw [h, Int64.toInt_sub, ha, hb, ai_bmL hh]
theorem al_neg {v a : Int64} {x : Int} (h : v = -a) (ha : a.toInt = x) (hh : -9223372036854775808 < x) : v.toInt = -x := by
  have h1 := Int64.toInt_lt a
  rw [h, Int64.toInt_neg, ha, ai_bmL (by omega)]
theorem ni_lt {a b : Int32} {x y : Int} (h : a < b) (ha : a.toInt = x) (hb : b.toInt = y) : x < y := by
  have := Int32.lt_iff_toInt_lt.mp h; omega
theorem ni_le {a b : Int32} {x y : Int} (h : a ≤ b) (ha : a.toInt = x) (hb : b.toInt = y) : x ≤ y := by
  have := Int32.le_iff_toInt_le.mp h; omega
theorem ni_eq {a b : Int32} {x y : Int} (h : a = b) (ha : a.toInt = x) (hb : b.toInt = y) : x = y := by
  subst h; omega
theorem ni_nlt {a b : Int32} {x y : Int} (h : ¬ a < b) (ha : a.toInt = x) (hb : b.toInt = y) : y ≤ x := by
  exact Int.not_lt.mp (fun q => h (Int32.lt_iff_toInt_lt.mpr (by omega)))
theorem ni_nle {a b : Int32} {x y : Int} (h : ¬ a ≤ b) (ha : a.toInt = x) (hb : b.toInt = y) : y < x := by
  exact Int.not_le.mp (fun q => h (Int32.le_iff_toInt_le.mpr (by omega)))
theorem ni_ne {a b : Int32} {x y : Int} (h : ¬ a = b) (ha : a.toInt = x) (hb : b.toInt = y) : x ≠ y :=
  fun q => h (Int32.toInt_inj.mp (by omega))
theorem nl_lt {a b : Int64} {x y : Int} (h : lg_cmp a b < 0) (ha : a.toInt = x) (hb : b.toInt = y) : x < y := by
  have := Int64.lt_iff_toInt_lt.mp ((lg_cmp_lt a b).mp h); omega
theorem nl_nlt {a b : Int64} {x y : Int} (h : ¬ lg_cmp a b < 0) (ha : a.toInt = x) (hb : b.toInt = y) : y ≤ x :=
  Int.not_lt.mp (fun q => h ((lg_cmp_lt a b).mpr (Int64.lt_iff_toInt_lt.mpr (by omega))))
theorem nl_le {a b : Int64} {x y : Int} (h : lg_cmp a b ≤ 0) (ha : a.toInt = x) (hb : b.toInt = y) : x ≤ y := by
  have := Int64.le_iff_toInt_le.mp ((lg_cmp_le a b).mp h); omega
theorem nl_nle {a b : Int64} {x y : Int} (h : ¬ lg_cmp a b ≤ 0) (ha : a.toInt = x) (hb : b.toInt = y) : y < x :=
  Int.not_le.mp (fun q => h ((lg_cmp_le a b).mpr (Int64.le_iff_toInt_le.mpr (by omega))))
theorem nl_gt {a b : Int64} {x y : Int} (h : 0 < lg_cmp a b) (ha : a.toInt = x) (hb : b.toInt = y) : y < x := by
  have := Int64.lt_iff_toInt_lt.mp ((lg_cmp_gt a b).mp h); omega
theorem nl_ngt {a b : Int64} {x y : Int} (h : ¬ 0 < lg_cmp a b) (ha : a.toInt = x) (hb : b.toInt = y) : x ≤ y :=
  Int.not_lt.mp (fun q => h ((lg_cmp_gt a b).mpr (Int64.lt_iff_toInt_lt.mpr (by omega))))
theorem nl_ge {a b : Int64} {x y : Int} (h : 0 ≤ lg_cmp a b) (ha : a.toInt = x) (hb : b.toInt = y) : y ≤ x := by
  have := Int64.le_iff_toInt_le.mp ((lg_cmp_ge a b).mp h); omega
theorem nl_nge {a b : Int64} {x y : Int} (h : ¬ 0 ≤ lg_cmp a b) (ha : a.toInt = x) (hb : b.toInt = y) : x < y :=
  Int.not_le.mp (fun q => h ((lg_cmp_ge a b).mpr (Int64.le_iff_toInt_le.mpr (by omega))))
theorem nl_eq {a b : Int64} {x y : Int} (h : lg_cmp a b = 0) (ha : a.toInt = x) (hb : b.toInt = y) : x = y := by
  have := (lg_cmp_eq a b).mp h; subst this; omega
theorem nl_ne {a b : Int64} {x y : Int} (h : ¬ lg_cmp a b = 0) (ha : a.toInt = x) (hb : b.toInt = y) : x ≠ y :=
  fun q => h ((lg_cmp_eq a b).mpr (Int64.toInt_inj.mp (by omega)))
theorem nz32 {b : Int32} {y : Int} (hb : b.toInt = y) (h : y ≠ 0) : ¬ b = 0 := fun q => h (by rw [← hb, q]; rfl)
theorem nz64 {b : Int64} {y : Int} (hb : b.toInt = y) (h : y ≠ 0) : ¬ b = 0 := fun q => h (by rw [← hb, q]; rfl)
theorem rg_get {lo hi : Int} {v : Int32} {i : Nat} (h : ∃ f, rgI lo hi f ∧ v = f i) : lo ≤ v.toInt ∧ v.toInt ≤ hi := by
  obtain ⟨f, hf, rfl⟩ := h
  exact hf i
theorem rg_put {lo hi : Int} {x : Int32} {i : Nat} (h : lo ≤ x.toInt ∧ x.toInt ≤ hi) : ∀ f, rgI lo hi f → rgI lo hi (upd f i x) := by
  intro f hf j
  by_cases hj : j = i
  · rw [hj, pk_us]; exact h
  · rw [pk_un hj]; exact hf j
theorem rg_wk {lo hi lo' hi' : Int} {c : ClassId} {n : Nat} (h : lo' ≤ lo ∧ hi ≤ hi') : ∀ e, aI c n (rgI lo hi) e → aI c n (rgI lo' hi') e := by
  rintro e ⟨f, hf, rfl⟩
  exact ⟨f, fun j => ⟨by have := (hf j).1; omega, by have := (hf j).2; omega⟩, rfl⟩
def vec4 (a b c d : Int32) (f : Nat → Int32) : Prop := f 0 = a ∧ f 1 = b ∧ f 2 = c ∧ f 3 = d
theorem x4_g0 {a b c d v i : Int32} (h : ∃ f, vec4 a b c d f ∧ v = f i.toNatClampNeg) (hi : i.toInt = 0) : a = v := by
  obtain ⟨f, hf, rfl⟩ := h
  rw [cl_of (z := 0) hi]; exact hf.1.symm
theorem x4_g1 {a b c d v i : Int32} (h : ∃ f, vec4 a b c d f ∧ v = f i.toNatClampNeg) (hi : i.toInt = 1) : b = v := by
  obtain ⟨f, hf, rfl⟩ := h
  rw [cl_of (z := 1) hi]; exact hf.2.1.symm
theorem x4_g2 {a b c d v i : Int32} (h : ∃ f, vec4 a b c d f ∧ v = f i.toNatClampNeg) (hi : i.toInt = 2) : c = v := by
  obtain ⟨f, hf, rfl⟩ := h
  rw [cl_of (z := 2) hi]; exact hf.2.2.1.symm
theorem x4_g3 {a b c d v i : Int32} (h : ∃ f, vec4 a b c d f ∧ v = f i.toNatClampNeg) (hi : i.toInt = 3) : d = v := by
  obtain ⟨f, hf, rfl⟩ := h
  rw [cl_of (z := 3) hi]; exact hf.2.2.2.symm
theorem x4_rg {lo hi : Int} {a b c d v i : Int32} (h : ∃ f, vec4 a b c d f ∧ v = f i.toNatClampNeg) (hb : (lo ≤ a.toInt ∧ a.toInt ≤ hi) ∧ (lo ≤ b.toInt ∧ b.toInt ≤ hi) ∧ (lo ≤ c.toInt ∧ c.toInt ≤ hi) ∧ (lo ≤ d.toInt ∧ d.toInt ≤ hi)) (hi' : 0 ≤ i.toInt ∧ i.toInt ≤ 3) : lo ≤ v.toInt ∧ v.toInt ≤ hi := by
  rcases (show i.toInt = 0 ∨ i.toInt = 1 ∨ i.toInt = 2 ∨ i.toInt = 3 by omega) with q | q | q | q
  · rw [← x4_g0 h q]; exact hb.1
  · rw [← x4_g1 h q]; exact hb.2.1
  · rw [← x4_g2 h q]; exact hb.2.2.1
  · rw [← x4_g3 h q]; exact hb.2.2.2
theorem x4_p0 {a b c d x i : Int32} (hi : i.toInt = 0) : ∀ f, vec4 a b c d f → vec4 x b c d (upd f i.toNatClampNeg x) := by
  intro f hf
  rw [cl_of (z := 0) hi]
  exact ⟨pk_us, (pk_un (by decide)).trans hf.2.1, (pk_un (by decide)).trans hf.2.2.1, (pk_un (by decide)).trans hf.2.2.2⟩
theorem x4_p1 {a b c d x i : Int32} (hi : i.toInt = 1) : ∀ f, vec4 a b c d f → vec4 a x c d (upd f i.toNatClampNeg x) := by
  intro f hf
  rw [cl_of (z := 1) hi]
  exact ⟨(pk_un (by decide)).trans hf.1, pk_us, (pk_un (by decide)).trans hf.2.2.1, (pk_un (by decide)).trans hf.2.2.2⟩
theorem x4_p2 {a b c d x i : Int32} (hi : i.toInt = 2) : ∀ f, vec4 a b c d f → vec4 a b x d (upd f i.toNatClampNeg x) := by
  intro f hf
  rw [cl_of (z := 2) hi]
  exact ⟨(pk_un (by decide)).trans hf.1, (pk_un (by decide)).trans hf.2.1, pk_us, (pk_un (by decide)).trans hf.2.2.2⟩
theorem x4_p3 {a b c d x i : Int32} (hi : i.toInt = 3) : ∀ f, vec4 a b c d f → vec4 a b c x (upd f i.toNatClampNeg x) := by
  intro f hf
  rw [cl_of (z := 3) hi]
  exact ⟨(pk_un (by decide)).trans hf.1, (pk_un (by decide)).trans hf.2.1, (pk_un (by decide)).trans hf.2.2.1, pk_us⟩
theorem al_rem {v a b : Int64} (h : v = a - a / b * b) (hb : ¬ b = 0) : v.toInt.natAbs < b.toInt.natAbs := by
  have hb0 : b.toInt ≠ 0 := fun q => hb (Int64.toInt_inj.mp (by rw [q]; rfl))
  have hb1 : 0 < b.toInt.natAbs := Int.natAbs_pos.mpr hb0
  have hm : (a.toInt.tmod b.toInt).natAbs < b.toInt.natAbs := by rw [Int.natAbs_tmod]; exact Nat.mod_lt _ hb1
  have e : (a - a / b * b).toInt = a.toInt.tmod b.toInt := by
    have h2 : a.toInt - a.toInt.tdiv b.toInt * b.toInt = a.toInt.tmod b.toInt := by
      have := Int.tmod_add_mul_tdiv a.toInt b.toInt
      have hc : b.toInt * a.toInt.tdiv b.toInt = a.toInt.tdiv b.toInt * b.toInt := Int.mul_comm _ _
      omega
    have r1 := Int64.le_toInt b
    have r2 := Int64.toInt_lt b
    rw [Int64.toInt_sub, Int64.toInt_mul, Int64.toInt_div, Int.bmod_mul_bmod, Int.sub_bmod_bmod, h2]
    exact ai_bmL (by omega)
  rw [h, e]
  exact hm
theorem dv10 {x a b : Int} (ha : 0 ≤ a) (h : a * 10 = b) : x / a / 10 = x / b := by rw [Int.ediv_ediv_of_nonneg ha, h]
/-- an array of longs of which some places hold 0 -/
def zJ (l : List Nat) (f : Nat → Int64) : Prop := ∀ j ∈ l, f j = 0
theorem z_of {c : ClassId} {n : Nat} : ∀ e, aJ c n anJ e → aJ c n (zJ []) e := by
  rintro e ⟨f, -, rfl⟩
  exact ⟨f, fun j hj => (by cases hj), rfl⟩
theorem z_an {c : ClassId} {n : Nat} {l : List Nat} : ∀ e, aJ c n (zJ l) e → aJ c n anJ e := by
  rintro e ⟨f, -, rfl⟩
  exact ⟨f, trivial, rfl⟩
theorem z_sub {c : ClassId} {n : Nat} {l m : List Nat} (h : ∀ j ∈ m, j ∈ l) : ∀ e, aJ c n (zJ l) e → aJ c n (zJ m) e := by
  rintro e ⟨f, hf, rfl⟩
  exact ⟨f, fun j hj => hf j (h j hj), rfl⟩
theorem z_get {l : List Nat} {v : Int64} {i : Int32} {z : Nat} (h : ∃ f, zJ l f ∧ v = f i.toNatClampNeg) (hi : i.toInt = (z : Int)) (hz : z ∈ l) : 0 = v := by
  obtain ⟨f, hf, rfl⟩ := h
  rw [cl_of hi]; exact (hf z hz).symm
theorem z_put0 {l l' : List Nat} {i : Int32} {z : Nat} (hi : i.toInt = (z : Int)) (h : ∀ j ∈ l', j = z ∨ j ∈ l) : ∀ f, zJ l f → zJ l' (vp_updL f i.toNatClampNeg 0) := by
  intro f hf j hj
  rw [cl_of hi]
  by_cases hjz : j = z
  · rw [hjz, pk_uLs]
  · rw [pk_uLn hjz]; exact hf j ((h j hj).resolve_left hjz)
theorem z_putx {l l' : List Nat} {i : Int32} {x : Int64} {z : Nat} (hi : i.toInt = (z : Int)) (h : ∀ j ∈ l', j ≠ z ∧ j ∈ l) : ∀ f, zJ l f → zJ l' (vp_updL f i.toNatClampNeg x) := by
  intro f hf j hj
  rw [cl_of hi, pk_uLn (h j hj).1]
  exact hf j (h j hj).2
/-! the digits of found, in the reference -/
def dgP (x l n a m : Int) : Prop := 0 ≤ n ∧ (0 < l → l * 10 ^ n.toNat ≤ x) ∧ (a = 1 → 0 ≤ x ∧ l = x / 10 ^ n.toNat ∧ ∀ t : Nat, (t : Int) < n → 1 ≤ x / 10 ^ t % 10 ∧ x / 10 ^ t % 10 ≤ m)
theorem dg_p10 (t : Nat) : (0 : Int) < 10 ^ t := Int.pow_pos (by decide)
theorem dg_0 {x l n a m : Int} (h : l = x ∧ n = 0 ∧ (a = 1 → 0 ≤ x)) : dgP x l n a m := by
  obtain ⟨rfl, rfl, h⟩ := h
  refine ⟨Int.le_refl _, fun _ => by simp, fun q => ⟨h q, by simp, fun t ht => absurd ht (by omega)⟩⟩
theorem dg_1 {x l n a m l' n' a' : Int} (w : dgP x l n a m) (h : 0 < l ∧ l' = l / 10 ∧ n' = n + 1 ∧ (a' = 1 → a = 1 ∧ 1 ≤ l % 10 ∧ l % 10 ≤ m)) : dgP x l' n' a' m := by
  obtain ⟨hl, rfl, rfl, ha⟩ := h
  obtain ⟨w1, w2, w3⟩ := w
  have e : (n + 1).toNat = n.toNat + 1 := by omega
  refine ⟨by omega, fun q => ?_, fun q => ?_⟩
  · rw [e, Int.pow_succ]
    have h1 := w2 hl
    have h2 : l / 10 * 10 ≤ l := Int.ediv_mul_le l (by decide)
    have h3 : (l / 10 * 10) * 10 ^ n.toNat ≤ l * 10 ^ n.toNat := Int.mul_le_mul_of_nonneg_right h2 (Int.le_of_lt (dg_p10 _))
    rw [Int.mul_comm (10 ^ n.toNat), ← Int.mul_assoc]
    omega
  · obtain ⟨ha, h1, h2⟩ := ha q
    obtain ⟨z0, z1, z2⟩ := w3 ha
    refine ⟨z0, ?_, fun t ht => ?_⟩
    · rw [e, Int.pow_succ, ← Int.ediv_ediv_of_nonneg (Int.le_of_lt (dg_p10 _)), ← z1]
    · by_cases hq : (t : Int) < n
      · exact z2 t hq
      · have ht : t = n.toNat := by omega
        rw [ht, ← z1]; exact ⟨h1, h2⟩
theorem dg_len {x l n a m : Int} (w : dgP x l n a m) (h : 0 < l ∧ x ≤ 2147483647) : n ≤ 9 := by
  obtain ⟨w1, w2, -⟩ := w
  have h1 := w2 h.1
  apply Int.not_lt.mp
  intro q
  have e : n.toNat = 10 + (n.toNat - 10) := by omega
  rw [e, Int.pow_add] at h1
  have h2 : (1 : Int) ≤ 10 ^ (n.toNat - 10) := dg_p10 _
  have h3 : (10 ^ 10 : Int) * 1 ≤ 10 ^ 10 * 10 ^ (n.toNat - 10) := Int.mul_le_mul_of_nonneg_left h2 (by decide)
  have h4 : (1 : Int) * (10 ^ 10 * 10 ^ (n.toNat - 10)) ≤ l * (10 ^ 10 * 10 ^ (n.toNat - 10)) := Int.mul_le_mul_of_nonneg_right (by omega) (by omega)
  omega
def dgA (x n m : Int) : Prop := ∀ t : Nat, (t : Int) < n → 1 ≤ x / 10 ^ t % 10 ∧ x / 10 ^ t % 10 ≤ m
theorem dg_all {x l n a m : Int} (w : dgP x l n a m) (h : a = 1) : dgA x n m := (w.2.2 h).2.2
def pwP (p k n : Int) : Prop := 1 ≤ k ∧ (1 ≤ n → k ≤ n) ∧ p = 10 ^ (k - 1).toNat
theorem pw_0 {p k n : Int} (h : p = 1 ∧ k = 1) : pwP p k n := by
  obtain ⟨rfl, rfl⟩ := h
  exact ⟨by decide, fun h => h, by decide⟩
theorem pw_1 {p k n p' k' : Int} (w : pwP p k n) (h : p' = p * 10 ∧ k' = k + 1 ∧ k < n) : pwP p' k' n := by
  obtain ⟨rfl, rfl, h⟩ := h
  obtain ⟨w1, w2, w3⟩ := w
  refine ⟨by omega, by omega, ?_⟩
  rw [show (k + 1 - 1).toNat = (k - 1).toNat + 1 by omega, Int.pow_succ, w3]
theorem pw_le {p k n : Int} (w : pwP p k n) (h : k ≤ 8) : 1 ≤ p ∧ p ≤ 10000000 := by
  obtain ⟨w1, -, rfl⟩ := w
  rcases (show k = 1 ∨ k = 2 ∨ k = 3 ∨ k = 4 ∨ k = 5 ∨ k = 6 ∨ k = 7 ∨ k = 8 by omega) with rfl | rfl | rfl | rfl | rfl | rfl | rfl | rfl <;> decide
def qwP (p k n : Int) : Prop := 0 ≤ k ∧ (k < n → p = 10 ^ (n - 1 - k).toNat)
theorem qw_0 {p k n k' : Int} (w : pwP p k n) (h : n ≤ k ∧ k' = 0) : qwP p k' n := by
  obtain ⟨h, rfl⟩ := h
  refine ⟨by decide, fun q => ?_⟩
  have h1 := w.2.1 (by omega)
  rw [w.2.2]
  exact congrArg (fun t : Nat => (10 : Int) ^ t) (by omega)
theorem qw_1 {p k n p' k' : Int} (w : qwP p k n) (h : k < n ∧ p' = p / 10 ∧ k' = k + 1) : qwP p' k' n := by
  obtain ⟨h, rfl, rfl⟩ := h
  refine ⟨by have := w.1; omega, fun q => ?_⟩
  rw [w.2 h, show (n - 1 - k).toNat = (n - 1 - (k + 1)).toNat + 1 by omega, Int.pow_succ]
  exact Int.mul_ediv_cancel _ (by decide)
theorem qw_pos {p k n : Int} (w : qwP p k n) (h : k < n ∧ n ≤ 9) : 1 ≤ p ∧ p ≤ 100000000 := by
  obtain ⟨w1, w2⟩ := w
  rw [w2 h.1]
  have hz : (n - 1 - k).toNat ≤ 8 := by omega
  revert hz
  generalize (n - 1 - k).toNat = z
  intro hz
  rcases (show z = 0 ∨ z = 1 ∨ z = 2 ∨ z = 3 ∨ z = 4 ∨ z = 5 ∨ z = 6 ∨ z = 7 ∨ z = 8 by omega) with rfl | rfl | rfl | rfl | rfl | rfl | rfl | rfl | rfl <;> decide
theorem qw_dig {p k n x m q r v : Int} (w : qwP p k n) (hd : dgA x n m) (hq : q = x / p) (h : k < n ∧ m ≤ 4 ∧ r = q % 10 ∧ v = r - 1) : 0 ≤ v ∧ v ≤ 3 := by
  obtain ⟨h, hm, rfl, rfl⟩ := h
  have := hd (n - 1 - k).toNat (by have := w.1; omega)
  rw [hq, w.2 h]
  omega
