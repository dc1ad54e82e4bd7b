theorem lw_c {c d n : Nat} (h : c + 100 ≤ n) (hd : Nat.ble d 100 = true) : c + d ≤ n := by
  have := Nat.le_of_ble_eq_true hd
  omega
theorem lw_c2 {c d n : Nat} (h : c + 20000 ≤ n) (hd : Nat.ble d 20000 = true) : c + d ≤ n := by
  have := Nat.le_of_ble_eq_true hd
  omega
theorem lw_w {c d e : Nat} (h : Nat.ble d e = true) : c + d ≤ c + e := by
  have := Nat.le_of_ble_eq_true h
  omega
theorem lw_ad {i j : Int} {L : Nat} (hL : L ≤ 3072) (hi : 0 ≤ i ∧ i + 6 ≤ (L : Int)) (h : 0 ≤ j ∧ j ≤ 6) : -2147483648 ≤ i + j ∧ i + j < 2147483648 := by omega
theorem lw_in {i j v : Int} {L : Nat} (hi : 0 ≤ i ∧ i + 6 ≤ (L : Int)) (e : v = i + j) (h : 0 ≤ j ∧ j < 6) : 0 ≤ v ∧ v < (L : Int) := by omega
theorem bw {l h l2 h2 x : Int} (b : l ≤ x ∧ x ≤ h) (w : l2 ≤ l ∧ h ≤ h2) : l2 ≤ x ∧ x ≤ h2 := by omega
